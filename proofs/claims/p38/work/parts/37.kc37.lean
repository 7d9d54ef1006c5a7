theorem kn63 : (63 : Int32).toInt = 63 := by decide
theorem knm100 : ((-100) : Int32).toInt = (-100) := by decide
theorem kn59 : (59 : Int32).toInt = 59 := by decide
theorem oz1283 {a0 a1 : Int} (h0 : a0 ≤ 50) (h1 : a1 < a0) : a1 < 50 := by omega
theorem oz1284 {a0 a1 : Int} (h0 : a0 ≤ 120) (h1 : (2 * a1) ≤ a0) : a1 < 61 := by omega
theorem oz1285 {a0 a1 a2 : Int} (h0 : a0 = a1) (h1 : a2 ≤ 120) (h2 : (2 * a1) ≤ a2) : a0 < 61 := by omega
theorem oz1286 {a0 : Int} (h0 : a0 = 63) : (0 : Int) ≤ a0 := by omega
theorem oz1287 {a0 a1 a2 a3 : Int} (h0 : a0 = a1) (h1 : a2 = a0) (h2 : a3 ≤ 120) (h3 : (2 * a1) ≤ a3) : a2 < 61 := by omega
theorem oz1288 {a0 a1 : Int} (h0 : a0 ≤ 61) (h1 : a1 = 1) : a0 + a1 ≤ 2147483647 := by omega
theorem oz1289 {a0 a1 a2 a3 a4 a5 a6 : Int} (h0 : a0 = a1) (h1 : a2 = a0) (h2 : a3 = a2) (h3 : a4 ≤ 120) (h4 : (2 * a1) ≤ a4) (h5 : a5 = a3 + a6) (h6 : a6 = 1) : a5 ≤ 61 := by omega
theorem oz1290 {a0 a1 a2 a3 a4 : Int} (h0 : a0 = a1) (h1 : a2 = a0) (h2 : a3 = a2) (h3 : a4 ≤ 120) (h4 : (2 * a1) ≤ a4) : a3 < 61 := by omega
theorem oz1291 {a0 a1 a2 a3 a4 a5 a6 a7 a8 a9 a10 a11 a12 a13 a14 a15 a16 a17 a18 : Int} (h0 : a0 = a1) (h1 : a2 = a3) (h2 : a4 = a5) (h3 : a6 = a0) (h4 : a7 = a6) (h5 : a8 = 0) (h6 : a9 ≤ a10) (h7 : (2 * a1) ≤ a10) (h8 : a11 = a7 + a12) (h9 : a3 = a8) (h10 : (a5 - a13) ≤ (a9 - a10)) (h11 : (a10 + 1) ≤ a13) (h12 : a14 = (a13 + 1)) (h13 : a15 = a2) (h14 : a16 ≤ a17) (h15 : (a18 - a16) ≤ (a4 - a14)) (h16 : (a14 + 1) ≤ a16) (h17 : a12 = 1) : (a15 = 0) ∧ (a18 ≤ a16) ∧ (a16 ≤ a17) ∧ ((2 * a11) ≤ (a16 + 1)) ∧ (a11 = (a1 + 1)) ∧ (a10 ≤ a16) := by omega
theorem oz1292 {a0 a1 a2 a3 a4 a5 : Int} (h0 : a0 = a1) (h1 : a2 = a0) (h2 : a3 = a2) (h3 : a4 = a3 + a5) (h4 : a5 = 1) : a4 = a1 + 1 := by omega
theorem oz1293 {a0 : Int} (h0 : a0 ≤ 200) : a0 ≤ 200 := by omega
theorem oz1294 {a0 a1 a2 a3 a4 a5 : Int} (h0 : a0 = a1) (h1 : a2 = a0) (h2 : a3 ≤ 120) (h3 : (2 * a1) ≤ a3) (h4 : a4 = a2 + a5) (h5 : a5 = 1) : a4 ≤ 61 := by omega
theorem oz1295 {a0 a1 a2 a3 a4 a5 a6 a7 a8 a9 a10 a11 a12 a13 a14 a15 : Int} (h0 : a0 = a1) (h1 : a2 = a3) (h2 : a4 = a5) (h3 : a6 = a7) (h4 : a8 = a0) (h5 : a9 = 0) (h6 : a10 ≤ a11) (h7 : (2 * a1) ≤ a11) (h8 : a12 = a8 + a13) (h9 : a14 = a15) (h10 : a5 = a9) (h11 : a15 ≤ a3) (h12 : (a7 - a15) ≤ (a10 - a11)) (h13 : (a11 + 1) ≤ a15) (h14 : a13 = 1) : (a4 = 0) ∧ (a6 ≤ a14) ∧ (a14 ≤ a2) ∧ ((2 * a12) ≤ (a14 + 1)) ∧ (a12 = (a1 + 1)) ∧ (a11 ≤ a14) := by omega
theorem oz1296 {a0 a1 a2 a3 a4 : Int} (h0 : a0 = a1) (h1 : a2 = a0) (h2 : a3 = a2 + a4) (h3 : a4 = 1) : a3 = a1 + 1 := by omega
theorem oz1297 {a0 : Int} (h0 : a0 = 0) : a0 ≤ 120 := by omega
theorem oz1298 {a0 : Int} (h0 : a0 = 0) : a0 ≤ 200 := by omega
theorem oz1299 {a0 : Int} (h0 : a0 = 0) : a0 ≤ 61 := by omega
theorem oz1300 {a0 a1 : Int} (h0 : (0 : Int) ≤ a0) (h1 : a1 = 0) : (a1 = 0) ∧ (a1 ≤ a1) ∧ (a1 ≤ a0) := by omega
theorem oz1301 {a0 : Int} (h0 : a0 = 0) : (2 * a0) ≤ a0 := by omega
theorem oz1302 {a0 a1 : Int} (h0 : a0 ≤ 120) (h1 : a1 = (-100)) : (-2147483648 : Int) ≤ a1 - a0 := by omega
theorem oz1304 {a0 : Int} (h0 : a0 = 59) : (0 : Int) ≤ a0 := by omega
theorem oz1307 {a0 a1 : Int} (h0 : a0 ≠ a1) (h1 : (0 : Int) ≤ a0) (h2 : a0 ≤ 1) (h3 : a1 = 0) : a0 = 1 := by omega
theorem oz1308 {a0 : Int} (h0 : a0 = 1) : ((0 : Int) ≤ a0) ∧ (a0 ≤ 1) := by omega
theorem oz1309 {a0 a1 a2 a3 a4 a5 : Int} (h0 : a0 = 0) (h1 : a1 ≤ a2) (h2 : a2 ≤ a3) (h3 : (2 * a4) ≤ (a2 + 1)) (h4 : a5 = 1) : ((a5 = 1) → ((a0 = 0) ∧ (a1 ≤ a2) ∧ (a2 ≤ a3) ∧ ((2 * a4) ≤ (a2 + 1)))) := by omega
theorem oz1310 {a0 a1 a2 a3 a4 a5 a6 a7 a8 : Int} (h0 : a0 ≠ a1) (h1 : a2 = a3) (h2 : a4 = a2) (h3 : (0 : Int) ≤ a0) (h4 : a5 = (a6 + 1)) (h5 : a5 ≤ a7) (h6 : a1 = 0) (h7 : a8 = 1) : (((200 * a8) + a4) - a7) < (((200 * a0) + a3) - a6) := by omega
theorem oz1311 {a0 a1 a2 a3 a4 : Int} (h0 : a0 = a1) (h1 : (0 : Int) ≤ a2) (h2 : a3 = (a4 + 1)) (h3 : a3 ≤ a0) : (1 : Int) ≤ (((200 * a2) + a1) - a4) := by omega
theorem oz1312 {a0 : Int} (h0 : a0 = 0) : ((0 : Int) ≤ a0) ∧ (a0 ≤ 1) := by omega
theorem oz1313 {a0 a1 a2 a3 a4 a5 : Int} (h0 : a0 = 0) : ((a0 = 1) → ((a1 = 0) ∧ (a2 ≤ a3) ∧ (a3 ≤ a4) ∧ ((2 * a5) ≤ (a3 + 1)))) := by omega
theorem oz1314 {a0 a1 a2 a3 a4 a5 a6 a7 : Int} (h0 : a0 ≠ a1) (h1 : a2 = a3) (h2 : a4 ≤ 120) (h3 : (0 : Int) ≤ a5) (h4 : (0 : Int) ≤ a0) (h5 : a6 = (a7 + 1)) (h6 : a6 ≤ a2) (h7 : a1 = 0) : (((200 * a1) + a4) - a5) < (((200 * a0) + a3) - a7) := by omega
theorem oz1318 {a0 a1 a2 : Int} (h0 : a0 ≤ a1) (h1 : a0 = a2) : a2 ≤ a1 := by omega
theorem oz1319 {a0 a1 a2 a3 : Int} (h0 : a0 ≤ a1) (h1 : a2 = a3) (h2 : a0 = a2) : a3 ≤ a1 := by omega
theorem oz1320 {a0 a1 a2 a3 : Int} (h0 : a0 < a1) (h1 : (0 : Int) ≤ a0) (h2 : a2 = a0 + a3) (h3 : a3 = 1) : ((0 : Int) ≤ a2) ∧ (a2 ≤ a1) := by omega
theorem oz1321 {a0 a1 : Int} (h0 : (0 : Int) ≤ a0) (h1 : a1 = 0) : ((0 : Int) ≤ a1) ∧ (a1 ≤ a0) := by omega
theorem oz1322 {a0 a1 : Int} (h0 : a0 < a1) (h1 : a1 ≤ 60) : a0 < 61 := by omega
theorem oz1324 {a0 a1 : Int} (h0 : (0 : Int) ≤ a0) (h1 : a1 = (-100)) : a1 - a0 ≤ 2147483647 := by omega
theorem oz1325 {a0 a1 a2 a3 a4 a5 a6 a7 a8 a9 a10 : Int} (h0 : a0 ≠ a1) (h1 : a2 = a3) (h2 : a4 = a5) (h3 : (0 : Int) ≤ a0) (h4 : a0 ≤ 1) (h5 : ((a0 = 1) → ((a3 = 0) ∧ (a5 ≤ a6) ∧ (a6 ≤ a7) ∧ ((2 * a8) ≤ (a6 + 1))))) (h6 : a9 = (a6 + 1)) (h7 : a9 ≤ a10) (h8 : a1 = 0) : (a2 = 0) ∧ (a4 ≤ a9) ∧ (a9 ≤ a10) := by omega
theorem oz1326 {a0 a1 a2 a3 a4 a5 a6 a7 a8 : Int} (h0 : a0 ≠ a1) (h1 : a2 = a3) (h2 : (0 : Int) ≤ a0) (h3 : a0 ≤ 1) (h4 : ((a0 = 1) → ((a4 = 0) ∧ (a5 ≤ a6) ∧ (a6 ≤ a7) ∧ ((2 * a3) ≤ (a6 + 1))))) (h5 : a8 = (a6 + 1)) (h6 : a1 = 0) : (2 * a2) ≤ a8 := by omega
theorem oz1327 {a0 a1 a2 a3 a4 a5 a6 a7 : Int} (h0 : a0 ≠ a1) (h1 : a2 = a3) (h2 : a4 ≤ 120) (h3 : (0 : Int) ≤ a0) (h4 : a0 ≤ 1) (h5 : ((a0 = 1) → ((a5 = 0) ∧ (a6 ≤ a4) ∧ (a4 ≤ a7) ∧ ((2 * a3) ≤ (a4 + 1))))) (h6 : a1 = 0) : a2 ≤ 60 := by omega
theorem oz1328 {a0 : Int} (h0 : a0 = 0) : a0 ≤ 1 := by omega
theorem oz1329 {a0 : Int} (h0 : (0 : Int) ≤ a0) : (a0 = (-1)) ∨ ((0 : Int) ≤ a0) := by omega
theorem oz1330 {a0 : Int} (h0 : a0 = (-1)) : (a0 = (-1)) ∨ ((0 : Int) ≤ a0) := by omega
theorem oz1331 {a0 : Int} (h0 : a0 = 0) : a0 ≤ 1000 := by omega
theorem oz1332 {a0 a1 a2 : Int} (h0 : a0 ≤ a1) (h1 : a0 = 24) (h2 : a2 = 1) : (-2147483648 : Int) ≤ a1 + a2 := by omega
theorem oz1333 {a0 a1 a2 a3 : Int} (h0 : a0 ≤ a1) (h1 : a2 = a1 + a3) (h2 : a0 = 24) (h3 : a3 = 1) : (0 : Int) ≤ a2 := by omega
theorem oz1334 {a0 a1 a2 : Int} (h0 : (a0 + 1) ≤ 900) (h1 : a1 = a0 + a2) (h2 : a2 = 1) : a1 ≤ 1000 := by omega
theorem oz1335 {a0 a1 : Int} (h0 : (a0 + 1) ≤ 39) (h1 : a1 = 1) : a0 + a1 ≤ 2147483647 := by omega
theorem oz1336 {a0 : Int} (h0 : a0 ≤ 49) : a0 < 50 := by omega
theorem oz1337 {a0 : Int} (h0 : a0 = 0) (h1 : (0 : Int) ≤ a0) : a0 = 0 := by omega
theorem oz1338 {a0 : Int}  : a0 = (a0 + 0) := by omega
theorem oz1339 {a0 : Int} (h0 : (0 : Int) ≤ a0) (h1 : a0 ≤ 49) : ((0 : Int) ≤ a0) ∧ (a0 ≤ 49) := by omega
theorem oz1340 {a0 a1 a2 : Int} (h0 : (0 : Int) ≤ a0) (h1 : (a0 + 1) ≤ 39) (h2 : a1 = a0 + a2) (h3 : a2 = 1) : ((0 : Int) ≤ a1) ∧ ((a1 + 0) ≤ 39) := by omega
theorem oz1341 {a0 a1 a2 a3 : Int} (h0 : a0 ≤ a1) (h1 : (a1 + 1) ≤ 900) (h2 : a2 = a1 + a3) (h3 : a0 = 24) (h4 : a3 = 1) : ((0 : Int) ≤ a2) ∧ ((a2 + 0) ≤ 900) := by omega
theorem oz1342 {a0 a1 a2 a3 : Int} (h0 : a0 = a1) (h1 : a1 = a2 + a3) (h2 : a3 = 1) : a0 = (a2 + 1) := by omega
theorem oz1343 {a0 a1 : Int} (h0 : a0 < a1) (h1 : a1 = 24) : a0 < 24 := by omega
theorem oz1344 {a0 a1 : Int} (h0 : a0 = 0) (h1 : (0 : Int) ≤ a1) (h2 : a1 = a0) : a1 = 0 := by omega
theorem oz1345 {a0 a1 a2 : Int} (h0 : (0 : Int) ≤ a0) (h1 : (a0 + 1) ≤ 900) (h2 : a1 = a0 + a2) (h3 : a2 = 1) : ((0 : Int) ≤ a1) ∧ ((a1 + 0) ≤ 900) := by omega
theorem oz1346 {a0 a1 : Int} (h0 : a0 ≤ a1) (h1 : (a1 + 1) ≤ 39) (h2 : a0 = 40) : False := by omega
theorem oz1347 {a0 a1 : Int} (h0 : a0 ≤ 50) (h1 : (0 : Int) ≤ a1) (h2 : a1 < a0) : ((0 : Int) ≤ a1) ∧ (a1 ≤ 49) := by omega
theorem oz1348 {a0 : Int} (h0 : (0 : Int) ≤ a0) (h1 : a0 = 0) : a0 = 0 := by omega
theorem oz1349 {a0 : Int} (h0 : a0 = 0) : ((0 : Int) ≤ a0) ∧ ((a0 + 1) ≤ 39) := by omega
theorem oz1350 {a0 : Int} (h0 : a0 = 0) : ((0 : Int) ≤ a0) ∧ ((a0 + 1) ≤ 900) := by omega
theorem oz1351 {a0 a1 a2 : Int} (h0 : (a0 + 2) ≤ 900) (h1 : a1 = a0 + a2) (h2 : a2 = 1) : a1 ≤ 1000 := by omega
theorem oz1352 {a0 a1 : Int} (h0 : (a0 + 2) ≤ 39) (h1 : a1 = 1) : a0 + a1 ≤ 2147483647 := by omega
theorem oz1353 {a0 : Int} (h0 : (0 : Int) ≤ a0) (h1 : (a0 + 1) ≤ 39) : ((0 : Int) ≤ a0) ∧ ((a0 + 1) ≤ 39) := by omega
theorem oz1354 {a0 : Int} (h0 : (0 : Int) ≤ a0) (h1 : (a0 + 1) ≤ 900) : ((0 : Int) ≤ a0) ∧ ((a0 + 1) ≤ 900) := by omega
theorem oz1355 {a0 a1 : Int} (h0 : a0 = (a1 + 1)) : a0 = (a1 + 1) := by omega
theorem oz1356 {a0 a1 a2 : Int} (h0 : (0 : Int) ≤ a0) (h1 : (a0 + 2) ≤ 39) (h2 : a1 = a0 + a2) (h3 : a2 = 1) : ((0 : Int) ≤ a1) ∧ ((a1 + 1) ≤ 39) := by omega
theorem oz1357 {a0 a1 a2 a3 : Int} (h0 : a0 ≤ a1) (h1 : (a1 + 2) ≤ 900) (h2 : a2 = a1 + a3) (h3 : a0 = 24) (h4 : a3 = 1) : ((0 : Int) ≤ a2) ∧ ((a2 + 1) ≤ 900) := by omega
theorem oz1358 {a0 a1 a2 a3 : Int} (h0 : a0 = a1 + a2) (h1 : a3 = (a0 + 1)) (h2 : a2 = 1) : a3 = (a1 + 2) := by omega
theorem oz1359 {a0 a1 a2 : Int} (h0 : (0 : Int) ≤ a0) (h1 : (a0 + 2) ≤ 900) (h2 : a1 = a0 + a2) (h3 : a2 = 1) : ((0 : Int) ≤ a1) ∧ ((a1 + 1) ≤ 900) := by omega
theorem oz1360 {a0 a1 : Int} (h0 : a0 ≤ a1) (h1 : (a1 + 2) ≤ 39) (h2 : a0 = 40) : False := by omega
theorem oz1361 {a0 : Int} (h0 : a0 = 0) : ((0 : Int) ≤ a0) ∧ ((a0 + 2) ≤ 39) := by omega
theorem oz1362 {a0 : Int} (h0 : a0 = 0) : ((0 : Int) ≤ a0) ∧ ((a0 + 2) ≤ 900) := by omega
theorem oz1363 {a0 : Int} (h0 : a0 = 2) : a0 < 32 := by omega
theorem oz1364 {a0 : Int} (h0 : a0 = 3) : a0 < 32 := by omega
theorem oz1365 {a0 a1 a2 : Int} (h0 : (a0 + 4) ≤ 900) (h1 : a1 = a0 + a2) (h2 : a2 = 1) : a1 ≤ 1000 := by omega
theorem oz1366 {a0 a1 : Int} (h0 : (a0 + 3) ≤ 39) (h1 : a1 = 1) : a0 + a1 ≤ 2147483647 := by omega
theorem oz1367 {a0 : Int} (h0 : (0 : Int) ≤ a0) (h1 : (a0 + 2) ≤ 39) : ((0 : Int) ≤ a0) ∧ ((a0 + 2) ≤ 39) := by omega
theorem oz1368 {a0 : Int} (h0 : (0 : Int) ≤ a0) (h1 : (a0 + 3) ≤ 900) : ((0 : Int) ≤ a0) ∧ ((a0 + 2) ≤ 900) := by omega
theorem oz1369 {a0 : Int} (h0 : (0 : Int) ≤ a0) (h1 : (a0 + 2) ≤ 39) : ((0 : Int) ≤ a0) ∧ ((a0 + 1) ≤ 39) := by omega
theorem oz1370 {a0 a1 : Int} (h0 : (0 : Int) ≤ a0) (h1 : (a1 + 3) ≤ 900) (h2 : a0 = (a1 + 2)) : ((0 : Int) ≤ a0) ∧ ((a0 + 1) ≤ 900) := by omega
theorem oz1371 {a0 a1 a2 : Int} (h0 : a0 = (a1 + 2)) (h1 : a2 = (a0 + 1)) : a2 = (a1 + 3) := by omega
theorem oz1372 {a0 a1 a2 : Int} (h0 : (0 : Int) ≤ a0) (h1 : (a0 + 3) ≤ 39) (h2 : a1 = a0 + a2) (h3 : a2 = 1) : ((0 : Int) ≤ a1) ∧ ((a1 + 2) ≤ 39) := by omega
theorem oz1373 {a0 a1 a2 a3 : Int} (h0 : a0 ≤ a1) (h1 : (a1 + 4) ≤ 900) (h2 : a2 = a1 + a3) (h3 : a0 = 24) (h4 : a3 = 1) : ((0 : Int) ≤ a2) ∧ ((a2 + 3) ≤ 900) := by omega
theorem oz1374 {a0 a1 a2 a3 : Int} (h0 : a0 = a1 + a2) (h1 : a3 = (a0 + 3)) (h2 : a2 = 1) : a3 = (a1 + 4) := by omega
theorem oz1375 {a0 a1 a2 : Int} (h0 : (0 : Int) ≤ a0) (h1 : (a0 + 4) ≤ 900) (h2 : a1 = a0 + a2) (h3 : a2 = 1) : ((0 : Int) ≤ a1) ∧ ((a1 + 3) ≤ 900) := by omega
theorem oz1376 {a0 a1 : Int} (h0 : a0 ≤ a1) (h1 : (a1 + 3) ≤ 39) (h2 : a0 = 40) : False := by omega
theorem oz1377 {a0 : Int} (h0 : a0 = 0) : ((0 : Int) ≤ a0) ∧ ((a0 + 3) ≤ 39) := by omega
theorem oz1378 {a0 : Int} (h0 : a0 = 0) : ((0 : Int) ≤ a0) ∧ ((a0 + 4) ≤ 900) := by omega
theorem oz1379 {a0 a1 a2 : Int} (h0 : a0 ≤ a1) (h1 : a1 < a2) (h2 : ¬ (a1 = 1)) (h3 : ¬ (a1 = 2)) (h4 : ¬ (a1 = 3)) (h5 : ¬ (a1 = 0)) (h6 : a0 = 0) (h7 : a2 = 4) : False := by omega
theorem oz1380 {a0 : Int} (h0 : a0 = 4) : a0 < 32 := by omega
theorem oz1381 {a0 : Int} (h0 : a0 = 1) : a0 = 1 := by omega
theorem oz1382 {a0 : Int} (h0 : a0 = 1) : a0 < 8 := by omega
theorem oz1383 {a0 a1 : Int} (h0 : a0 = 1) (h1 : a1 = a0) : a1 = 1 := by omega
theorem oz1384 {a0 : Int} (h0 : a0 = 5) : a0 < 32 := by omega
theorem oz1385 {a0 a1 a2 : Int} (h0 : (a0 + 3) ≤ 900) (h1 : a1 = a0 + a2) (h2 : a2 = 1) : a1 ≤ 1000 := by omega
theorem oz1386 {a0 : Int} (h0 : (0 : Int) ≤ a0) (h1 : (a0 + 2) ≤ 900) : ((0 : Int) ≤ a0) ∧ ((a0 + 2) ≤ 900) := by omega
theorem oz1387 {a0 a1 : Int} (h0 : a0 = (a1 + 2)) : a0 = (a1 + 2) := by omega
theorem oz1388 {a0 a1 a2 a3 : Int} (h0 : a0 ≤ a1) (h1 : (a1 + 3) ≤ 900) (h2 : a2 = a1 + a3) (h3 : a0 = 24) (h4 : a3 = 1) : ((0 : Int) ≤ a2) ∧ ((a2 + 2) ≤ 900) := by omega
theorem oz1389 {a0 a1 a2 a3 : Int} (h0 : a0 = a1 + a2) (h1 : a3 = (a0 + 2)) (h2 : a2 = 1) : a3 = (a1 + 3) := by omega
theorem oz1390 {a0 a1 a2 : Int} (h0 : (0 : Int) ≤ a0) (h1 : (a0 + 3) ≤ 900) (h2 : a1 = a0 + a2) (h3 : a2 = 1) : ((0 : Int) ≤ a1) ∧ ((a1 + 2) ≤ 900) := by omega
theorem oz1391 {a0 : Int} (h0 : a0 = 0) : ((0 : Int) ≤ a0) ∧ ((a0 + 3) ≤ 900) := by omega
theorem oz1392 {a0 : Int} (h0 : a0 = 6) : a0 < 32 := by omega
theorem oz1393 {a0 : Int} (h0 : a0 = 7) : a0 < 32 := by omega
theorem oz1394 {a0 a1 a2 : Int} (h0 : (a0 + 5) ≤ 900) (h1 : a1 = a0 + a2) (h2 : a2 = 1) : a1 ≤ 1000 := by omega
theorem oz1395 {a0 a1 : Int} (h0 : (a0 + 4) ≤ 39) (h1 : a1 = 1) : a0 + a1 ≤ 2147483647 := by omega
theorem oz1396 {a0 : Int} (h0 : (0 : Int) ≤ a0) (h1 : (a0 + 3) ≤ 39) : ((0 : Int) ≤ a0) ∧ ((a0 + 3) ≤ 39) := by omega
theorem oz1397 {a0 : Int} (h0 : (0 : Int) ≤ a0) (h1 : (a0 + 4) ≤ 900) : ((0 : Int) ≤ a0) ∧ ((a0 + 3) ≤ 900) := by omega
theorem oz1398 {a0 : Int} (h0 : (0 : Int) ≤ a0) (h1 : (a0 + 3) ≤ 39) : ((0 : Int) ≤ a0) ∧ ((a0 + 1) ≤ 39) := by omega
theorem oz1399 {a0 a1 : Int} (h0 : (0 : Int) ≤ a0) (h1 : (a1 + 4) ≤ 900) (h2 : a0 = (a1 + 3)) : ((0 : Int) ≤ a0) ∧ ((a0 + 1) ≤ 900) := by omega
theorem oz1400 {a0 a1 a2 : Int} (h0 : a0 = (a1 + 3)) (h1 : a2 = (a0 + 1)) : a2 = (a1 + 4) := by omega
theorem oz1401 {a0 a1 a2 : Int} (h0 : (0 : Int) ≤ a0) (h1 : (a0 + 4) ≤ 39) (h2 : a1 = a0 + a2) (h3 : a2 = 1) : ((0 : Int) ≤ a1) ∧ ((a1 + 3) ≤ 39) := by omega
theorem oz1402 {a0 a1 a2 a3 : Int} (h0 : a0 ≤ a1) (h1 : (a1 + 5) ≤ 900) (h2 : a2 = a1 + a3) (h3 : a0 = 24) (h4 : a3 = 1) : ((0 : Int) ≤ a2) ∧ ((a2 + 4) ≤ 900) := by omega
theorem oz1403 {a0 a1 a2 a3 : Int} (h0 : a0 = a1 + a2) (h1 : a3 = (a0 + 4)) (h2 : a2 = 1) : a3 = (a1 + 5) := by omega
theorem oz1404 {a0 a1 a2 : Int} (h0 : (0 : Int) ≤ a0) (h1 : (a0 + 5) ≤ 900) (h2 : a1 = a0 + a2) (h3 : a2 = 1) : ((0 : Int) ≤ a1) ∧ ((a1 + 4) ≤ 900) := by omega
theorem oz1405 {a0 a1 : Int} (h0 : a0 ≤ a1) (h1 : (a1 + 4) ≤ 39) (h2 : a0 = 40) : False := by omega
theorem oz1406 {a0 : Int} (h0 : a0 = 0) : ((0 : Int) ≤ a0) ∧ ((a0 + 4) ≤ 39) := by omega
theorem oz1407 {a0 : Int} (h0 : a0 = 0) : ((0 : Int) ≤ a0) ∧ ((a0 + 5) ≤ 900) := by omega
theorem oz1408 {a0 a1 a2 : Int} (h0 : a0 ≤ a1) (h1 : a1 < a2) (h2 : ¬ (a1 = 0)) (h3 : ¬ (a1 = 1)) (h4 : ¬ (a1 = 2)) (h5 : ¬ (a1 = 3)) (h6 : a0 = 0) (h7 : a2 = 4) : False := by omega
theorem oz1409 {a0 : Int} (h0 : a0 = 8) : a0 < 32 := by omega
theorem oz1410 {a0 : Int} (h0 : a0 = 2) : a0 < 8 := by omega
theorem oz1411 {a0 : Int} (h0 : a0 = 2) : a0 = 2 := by omega
theorem oz1412 {a0 a1 : Int} (h0 : a0 = 2) (h1 : a1 = a0) : a1 = 2 := by omega
theorem oz1413 {a0 : Int} (h0 : a0 = 9) : a0 < 32 := by omega
set_option maxRecDepth 100000 in
theorem kc119_0 {i : Nat → Int32} {a : Nat → List Int32} {q : Nat → List Int64} {r : Nat → Nat} (hI : kI i a q) (hr : kr r) (x1 : Int32) : km 1 119 [.ref 0, .int x1] (ks i a q r) (kPI (ks i a q r) (fun v => True)) := by
  have hG := kG_self kW0 hI hr
  refine km_ofPI (q := (mi_h119, mi_c119)) rfl (by decide) (Nat.le_of_ble_eq_true rfl) ?_
  intro P hP
  refine ft_go mi_k119 1 1 [(0, .ref 0), (1, .int x1)] [.int x1] i a q r (by rfl) ?_
  by_cases w1 : x1.toInt = 0
  ·
    refine ko_eq (x1 := (1, [(0, .ref 0), (1, .int x1)], [.int 0], (0, 0), ks i a q r)) (by rw [(kj_eq w1 (by decide) : x1 = 0)]) ?_
    have fi_64 : ((0 : Int) ≤ (i 64).toInt) ∧ ((i 64).toInt ≤ 8) := hG.I.1 64
    refine ft_go mi_k119 4 47 [(0, .ref 0), (1, .int x1)] [.int (i 64)] i a q r (by rfl) ?_
    exact ft_ret mi_k119 (by rfl) (hP (i 64) trivial)
  by_cases w2 : x1.toInt = 1
  ·
    refine ko_eq (x1 := (1, [(0, .ref 0), (1, .int x1)], [.int 1], (0, 0), ks i a q r)) (by rw [(kj_eq w2 (by decide) : x1 = 1)]) ?_
    have fi_450 : ((0 : Int) ≤ (i 450).toInt) ∧ ((i 450).toInt ≤ 5) := hG.I.1 450
    refine ft_go mi_k119 5 58 [(0, .ref 0), (1, .int x1)] [.int (i 450)] i a q r (by rfl) ?_
    exact ft_ret mi_k119 (by rfl) (hP (i 450) trivial)
  by_cases w3 : x1.toInt = 2
  ·
    refine ko_eq (x1 := (1, [(0, .ref 0), (1, .int x1)], [.int 2], (0, 0), ks i a q r)) (by rw [(kj_eq w3 (by decide) : x1 = 2)]) ?_
    have fi_6273 : ((0 : Int) ≤ (i 6273).toInt) ∧ ((i 6273).toInt ≤ 120) := hG.I.1 6273
    refine ft_go mi_k119 4 66 [(0, .ref 0), (1, .int x1)] [.int (i 6273)] i a q r (by rfl) ?_
    exact ft_ret mi_k119 (by rfl) (hP (i 6273) trivial)
  by_cases w4 : x1.toInt = 3
  ·
    refine ko_eq (x1 := (1, [(0, .ref 0), (1, .int x1)], [.int 3], (0, 0), ks i a q r)) (by rw [(kj_eq w4 (by decide) : x1 = 3)]) ?_
    have fi_5701 : ((0 : Int) ≤ (i 5701).toInt) ∧ ((i 5701).toInt ≤ 40) := hG.I.1 5701
    refine ft_go mi_k119 4 74 [(0, .ref 0), (1, .int x1)] [.int (i 5701)] i a q r (by rfl) ?_
    exact ft_ret mi_k119 (by rfl) (hP (i 5701) trivial)
  by_cases w5 : x1.toInt = 4
  ·
    refine ko_eq (x1 := (1, [(0, .ref 0), (1, .int x1)], [.int 4], (0, 0), ks i a q r)) (by rw [(kj_eq w5 (by decide) : x1 = 4)]) ?_
    have fi_6017 : ((0 : Int) ≤ (i 6017).toInt) ∧ ((i 6017).toInt ≤ 50) := hG.I.1 6017
    refine ft_go mi_k119 4 82 [(0, .ref 0), (1, .int x1)] [.int (i 6017)] i a q r (by rfl) ?_
    exact ft_ret mi_k119 (by rfl) (hP (i 6017) trivial)
  by_cases w6 : x1.toInt = 5
  ·
    refine ko_eq (x1 := (1, [(0, .ref 0), (1, .int x1)], [.int 5], (0, 0), ks i a q r)) (by rw [(kj_eq w6 (by decide) : x1 = 5)]) ?_
    have fi_6019 : ((0 : Int) ≤ (i 6019).toInt) ∧ ((i 6019).toInt ≤ 1000) := hG.I.1 6019
    refine ft_go mi_k119 4 90 [(0, .ref 0), (1, .int x1)] [.int (i 6019)] i a q r (by rfl) ?_
    exact ft_ret mi_k119 (by rfl) (hP (i 6019) trivial)
  refine ko_sw (ls := [(0, .ref 0), (1, .int x1)]) (r := []) (h := ks i a q r) mi_in119 (v := x1) (i := (.tableswitch 90 0 5 #[39, 47, 58, 66, 74, 82], 39, 0, 0, 0, 0, 0)) (by rfl) rfl (oz660 w1 w2 w3 w4 w5 w6) 91 (by rfl) ?_
  refine ft_go mi_k119 1 92 [(0, .ref 0), (1, .int x1)] [.int (-1)] i a q r (by rfl) ?_
  exact ft_ret mi_k119 (by rfl) (hP (-1) trivial)
set_option maxRecDepth 100000 in
theorem kc43 (i : Nat → Int32) (a : Nat → List Int32) (q : Nat → List Int64) (r : Nat → Nat) (L : Nat) : km 1 43 [.ref 98, .ref L] (ks i a q r) (fun rv h1 => rv = some (.ref (r 2)) ∧ h1 = ks i a q (ku r 2 L)) := by
  refine km_of (q := (mi_h43, mi_c43)) rfl (by decide) (Nat.le_of_ble_eq_true rfl) ?_
  refine ko_steps mi_in43 7 _ (11, [(2, .ref (r 2)), (0, .ref 98), (1, .ref L)], [.ref (r 2)], (0, 0), ks i a q (ku r 2 L)) (by rfl) ?_
  exact ft_ret mi_k43 (by rfl) ⟨rfl, rfl⟩
def w158_116 : kW := ([7437, 7438, 7439, 7440], [124, 125, 126, 127], [], [])
set_option maxRecDepth 100000 in
theorem kc158_116 {i : Nat → Int32} {a : Nat → List Int32} {q : Nat → List Int64} {r : Nat → Nat} (hI : kI i a q) (hr : kr r) (hp0 : ((i 7438).toInt = 0) ∧ ((i 7439).toInt ≤ (i 7437).toInt) ∧ ((i 7437).toInt ≤ (i 7429).toInt)) (hp1 : (2 * (i 7440).toInt) ≤ (i 7437).toInt) (hN : kNw (i 7440).toInt.toNat (i 7439).toInt.toNat (a 124) (a 125) (a 126) (a 127)) : km 53 158 [.ref 116] (ks i a q r) (kVI w158_116 i a q r (fun v i1 a1 q1 r1 => (v = 1 ∧ ((((i1 7438).toInt = 0) ∧ ((i1 7439).toInt ≤ (i1 7437).toInt) ∧ ((i1 7437).toInt ≤ (i1 7429).toInt) ∧ ((2 * (i1 7440).toInt) ≤ ((i1 7437).toInt + 1)) ∧ ((i1 7440).toInt = ((i 7440).toInt + 1)) ∧ ((i 7437).toInt ≤ (i1 7437).toInt)) ∧ kNw (i1 7440).toInt.toNat (i1 7439).toInt.toNat (a1 124) (a1 125) (a1 126) (a1 127))) ∨ (v = 0 ∧ ((i1 7437).toInt ≤ (i1 7429).toInt)))) := by
  have hG := kG_self w158_116 hI hr
  refine km_ofI (q := (mi_h158, mi_c158)) rfl (by decide) (Nat.le_of_ble_eq_true rfl) ?_
  intro P hP
  have fi_7439 : ((0 : Int) ≤ (i 7439).toInt) ∧ ((i 7439).toInt ≤ 200) := hG.I.1 7439
  have fi_7437 : ((0 : Int) ≤ (i 7437).toInt) ∧ ((i 7437).toInt ≤ 120) := hG.I.1 7437
  have fi_7429 : ((0 : Int) ≤ (i 7429).toInt) ∧ ((i 7429).toInt ≤ 120) := hG.I.1 7429
  have fi_7440 : ((0 : Int) ≤ (i 7440).toInt) ∧ ((i 7440).toInt ≤ 61) := hG.I.1 7440
  refine ft_go mi_k158 6 12 [(0, .ref 116)] [.int (i 7439), .int (i 7440), .ref 124] i a q r (by rfl) ?_
  refine ko_iast3 mi_k158.1 (n := 61) (c := 61) (ax := (0, 0, 0, 0, 0)) (mi_k158.2 _ _ (by rfl)) (by rfl) (ksG124 _ _ _ _) (ksA124 _ _ _ _) (hG.I.2.1 124) rfl (oz3 fi_7440.1) (oz1284 fi_7437.2 hp1) ?_
  intro a1 ea1 fa1
  have hJ1 := kG_a3 hG 124 rfl ea1 fa1 (kd_bd _)
  refine ft_go mi_k158 1 14 [(0, .ref 116)] [.ref 116] i a1 q r (by rfl) ?_
  have nn0 := kn0
  refine ko_callI mi_k158.1 (pc := 14) (ls := [(0, .ref 116)]) (st := [.ref 116]) (h := ks i a1 q r) (i := (.invokevirtual 193, 3, 157, 0, 9, 0, 397)) (mi_k158.2 _ _ (by rfl)) (ft_invS mi_pq157 (by rfl)) (cy := mi_c157) mi_pq157 rfl ((kLallR (6)).1 _ _ _ _ hJ1.I hJ1.R (by omega) (oz173 hp0.2.1) (oz173 hp0.2.2)) (by have := kn0; have := kn1; have := kn5; omega) ?_
  intro vg2 ig2 ag2 qg2 rg2 kg2 hg2
  have hGg2 := kG_call hJ1 kg2 (by decide +kernel)
  rcases hg2 with ⟨eg2, hg2⟩ | ⟨eg2, hg2⟩
  ·
    subst eg2
    obtain ⟨hg2, og2⟩ := hg2
    have fig2_7437 : ((0 : Int) ≤ (ig2 7437).toInt) ∧ ((ig2 7437).toInt ≤ 120) := hGg2.I.1 7437
    have fig2_7429 : ((0 : Int) ≤ (ig2 7429).toInt) ∧ ((ig2 7429).toInt ≤ 120) := hGg2.I.1 7429
    have efig2_7429 : (ig2 7429).toInt = (i 7429).toInt := kg2.ti 7429 rfl
    have fig2_7439 : ((0 : Int) ≤ (ig2 7439).toInt) ∧ ((ig2 7439).toInt ≤ 200) := hGg2.I.1 7439
    have z3 : ((ig2 7438).toInt = (i 7438).toInt) ∧ ((i 7437).toInt ≤ (ig2 7437).toInt) ∧ ((ig2 7437).toInt ≤ (ig2 7429).toInt) ∧ (((ig2 7439).toInt - (ig2 7437).toInt) ≤ ((i 7439).toInt - (i 7437).toInt)) ∧ ((i 7439).toInt ≤ (ig2 7439).toInt) ∧ (((i 7437).toInt + 1) ≤ (ig2 7437).toInt) := hg2
    have fig2_7440 : ((0 : Int) ≤ (ig2 7440).toInt) ∧ ((ig2 7440).toInt ≤ 61) := hGg2.I.1 7440
    have efig2_7440 : (ig2 7440).toInt = (i 7440).toInt := kg2.ti 7440 rfl
    refine ft_go mi_k158 9 38 [(0, .ref 116)] [.int (ig2 7440), .ref 124, .int (ig2 7440), .ref 125] ig2 ag2 qg2 rg2 (by rfl) ?_
    refine ko_iald3 mi_k158.1 (n := 61) (c := 61) (ax := (0, 0, 0, 0, 0)) (mi_k158.2 _ _ (by rfl)) (by rfl) (ksG124 _ _ _ _) (hGg2.I.2.1 124) rfl (oz3 fig2_7440.1) (oz1285 efig2_7440 fi_7437.2 hp1) ?_
    refine ko_iast3 mi_k158.1 (n := 61) (c := 61) (ax := (0, 0, 0, 0, 0)) (mi_k158.2 _ _ (by rfl)) (by rfl) (ksG125 _ _ _ _) (ksA125 _ _ _ _) (hGg2.I.2.1 125) rfl (oz3 fig2_7440.1) (oz1285 efig2_7440 fi_7437.2 hp1) ?_
    intro a4 ea4 fa4
    have hJ4 := kG_a3 hGg2 125 rfl ea4 fa4 (kd_bd _)
    refine ft_go mi_k158 2 43 [(0, .ref 116)] [.int 63, .ref 116] ig2 a4 qg2 rg2 (by rfl) ?_
    refine ko_callI mi_k158.1 (pc := 43) (ls := [(0, .ref 116)]) (st := [.int 63, .ref 116]) (h := ks ig2 a4 qg2 rg2) (i := (.invokevirtual 187, 3, 148, 0, 9, 0, 407)) (mi_k158.2 _ _ (by rfl)) (ft_invS mi_pq148 (by rfl)) (cy := mi_c148) mi_pq148 rfl (kc148_116 hJ4.I hJ4.R 63 (oz1286 kn63)) (by decide) ?_
    intro vg5 ig5 ag5 qg5 rg5 kg5 hg5
    have hGg5 := kG_call hJ4 kg5 (by decide +kernel)
    rcases hg5 with ⟨eg5, hg5⟩ | ⟨eg5, hg5⟩
    ·
      subst eg5
      have fig5_7437 : ((0 : Int) ≤ (ig5 7437).toInt) ∧ ((ig5 7437).toInt ≤ 120) := hGg5.I.1 7437
      have fig5_7429 : ((0 : Int) ≤ (ig5 7429).toInt) ∧ ((ig5 7429).toInt ≤ 120) := hGg5.I.1 7429
      have efig5_7429 : (ig5 7429).toInt = (ig2 7429).toInt := kg5.ti 7429 rfl
      have z6 : ((ig5 7437).toInt = ((ig2 7437).toInt + 1)) ∧ ((ig5 7437).toInt ≤ (ig5 7429).toInt) := hg5
      have fig5_7440 : ((0 : Int) ≤ (ig5 7440).toInt) ∧ ((ig5 7440).toInt ≤ 61) := hGg5.I.1 7440
      have efig5_7440 : (ig5 7440).toInt = (ig2 7440).toInt := kg5.ti 7440 rfl
      have fig5_7439 : ((0 : Int) ≤ (ig5 7439).toInt) ∧ ((ig5 7439).toInt ≤ 200) := hGg5.I.1 7439
      have efig5_7439 : (ig5 7439).toInt = (ig2 7439).toInt := kg5.ti 7439 rfl
      refine ft_go mi_k158 7 61 [(0, .ref 116)] [.int (ig5 7439), .int (ig5 7440), .ref 125] ig5 ag5 qg5 rg5 (by rfl) ?_
      refine ko_iast3 mi_k158.1 (n := 61) (c := 61) (ax := (0, 0, 0, 0, 0)) (mi_k158.2 _ _ (by rfl)) (by rfl) (ksG125 _ _ _ _) (ksA125 _ _ _ _) (hGg5.I.2.1 125) rfl (oz3 fig5_7440.1) (oz1287 efig2_7440 efig5_7440 fi_7437.2 hp1) ?_
      intro a7 ea7 fa7
      have hJ7 := kG_a3 hGg5 125 rfl ea7 fa7 (kd_bd _)
      refine ft_go mi_k158 1 63 [(0, .ref 116)] [.ref 116] ig5 a7 qg5 rg5 (by rfl) ?_
      have nn0 := kn0
      have efig5_7438 : (ig5 7438).toInt = (ig2 7438).toInt := kg5.ti 7438 rfl
      refine ko_callI mi_k158.1 (pc := 63) (ls := [(0, .ref 116)]) (st := [.ref 116]) (h := ks ig5 a7 qg5 rg5) (i := (.invokevirtual 193, 3, 157, 0, 9, 0, 397)) (mi_k158.2 _ _ (by rfl)) (ft_invS mi_pq157 (by rfl)) (cy := mi_c157) mi_pq157 rfl ((kLallR (6)).1 _ _ _ _ hJ7.I hJ7.R (by omega) (oz881 efig5_7439 hp0.2.1 z3.2.2.2.1 z6.1) (oz173 z6.2)) (by have := kn0; have := kn1; have := kn5; omega) ?_
      intro vg8 ig8 ag8 qg8 rg8 kg8 hg8
      have hGg8 := kG_call hJ7 kg8 (by decide +kernel)
      rcases hg8 with ⟨eg8, hg8⟩ | ⟨eg8, hg8⟩
      ·
        subst eg8
        obtain ⟨hg8, og8⟩ := hg8
        have fig8_7437 : ((0 : Int) ≤ (ig8 7437).toInt) ∧ ((ig8 7437).toInt ≤ 120) := hGg8.I.1 7437
        have fig8_7429 : ((0 : Int) ≤ (ig8 7429).toInt) ∧ ((ig8 7429).toInt ≤ 120) := hGg8.I.1 7429
        have efig8_7429 : (ig8 7429).toInt = (ig5 7429).toInt := kg8.ti 7429 rfl
        have fig8_7439 : ((0 : Int) ≤ (ig8 7439).toInt) ∧ ((ig8 7439).toInt ≤ 200) := hGg8.I.1 7439
        have z9 : ((ig8 7438).toInt = (ig5 7438).toInt) ∧ ((ig5 7437).toInt ≤ (ig8 7437).toInt) ∧ ((ig8 7437).toInt ≤ (ig8 7429).toInt) ∧ (((ig8 7439).toInt - (ig8 7437).toInt) ≤ ((ig5 7439).toInt - (ig5 7437).toInt)) ∧ ((ig5 7439).toInt ≤ (ig8 7439).toInt) ∧ (((ig5 7437).toInt + 1) ≤ (ig8 7437).toInt) := hg8
        have fig8_7440 : ((0 : Int) ≤ (ig8 7440).toInt) ∧ ((ig8 7440).toInt ≤ 61) := hGg8.I.1 7440
        have efig8_7440 : (ig8 7440).toInt = (ig5 7440).toInt := kg8.ti 7440 rfl
        have s10 : ((ig8 7440) + 1).toInt = (ig8 7440).toInt + (1 : Int32).toInt := kd_add (oz12 fig8_7440.1 kn1) (oz1288 fig8_7440.2 kn1)
        have hJ11 := kG_i hGg8 7440 rfl (v := ((ig8 7440) + 1)) ⟨(oz14 fig8_7440.1 s10 kn1), (oz1289 efig2_7440 efig5_7440 efig8_7440 fi_7437.2 hp1 s10 kn1)⟩
        refine ft_go mi_k158 12 90 [(0, .ref 116)] [.int (ig8 7439), .int (ig8 7440), .ref 126] (ku ig8 7440 ((ig8 7440) + 1)) ag8 qg8 rg8 (by rfl) ?_
        refine ko_iast3 mi_k158.1 (n := 61) (c := 61) (ax := (0, 0, 0, 0, 0)) (mi_k158.2 _ _ (by rfl)) (by rfl) (ksG126 _ _ _ _) (ksA126 _ _ _ _) (hJ11.I.2.1 126) rfl (oz3 fig8_7440.1) (oz1290 efig2_7440 efig5_7440 efig8_7440 fi_7437.2 hp1) ?_
        intro a12 ea12 fa12
        have hJ12 := kG_a3 hJ11 126 rfl ea12 fa12 (kd_bd _)
        refine ft_go mi_k158 1 92 [(0, .ref 116)] [.int 1] (ku ig8 7440 ((ig8 7440) + 1)) a12 qg8 rg8 (by rfl) ?_
        have y13 : ((ag2 124).getD (ig2 7440).toNatClampNeg 0).toInt = (i 7439).toInt := kset_get (kg2.fa 124 rfl) ea1 (oz719 efig2_7440) (hG.I.2.1 124) (oz3 fi_7440.1) (oz1284 fi_7437.2 hp1)
        exact ft_ret mi_k158 (by rfl) (hP 1 _ _ _ _ hJ12 (Or.inl ⟨rfl, ⟨(oz1291 efig2_7440 efig5_7438 efig5_7439 efig5_7440 efig8_7440 hp0.1 hp0.2.1 hp1 s10 z3.1 z3.2.2.2.1 z3.2.2.2.2.2 z6.1 z9.1 z9.2.2.1 z9.2.2.2.1 z9.2.2.2.2.2 kn1), (kNw_cast (kNw_two hN (kRun_from og2 (fa1 127 (by decide)) (congrArg Int.toNat oz34)) (kRun_from og8 (((fa7 127 (by decide)).trans (kg5.fa 127 rfl)).trans (fa4 127 (by decide))) (congrArg Int.toNat (oz719 efig5_7439))) (kj_tn (oz1292 efig2_7440 efig5_7440 efig8_7440 s10 kn1) (oz3 fi_7440.1)) (oz3 fi_7440.1) (oz1284 fi_7437.2 hp1) (hG.I.2.1 124) (hG.I.2.1 125) (hG.I.2.1 126) (((((((fa12 124 (by decide)).trans (kg8.fa 124 rfl)).trans (fa7 124 (by decide))).trans (kg5.fa 124 rfl)).trans (fa4 124 (by decide))).trans (kg2.fa 124 rfl)).trans (kset_at ea1 rfl oz34)) (((fa12 125 (by decide)).trans (kg8.fa 125 rfl)).trans (kset_at2 ea7 (kg5.fa 125 rfl) (oz762 efig2_7440 efig5_7440) ea4 ((kg2.fa 125 rfl).trans (fa1 125 (by decide))) (oz719 efig2_7440))) (kset_at ea12 ((((((kg8.fa 126 rfl).trans (fa7 126 (by decide))).trans (kg5.fa 126 rfl)).trans (fa4 126 (by decide))).trans (kg2.fa 126 rfl)).trans (fa1 126 (by decide))) (oz773 efig2_7440 efig5_7440 efig8_7440)) (kj_vn oz34 (oz3 fi_7439.1)) (kj_vn (oz719 efig5_7439) (oz3 fig2_7439.1)) (kj_vn oz34 (oz3 fig8_7439.1)) (kj_tn2 (oz1293 fig8_7439.2))) rfl (congrArg Int.toNat oz34) rfl rfl rfl (fa12 127 (by decide)))⟩⟩))
      ·
        subst eg8
        have fig8_7437 : ((0 : Int) ≤ (ig8 7437).toInt) ∧ ((ig8 7437).toInt ≤ 120) := hGg8.I.1 7437
        have fig8_7429 : ((0 : Int) ≤ (ig8 7429).toInt) ∧ ((ig8 7429).toInt ≤ 120) := hGg8.I.1 7429
        have efig8_7429 : (ig8 7429).toInt = (ig5 7429).toInt := kg8.ti 7429 rfl
        have fig8_7439 : ((0 : Int) ≤ (ig8 7439).toInt) ∧ ((ig8 7439).toInt ≤ 200) := hGg8.I.1 7439
        have z14 : ((ig8 7438).toInt = (ig5 7438).toInt) ∧ ((ig5 7437).toInt ≤ (ig8 7437).toInt) ∧ ((ig8 7437).toInt ≤ (ig8 7429).toInt) ∧ (((ig8 7439).toInt - (ig8 7437).toInt) ≤ ((ig5 7439).toInt - (ig5 7437).toInt)) ∧ ((ig5 7439).toInt ≤ (ig8 7439).toInt) := hg8
        refine ft_go mi_k158 2 70 [(0, .ref 116)] [.int 0] ig8 ag8 qg8 rg8 (by rfl) ?_
        exact ft_ret mi_k158 (by rfl) (hP 0 _ _ _ _ hGg8 (Or.inr ⟨rfl, (oz173 z14.2.2.1)⟩))
    ·
      subst eg5
      have fig5_7437 : ((0 : Int) ≤ (ig5 7437).toInt) ∧ ((ig5 7437).toInt ≤ 120) := hGg5.I.1 7437
      have z15 : (ig5 7437).toInt = (ig2 7437).toInt := hg5
      have fig5_7440 : ((0 : Int) ≤ (ig5 7440).toInt) ∧ ((ig5 7440).toInt ≤ 61) := hGg5.I.1 7440
      have efig5_7440 : (ig5 7440).toInt = (ig2 7440).toInt := kg5.ti 7440 rfl
      have s16 : ((ig5 7440) + 1).toInt = (ig5 7440).toInt + (1 : Int32).toInt := kd_add (oz12 fig5_7440.1 kn1) (oz1288 fig5_7440.2 kn1)
      have hJ17 := kG_i hGg5 7440 rfl (v := ((ig5 7440) + 1)) ⟨(oz14 fig5_7440.1 s16 kn1), (oz1294 efig2_7440 efig5_7440 fi_7437.2 hp1 s16 kn1)⟩
      have fig5_7439 : ((0 : Int) ≤ (ig5 7439).toInt) ∧ ((ig5 7439).toInt ≤ 200) := hJ17.I.1 7439
      have efig5_7439 : (ig5 7439).toInt = (ig2 7439).toInt := kg5.ti 7439 rfl
      refine ft_go mi_k158 12 90 [(0, .ref 116)] [.int (ig5 7439), .int (ig5 7440), .ref 126] (ku ig5 7440 ((ig5 7440) + 1)) ag5 qg5 rg5 (by rfl) ?_
      refine ko_iast3 mi_k158.1 (n := 61) (c := 61) (ax := (0, 0, 0, 0, 0)) (mi_k158.2 _ _ (by rfl)) (by rfl) (ksG126 _ _ _ _) (ksA126 _ _ _ _) (hJ17.I.2.1 126) rfl (oz3 fig5_7440.1) (oz1287 efig2_7440 efig5_7440 fi_7437.2 hp1) ?_
      intro a18 ea18 fa18
      have hJ18 := kG_a3 hJ17 126 rfl ea18 fa18 (kd_bd _)
      refine ft_go mi_k158 1 92 [(0, .ref 116)] [.int 1] (ku ig5 7440 ((ig5 7440) + 1)) a18 qg5 rg5 (by rfl) ?_
      have efig5_7438 : (ig5 7438).toInt = (ig2 7438).toInt := kg5.ti 7438 rfl
      have fig5_7429 : ((0 : Int) ≤ (ig5 7429).toInt) ∧ ((ig5 7429).toInt ≤ 120) := hJ18.I.1 7429
      have efig5_7429 : (ig5 7429).toInt = (ig2 7429).toInt := kg5.ti 7429 rfl
      have y19 : ((ag2 124).getD (ig2 7440).toNatClampNeg 0).toInt = (i 7439).toInt := kset_get (kg2.fa 124 rfl) ea1 (oz719 efig2_7440) (hG.I.2.1 124) (oz3 fi_7440.1) (oz1284 fi_7437.2 hp1)
      exact ft_ret mi_k158 (by rfl) (hP 1 _ _ _ _ hJ18 (Or.inl ⟨rfl, ⟨(oz1295 efig2_7440 efig5_7429 efig5_7438 efig5_7439 efig5_7440 hp0.1 hp0.2.1 hp1 s16 z15 z3.1 z3.2.2.1 z3.2.2.2.1 z3.2.2.2.2.2 kn1), (kNw_cast (kNw_one hN (kRun_from og2 (fa1 127 (by decide)) (congrArg Int.toNat oz34)) (kj_tn (oz1296 efig2_7440 efig5_7440 s16 kn1) (oz3 fi_7440.1)) (oz3 fi_7440.1) (oz1284 fi_7437.2 hp1) (hG.I.2.1 124) (hG.I.2.1 125) (hG.I.2.1 126) (((((fa18 124 (by decide)).trans (kg5.fa 124 rfl)).trans (fa4 124 (by decide))).trans (kg2.fa 124 rfl)).trans (kset_at ea1 rfl oz34)) (((fa18 125 (by decide)).trans (kg5.fa 125 rfl)).trans (kset_at ea4 ((kg2.fa 125 rfl).trans (fa1 125 (by decide))) (oz719 efig2_7440))) (kset_at ea18 ((((kg5.fa 126 rfl).trans (fa4 126 (by decide))).trans (kg2.fa 126 rfl)).trans (fa1 126 (by decide))) (oz762 efig2_7440 efig5_7440)) (kj_vn oz34 (oz3 fi_7439.1)) (kj_vn (oz719 y19) (oz3 fi_7439.1)) (kj_vn (oz719 efig5_7439) (oz3 fig2_7439.1)) (kj_tn2 (oz1293 fig2_7439.2))) rfl (congrArg Int.toNat (oz719 efig5_7439)) rfl rfl rfl (((fa18 127 (by decide)).trans (kg5.fa 127 rfl)).trans (fa4 127 (by decide))))⟩⟩))
  ·
    subst eg2
    have fig2_7437 : ((0 : Int) ≤ (ig2 7437).toInt) ∧ ((ig2 7437).toInt ≤ 120) := hGg2.I.1 7437
    have fig2_7429 : ((0 : Int) ≤ (ig2 7429).toInt) ∧ ((ig2 7429).toInt ≤ 120) := hGg2.I.1 7429
    have efig2_7429 : (ig2 7429).toInt = (i 7429).toInt := kg2.ti 7429 rfl
    have fig2_7439 : ((0 : Int) ≤ (ig2 7439).toInt) ∧ ((ig2 7439).toInt ≤ 200) := hGg2.I.1 7439
    have z20 : ((ig2 7438).toInt = (i 7438).toInt) ∧ ((i 7437).toInt ≤ (ig2 7437).toInt) ∧ ((ig2 7437).toInt ≤ (ig2 7429).toInt) ∧ (((ig2 7439).toInt - (ig2 7437).toInt) ≤ ((i 7439).toInt - (i 7437).toInt)) ∧ ((i 7439).toInt ≤ (ig2 7439).toInt) := hg2
    refine ft_go mi_k158 2 21 [(0, .ref 116)] [.int 0] ig2 ag2 qg2 rg2 (by rfl) ?_
    exact ft_ret mi_k158 (by rfl) (hP 0 _ _ _ _ hGg2 (Or.inr ⟨rfl, (oz173 z20.2.2.1)⟩))
def w159_116 : kW := ([7429, 7431, 7432, 7437, 7438, 7439, 7440], [120, 121, 122, 123, 124, 125, 126, 127], [], [])
def w159_116_L25 : kW := ([7437, 7438, 7439, 7440], [124, 125, 126, 127], [], [])
def w159_116_L99 : kW := ([], [120, 121, 122], [], [])
def w159_116_L151 : kW := ([], [123], [], [])
set_option maxRecDepth 100000 in
theorem kc159_116 {i : Nat → Int32} {a : Nat → List Int32} {q : Nat → List Int64} {r : Nat → Nat} (hI : kI i a q) (hr : kr r) (hE_code : kCode i a) : km 55 159 [.ref 116] (ks i a q r) (kVI w159_116 i a q r (fun v i1 a1 q1 r1 => (True) ∧ kCode i1 a1)) := by
  have hG := kG_self w159_116 hI hr
  refine km_ofI (q := (mi_h159, mi_c159)) rfl (by decide) (Nat.le_of_ble_eq_true rfl) ?_
  intro P hP
  have hJ1 := kG_i hG 7437 rfl (v := 0) ⟨(oz46 kn0), (oz1297 kn0)⟩
  have hJ2 := kG_i hJ1 7438 rfl (v := 0) (kd_bd _)
  have hJ3 := kG_i hJ2 7439 rfl (v := 0) ⟨(oz46 kn0), (oz1298 kn0)⟩
  have hJ4 := kG_i hJ3 7440 rfl (v := 0) ⟨(oz46 kn0), (oz1299 kn0)⟩
  refine ft_go mi_k159 13 21 [(0, .ref 116)] [.ref 116] (ku (ku (ku (ku i 7437 0) 7438 0) 7439 0) 7440 0) a q r (by rfl) ?_
  have fi_7429 : ((0 : Int) ≤ (i 7429).toInt) ∧ ((i 7429).toInt ≤ 120) := hJ4.I.1 7429
  refine ko_callI mi_k159.1 (pc := 21) (ls := [(0, .ref 116)]) (st := [.ref 116]) (h := ks (ku (ku (ku (ku i 7437 0) 7438 0) 7439 0) 7440 0) a q r) (i := (.invokevirtual 211, 3, 158, 0, 9, 0, 396)) (mi_k159.2 _ _ (by rfl)) (ft_invS mi_pq158 (by rfl)) (cy := mi_c158) mi_pq158 rfl (kc158_116 hJ4.I hJ4.R (oz1300 fi_7429.1 kn0) (oz1301 kn0) (kNw_z kn0)) (by decide) ?_
  intro vg5 ig5 ag5 qg5 rg5 kg5 hg5
  have hGg5 := kG_call hJ4 kg5 (by decide +kernel)
  rcases hg5 with ⟨eg5, hg5⟩ | ⟨eg5, hg5⟩
  ·
    subst eg5
    obtain ⟨hg5, og5⟩ := hg5
    have fig5_7439 : ((0 : Int) ≤ (ig5 7439).toInt) ∧ ((ig5 7439).toInt ≤ 200) := hGg5.I.1 7439
    have fig5_7437 : ((0 : Int) ≤ (ig5 7437).toInt) ∧ ((ig5 7437).toInt ≤ 120) := hGg5.I.1 7437
    have fig5_7429 : ((0 : Int) ≤ (ig5 7429).toInt) ∧ ((ig5 7429).toInt ≤ 120) := hGg5.I.1 7429
    have efig5_7429 : (ig5 7429).toInt = (i 7429).toInt := kg5.ti 7429 rfl
    have fig5_7440 : ((0 : Int) ≤ (ig5 7440).toInt) ∧ ((ig5 7440).toInt ≤ 61) := hGg5.I.1 7440
    have z6 : ((ig5 7438).toInt = 0) ∧ ((ig5 7439).toInt ≤ (ig5 7437).toInt) ∧ ((ig5 7437).toInt ≤ (ig5 7429).toInt) ∧ ((2 * (ig5 7440).toInt) ≤ ((ig5 7437).toInt + 1)) ∧ ((ig5 7440).toInt = ((0 : Int32).toInt + 1)) ∧ ((0 : Int32).toInt ≤ (ig5 7437).toInt) := hg5
    refine ft_go mi_k159 1 25 [(1, .int 1), (0, .ref 116)] [] ig5 ag5 qg5 rg5 (by rfl) ?_
    have lp7 : ∀ (nz : Nat) (i7 : Nat → Int32) (a7 : Nat → List Int32) (q7 : Nat → List Int64) (r7 : Nat → Nat) (l1_7 : Int32), kG w159_116_L25 ig5 ag5 qg5 rg5 i7 a7 q7 r7 → ((0 : Int) ≤ l1_7.toInt) ∧ (l1_7.toInt ≤ 1) → ((l1_7.toInt = 1) → (((i7 7438).toInt = 0) ∧ ((i7 7439).toInt ≤ (i7 7437).toInt) ∧ ((i7 7437).toInt ≤ (i7 7429).toInt) ∧ ((2 * (i7 7440).toInt) ≤ ((i7 7437).toInt + 1)))) → (i7 7437).toInt ≤ (i7 7429).toInt → (l1_7.toInt = 1 → kNw (i7 7440).toInt.toNat (i7 7439).toInt.toNat (a7 124) (a7 125) (a7 126) (a7 127)) → ((((200 * l1_7.toInt) + (i7 7429).toInt) - (i7 7437).toInt)).toNat < nz → ko 55 (mi_h159, mi_c159) P (25, [(1, .int l1_7), (0, .ref 116)], [], (0, 0), ks i7 a7 q7 r7) := by
      intro nz
      induction nz with
      | zero =>
        intro _ _ _ _ _ _ _ _ _ _ hm
        exact absurd hm (Nat.not_lt_zero _)
      | succ nz ih7 =>
        intro i7 a7 q7 r7 l1_7 hL7 p7_0 p7_1 p7_2 O7_0 hm7
        have fi7_7439 : ((0 : Int) ≤ (i7 7439).toInt) ∧ ((i7 7439).toInt ≤ 200) := hL7.I.1 7439
        have fi7_7437 : ((0 : Int) ≤ (i7 7437).toInt) ∧ ((i7 7437).toInt ≤ 120) := hL7.I.1 7437
        have fi7_7429 : ((0 : Int) ≤ (i7 7429).toInt) ∧ ((i7 7429).toInt ≤ 120) := hL7.I.1 7429
        have efi7_7429 : (i7 7429).toInt = (ig5 7429).toInt := hL7.ti 7429 rfl
        have fi7_7440 : ((0 : Int) ≤ (i7 7440).toInt) ∧ ((i7 7440).toInt ≤ 61) := hL7.I.1 7440
        refine ft_go mi_k159 1 26 [(1, .int l1_7), (0, .ref 116)] [.int l1_7] i7 a7 q7 r7 (by rfl) ?_
        refine ft_if mi_k159 (l1_7 == 0) 46 29 [(1, .int l1_7), (0, .ref 116)] [] (by rfl) (fun c => ?_) (fun c => ?_)
        ·
          have c8 : l1_7.toInt = (0 : Int32).toInt := kd_eq c; clear c
          have hG9 := kG_call hGg5 hL7 (by decide +kernel)
          refine ft_go mi_k159 1 47 [(1, .int l1_7), (0, .ref 116)] [.int l1_7] i7 a7 q7 r7 (by rfl) ?_
          refine ft_if mi_k159 (l1_7 == 0) 65 50 [(1, .int l1_7), (0, .ref 116)] [] (by rfl) (fun c => ?_) (fun c => ?_)
          ·
            have c10 : l1_7.toInt = (0 : Int32).toInt := kd_eq c; clear c
            have hJ11 := kG_i hG9 7429 rfl (v := 0) ⟨(oz46 kn0), (oz1297 kn0)⟩
            have s12 : ((-100) - (i7 7437)).toInt = ((-100) : Int32).toInt - (i7 7437).toInt := kd_sub (oz1302 fi7_7437.2 knm100) (oz1324 fi7_7437.1 knm100)
            refine ft_go mi_k159 11 83 [(2, .int 0), (1, .int l1_7), (0, .ref 116)] [.int ((-100) - (i7 7437))] (ku i7 7429 0) a7 q7 r7 (by rfl) ?_
            exact ft_ret mi_k159 (by rfl) (hP ((-100) - (i7 7437)) _ _ _ _ hJ11 ⟨trivial, (kCode_of (i1 := ku i7 7429 0) hE_code ((hL7.fi 7432 rfl).trans (kg5.fi 7432 rfl)) ((hL7.fa 120 rfl).trans (kg5.fa 120 rfl)) ((hL7.fa 121 rfl).trans (kg5.fa 121 rfl)) ((hL7.fa 122 rfl).trans (kg5.fa 122 rfl)) ((hL7.fa 123 rfl).trans (kg5.fa 123 rfl)))⟩)
          ·
            have c13 : l1_7.toInt ≠ (0 : Int32).toInt := kd_eqF c; clear c
            exact (oz1281 c13 c8 p7_0.1 kn0).elim
        ·
          have c14 : l1_7.toInt ≠ (0 : Int32).toInt := kd_eqF c; clear c
          refine ft_go mi_k159 2 32 [(1, .int l1_7), (0, .ref 116)] [.int 59, .ref 116] i7 a7 q7 r7 (by rfl) ?_
          refine ko_callI mi_k159.1 (pc := 32) (ls := [(1, .int l1_7), (0, .ref 116)]) (st := [.int 59, .ref 116]) (h := ks i7 a7 q7 r7) (i := (.invokevirtual 187, 3, 148, 0, 9, 0, 407)) (mi_k159.2 _ _ (by rfl)) (ft_invS mi_pq148 (by rfl)) (cy := mi_c148) mi_pq148 rfl (kc148_116 hL7.I hL7.R 59 (oz1304 kn59)) (by decide) ?_
          intro vg15 ig15 ag15 qg15 rg15 kg15 hg15
          have hGg15 := kG_call hL7 kg15 (by decide +kernel)
          rcases hg15 with ⟨eg15, hg15⟩ | ⟨eg15, hg15⟩
          ·
            subst eg15
            have fig15_7437 : ((0 : Int) ≤ (ig15 7437).toInt) ∧ ((ig15 7437).toInt ≤ 120) := hGg15.I.1 7437
            have fig15_7429 : ((0 : Int) ≤ (ig15 7429).toInt) ∧ ((ig15 7429).toInt ≤ 120) := hGg15.I.1 7429
            have efig15_7429 : (ig15 7429).toInt = (i7 7429).toInt := kg15.ti 7429 rfl
            have z16 : ((ig15 7437).toInt = ((i7 7437).toInt + 1)) ∧ ((ig15 7437).toInt ≤ (ig15 7429).toInt) := hg15
            refine ft_go mi_k159 2 39 [(1, .int l1_7), (0, .ref 116)] [.ref 116] ig15 ag15 qg15 rg15 (by rfl) ?_
            have efig15_7438 : (ig15 7438).toInt = (i7 7438).toInt := kg15.ti 7438 rfl
            have fig15_7439 : ((0 : Int) ≤ (ig15 7439).toInt) ∧ ((ig15 7439).toInt ≤ 200) := hGg15.I.1 7439
            have efig15_7439 : (ig15 7439).toInt = (i7 7439).toInt := kg15.ti 7439 rfl
            have fig15_7440 : ((0 : Int) ≤ (ig15 7440).toInt) ∧ ((ig15 7440).toInt ≤ 61) := hGg15.I.1 7440
            have efig15_7440 : (ig15 7440).toInt = (i7 7440).toInt := kg15.ti 7440 rfl
            refine ko_callI mi_k159.1 (pc := 39) (ls := [(1, .int l1_7), (0, .ref 116)]) (st := [.ref 116]) (h := ks ig15 ag15 qg15 rg15) (i := (.invokevirtual 211, 3, 158, 0, 9, 0, 396)) (mi_k159.2 _ _ (by rfl)) (ft_invS mi_pq158 (by rfl)) (cy := mi_c158) mi_pq158 rfl (kc158_116 hGg15.I hGg15.R (oz1325 c14 efig15_7438 efig15_7439 p7_0.1 p7_0.2 p7_1 z16.1 z16.2 kn0) (oz1326 c14 efig15_7440 p7_0.1 p7_0.2 p7_1 z16.1 kn0) (kNw_cast (O7_0 (oz1307 c14 p7_0.1 p7_0.2 kn0)) (congrArg Int.toNat (oz719 efig15_7440)) (congrArg Int.toNat (oz719 efig15_7439)) (kg15.fa 124 rfl) (kg15.fa 125 rfl) (kg15.fa 126 rfl) (kg15.fa 127 rfl))) (by decide) ?_
            intro vg17 ig17 ag17 qg17 rg17 kg17 hg17
            have hGg17 := kG_call hGg15 kg17 (by decide +kernel)
            rcases hg17 with ⟨eg17, hg17⟩ | ⟨eg17, hg17⟩
            ·
              subst eg17
              obtain ⟨hg17, og17⟩ := hg17
              have fig17_7439 : ((0 : Int) ≤ (ig17 7439).toInt) ∧ ((ig17 7439).toInt ≤ 200) := hGg17.I.1 7439
              have fig17_7437 : ((0 : Int) ≤ (ig17 7437).toInt) ∧ ((ig17 7437).toInt ≤ 120) := hGg17.I.1 7437
              have fig17_7429 : ((0 : Int) ≤ (ig17 7429).toInt) ∧ ((ig17 7429).toInt ≤ 120) := hGg17.I.1 7429
              have efig17_7429 : (ig17 7429).toInt = (ig15 7429).toInt := kg17.ti 7429 rfl
              have fig17_7440 : ((0 : Int) ≤ (ig17 7440).toInt) ∧ ((ig17 7440).toInt ≤ 61) := hGg17.I.1 7440
              have z18 : ((ig17 7438).toInt = 0) ∧ ((ig17 7439).toInt ≤ (ig17 7437).toInt) ∧ ((ig17 7437).toInt ≤ (ig17 7429).toInt) ∧ ((2 * (ig17 7440).toInt) ≤ ((ig17 7437).toInt + 1)) ∧ ((ig17 7440).toInt = ((ig15 7440).toInt + 1)) ∧ ((ig15 7437).toInt ≤ (ig17 7437).toInt) := hg17
              refine ft_go mi_k159 2 25 [(1, .int 1), (0, .ref 116)] [] ig17 ag17 qg17 rg17 (by rfl) ?_
              exact ih7 _ _ _ _ _ hGg17 (oz1308 kn1) (oz1309 z18.1 z18.2.1 z18.2.2.1 z18.2.2.2.1 kn1) (oz173 z18.2.2.1) (fun _ => (kNw_cast og17 (congrArg Int.toNat oz34) (congrArg Int.toNat oz34) rfl rfl rfl rfl)) (kj_meas (oz1310 c14 efig15_7429 efig17_7429 p7_0.1 z16.1 z18.2.2.2.2.2 kn0 kn1) (oz1311 efig15_7429 p7_0.1 z16.1 z16.2) hm7)
            ·
              subst eg17
              have fig17_7437 : ((0 : Int) ≤ (ig17 7437).toInt) ∧ ((ig17 7437).toInt ≤ 120) := hGg17.I.1 7437
              have fig17_7429 : ((0 : Int) ≤ (ig17 7429).toInt) ∧ ((ig17 7429).toInt ≤ 120) := hGg17.I.1 7429
              have efig17_7429 : (ig17 7429).toInt = (ig15 7429).toInt := kg17.ti 7429 rfl
              have z19 : (ig17 7437).toInt ≤ (ig17 7429).toInt := hg17
              refine ft_go mi_k159 2 25 [(1, .int 0), (0, .ref 116)] [] ig17 ag17 qg17 rg17 (by rfl) ?_
              have fig17_7439 : ((0 : Int) ≤ (ig17 7439).toInt) ∧ ((ig17 7439).toInt ≤ 200) := hGg17.I.1 7439
              have fig17_7440 : ((0 : Int) ≤ (ig17 7440).toInt) ∧ ((ig17 7440).toInt ≤ 61) := hGg17.I.1 7440
              exact ih7 _ _ _ _ _ hGg17 (oz1312 kn0) (oz1313 kn0) (oz173 z19) (fun h => absurd (kn0.symm.trans h) (by decide)) (kj_meas (oz1314 c14 efig15_7429 fig17_7429.2 fig17_7437.1 p7_0.1 z16.1 z16.2 kn0) (oz1311 efig15_7429 p7_0.1 z16.1 z16.2) hm7)
          ·
            subst eg15
            have fig15_7437 : ((0 : Int) ≤ (ig15 7437).toInt) ∧ ((ig15 7437).toInt ≤ 120) := hGg15.I.1 7437
            have z20 : (ig15 7437).toInt = (i7 7437).toInt := hg15
            refine ft_go mi_k159 1 46 [(1, .int l1_7), (0, .ref 116)] [] ig15 ag15 qg15 rg15 (by rfl) ?_
            have hG21 := kG_call hGg5 hGg15 (by decide +kernel)
            refine ft_go mi_k159 1 47 [(1, .int l1_7), (0, .ref 116)] [.int l1_7] ig15 ag15 qg15 rg15 (by rfl) ?_
            refine ft_if mi_k159 (l1_7 == 0) 65 50 [(1, .int l1_7), (0, .ref 116)] [] (by rfl) (fun c => ?_) (fun c => ?_)
            ·
              have c22 : l1_7.toInt = (0 : Int32).toInt := kd_eq c; clear c
              exact (oz1281 c14 c22 p7_0.1 kn0).elim
            ·
              have c23 : l1_7.toInt ≠ (0 : Int32).toInt := kd_eqF c; clear c
              have fig15_7429 : ((0 : Int) ≤ (ig15 7429).toInt) ∧ ((ig15 7429).toInt ≤ 120) := hG21.I.1 7429
              have efig15_7429 : (ig15 7429).toInt = (i7 7429).toInt := kg15.ti 7429 rfl
              refine ft_go mi_k159 4 58 [(1, .int l1_7), (0, .ref 116)] [.int (ig15 7429), .int (ig15 7437)] ig15 ag15 qg15 rg15 (by rfl) ?_
              refine ft_if mi_k159 ((ig15 7437) != (ig15 7429)) 65 61 [(1, .int l1_7), (0, .ref 116)] [] (by rfl) (fun c => ?_) (fun c => ?_)
              ·
                have c24 : (ig15 7437).toInt ≠ (ig15 7429).toInt := kd_ne c; clear c
                have hJ25 := kG_i hG21 7429 rfl (v := 0) ⟨(oz46 kn0), (oz1297 kn0)⟩
                have s26 : ((-100) - (ig15 7437)).toInt = ((-100) : Int32).toInt - (ig15 7437).toInt := kd_sub (oz1302 fig15_7437.2 knm100) (oz1324 fig15_7437.1 knm100)
                refine ft_go mi_k159 11 83 [(2, .int 0), (1, .int l1_7), (0, .ref 116)] [.int ((-100) - (ig15 7437))] (ku ig15 7429 0) ag15 qg15 rg15 (by rfl) ?_
                exact ft_ret mi_k159 (by rfl) (hP ((-100) - (ig15 7437)) _ _ _ _ hJ25 ⟨trivial, (kCode_of (i1 := ku ig15 7429 0) hE_code ((kg15.fi 7432 rfl).trans ((hL7.fi 7432 rfl).trans (kg5.fi 7432 rfl))) (((kg15.fa 120 rfl).trans (hL7.fa 120 rfl)).trans (kg5.fa 120 rfl)) (((kg15.fa 121 rfl).trans (hL7.fa 121 rfl)).trans (kg5.fa 121 rfl)) (((kg15.fa 122 rfl).trans (hL7.fa 122 rfl)).trans (kg5.fa 122 rfl)) (((kg15.fa 123 rfl).trans (hL7.fa 123 rfl)).trans (kg5.fa 123 rfl)))⟩)
              ·
                have c27 : (ig15 7437).toInt = (ig15 7429).toInt := kd_neF c; clear c
                have hJ28 := kG_i hG21 7429 rfl (v := 0) ⟨(oz46 kn0), (oz1297 kn0)⟩
                have hJ29 := kG_i hJ28 7431 rfl (v := 1) ⟨(oz246 kn1), (oz558 kn1)⟩
                have fig15_7440 : ((0 : Int) ≤ (ig15 7440).toInt) ∧ ((ig15 7440).toInt ≤ 61) := hJ29.I.1 7440
                have efig15_7440 : (ig15 7440).toInt = (i7 7440).toInt := kg15.ti 7440 rfl
                have hJ30 := kG_i hJ29 7432 rfl (v := (ig15 7440)) ⟨(oz3 fig15_7440.1), (oz1327 c14 efig15_7440 fi7_7437.2 p7_0.1 p7_0.2 p7_1 kn0)⟩
                have fig15_7439 : ((0 : Int) ≤ (ig15 7439).toInt) ∧ ((ig15 7439).toInt ≤ 200) := hJ30.I.1 7439
                have efig15_7439 : (ig15 7439).toInt = (i7 7439).toInt := kg15.ti 7439 rfl
                have hN31 := (kNw_cast (O7_0 (oz1307 c14 p7_0.1 p7_0.2 kn0)) (congrArg Int.toNat (oz719 efig15_7440)) (congrArg Int.toNat (oz719 efig15_7439)) (kg15.fa 124 rfl) (kg15.fa 125 rfl) (kg15.fa 126 rfl) (kg15.fa 127 rfl))
                refine ft_go mi_k159 17 99 [(3, .int 0), (2, .int 1), (1, .int l1_7), (0, .ref 116)] [] (ku (ku (ku ig15 7429 0) 7431 1) 7432 (ig15 7440)) ag15 qg15 rg15 (by rfl) ?_
                have lp32 : ∀ (nz : Nat) (i32 : Nat → Int32) (a32 : Nat → List Int32) (q32 : Nat → List Int64) (r32 : Nat → Nat) (l3_32 : Int32), kG w159_116_L99 (ku (ku (ku ig15 7429 0) 7431 1) 7432 (ig15 7440)) ag15 qg15 rg15 i32 a32 q32 r32 → ((0 : Int) ≤ l3_32.toInt) ∧ (l3_32.toInt ≤ (i32 7432).toInt) → kCp (ag15 124) (a32 120) l3_32.toInt.toNat → kCp (ag15 125) (a32 121) l3_32.toInt.toNat → kCp (ag15 126) (a32 122) l3_32.toInt.toNat → (((i32 7432).toInt - l3_32.toInt)).toNat < nz → ko 55 (mi_h159, mi_c159) P (99, [(3, .int l3_32), (2, .int 1), (1, .int l1_7), (0, .ref 116)], [], (0, 0), ks i32 a32 q32 r32) := by
                  intro nz
                  induction nz with
                  | zero =>
                    intro _ _ _ _ _ _ _ _ _ _ hm
                    exact absurd hm (Nat.not_lt_zero _)
                  | succ nz ih32 =>
                    intro i32 a32 q32 r32 l3_32 hL32 p32_0 O32_0 O32_1 O32_2 hm32
                    have fi32_7432 : ((0 : Int) ≤ (i32 7432).toInt) ∧ ((i32 7432).toInt ≤ 60) := hL32.I.1 7432
                    have efi32_7432 : (i32 7432).toInt = (ig15 7440).toInt := hL32.ti 7432 rfl
                    refine ft_go mi_k159 3 104 [(3, .int l3_32), (2, .int 1), (1, .int l1_7), (0, .ref 116)] [.int (i32 7432), .int l3_32] i32 a32 q32 r32 (by rfl) ?_
                    refine ft_if mi_k159 (decide ((i32 7432) ≤ l3_32)) 149 107 [(3, .int l3_32), (2, .int 1), (1, .int l1_7), (0, .ref 116)] [] (by rfl) (fun c => ?_) (fun c => ?_)
                    ·
                      have c33 : (i32 7432).toInt ≤ l3_32.toInt := kd_le c; clear c
                      have hG34 := kG_call hJ30 hL32 (by decide +kernel)
                      refine ft_go mi_k159 2 151 [(3, .int 0), (2, .int 1), (1, .int l1_7), (0, .ref 116)] [] i32 a32 q32 r32 (by rfl) ?_
                      have lp35 : ∀ (nz : Nat) (i35 : Nat → Int32) (a35 : Nat → List Int32) (q35 : Nat → List Int64) (r35 : Nat → Nat) (l3_35 : Int32), kG w159_116_L151 i32 a32 q32 r32 i35 a35 q35 r35 → ((0 : Int) ≤ l3_35.toInt) ∧ (l3_35.toInt ≤ (i35 7439).toInt) → kCp (ag15 127) (a35 123) l3_35.toInt.toNat → (((i35 7439).toInt - l3_35.toInt)).toNat < nz → ko 55 (mi_h159, mi_c159) P (151, [(3, .int l3_35), (2, .int 1), (1, .int l1_7), (0, .ref 116)], [], (0, 0), ks i35 a35 q35 r35) := by
                        intro nz
                        induction nz with
                        | zero =>
                          intro _ _ _ _ _ _ _ _ hm
                          exact absurd hm (Nat.not_lt_zero _)
                        | succ nz ih35 =>
                          intro i35 a35 q35 r35 l3_35 hL35 p35_0 O35_0 hm35
                          have fi35_7439 : ((0 : Int) ≤ (i35 7439).toInt) ∧ ((i35 7439).toInt ≤ 200) := hL35.I.1 7439
                          have fi32_7439 : ((0 : Int) ≤ (i32 7439).toInt) ∧ ((i32 7439).toInt ≤ 200) := hG34.I.1 7439
                          have efi32_7439 : (i32 7439).toInt = (ig15 7439).toInt := hL32.ti 7439 rfl
                          have efi35_7439 : (i35 7439).toInt = (i32 7439).toInt := hL35.ti 7439 rfl
                          refine ft_go mi_k159 3 156 [(3, .int l3_35), (2, .int 1), (1, .int l1_7), (0, .ref 116)] [.int (i35 7439), .int l3_35] i35 a35 q35 r35 (by rfl) ?_
                          refine ft_if mi_k159 (decide ((i35 7439) ≤ l3_35)) 177 159 [(3, .int l3_35), (2, .int 1), (1, .int l1_7), (0, .ref 116)] [] (by rfl) (fun c => ?_) (fun c => ?_)
                          ·
                            have c36 : (i35 7439).toInt ≤ l3_35.toInt := kd_le c; clear c
                            have hG37 := kG_call hG34 hL35 (by decide +kernel)
                            refine ft_go mi_k159 1 178 [(3, .int l3_35), (2, .int 1), (1, .int l1_7), (0, .ref 116)] [.int 1] i35 a35 q35 r35 (by rfl) ?_
                            have fi35_7432 : ((0 : Int) ≤ (i35 7432).toInt) ∧ ((i35 7432).toInt ≤ 60) := hG37.I.1 7432
                            have efi35_7432 : (i35 7432).toInt = (i32 7432).toInt := hL35.ti 7432 rfl
                            exact ft_ret mi_k159 (by rfl) (hP 1 _ _ _ _ hG37 ⟨trivial, (kCode_made hN31 (kCp_le O32_0 (hL35.fa 120 rfl) (kj_nle (oz1318 c33 efi32_7432))) (kCp_le O32_1 (hL35.fa 121 rfl) (kj_nle (oz1318 c33 efi32_7432))) (kCp_le O32_2 (hL35.fa 122 rfl) (kj_nle (oz1318 c33 efi32_7432))) (kCp_le O35_0 rfl (kj_nle (oz1319 c36 efi32_7439 efi35_7439))) (kj_ile (oz762 efi32_7432 efi35_7432) (oz3 fig15_7440.1)))⟩)
                          ·
                            have c38 : l3_35.toInt < (i35 7439).toInt := kd_leF c; clear c
                            refine ft_go mi_k159 6 169 [(3, .int l3_35), (2, .int 1), (1, .int l1_7), (0, .ref 116)] [.int l3_35, .ref 127, .int l3_35, .ref 123] i35 a35 q35 r35 (by rfl) ?_
                            refine ko_iald3 mi_k159.1 (n := 200) (c := 200) (ax := (0, 0, 0, 0, 0)) (mi_k159.2 _ _ (by rfl)) (by rfl) (ksG127 _ _ _ _) (hL35.I.2.1 127) rfl (oz3 p35_0.1) (oz269 c38 fi35_7439.2) ?_
                            refine ko_iast3 mi_k159.1 (n := 200) (c := 200) (ax := (0, 0, 0, 0, 0)) (mi_k159.2 _ _ (by rfl)) (by rfl) (ksG123 _ _ _ _) (ksA123 _ _ _ _) (hL35.I.2.1 123) rfl (oz3 p35_0.1) (oz269 c38 fi35_7439.2) ?_
                            intro a39 ea39 fa39
                            have hJ39 := kG_a3 hL35 123 rfl ea39 fa39 (kd_bd _)
                            have s40 : (l3_35 + 1).toInt = l3_35.toInt + (1 : Int32).toInt := kd_add (oz12 p35_0.1 kn1) (oz277 c38 fi35_7439.2 kn1)
                            refine ft_go mi_k159 2 151 [(3, .int (l3_35 + 1)), (2, .int 1), (1, .int l1_7), (0, .ref 116)] [] i35 a39 q35 r35 (by rfl) ?_
                            exact ih35 _ _ _ _ _ hJ39 (oz1320 c38 p35_0.1 s40 kn1) (kCp_le (kCp_step (kCp_le O35_0 rfl (Nat.le_refl _)) (hL35.I.2.1 123) (oz3 p35_0.1) (oz269 c38 fi35_7439.2) (oz169 s40 kn1) ea39 (congrArg (fun z : List Int32 => z.getD l3_35.toNatClampNeg 0) ((hL35.fa 127 rfl).trans (hL32.fa 127 rfl)))) rfl (Nat.le_refl _)) (kj_meas (oz44 s40 kn1) (oz45 c38) hm35)
                      have fi32_7439 : ((0 : Int) ≤ (i32 7439).toInt) ∧ ((i32 7439).toInt ≤ 200) := hG34.I.1 7439
                      have efi32_7439 : (i32 7439).toInt = (ig15 7439).toInt := hL32.ti 7439 rfl
                      exact lp35 _ _ _ _ _ _ (kG_self _ hG34.I hG34.R) (oz1321 fi32_7439.1 kn0) (kCp_zero kn0) (Nat.lt_succ_self _)
                    ·
                      have c41 : l3_32.toInt < (i32 7432).toInt := kd_leF c; clear c
                      refine ft_go mi_k159 6 117 [(3, .int l3_32), (2, .int 1), (1, .int l1_7), (0, .ref 116)] [.int l3_32, .ref 124, .int l3_32, .ref 120] i32 a32 q32 r32 (by rfl) ?_
                      refine ko_iald3 mi_k159.1 (n := 61) (c := 61) (ax := (0, 0, 0, 0, 0)) (mi_k159.2 _ _ (by rfl)) (by rfl) (ksG124 _ _ _ _) (hL32.I.2.1 124) rfl (oz3 p32_0.1) (oz1322 c41 fi32_7432.2) ?_
                      refine ko_iast3 mi_k159.1 (n := 60) (c := 60) (ax := (0, 0, 0, 0, 0)) (mi_k159.2 _ _ (by rfl)) (by rfl) (ksG120 _ _ _ _) (ksA120 _ _ _ _) (hL32.I.2.1 120) rfl (oz3 p32_0.1) (oz266 c41 fi32_7432.2) ?_
                      intro a42 ea42 fa42
                      have hJ42 := kG_a3 hL32 120 rfl ea42 fa42 (kd_bd _)
                      refine ft_go mi_k159 6 129 [(3, .int l3_32), (2, .int 1), (1, .int l1_7), (0, .ref 116)] [.int l3_32, .ref 125, .int l3_32, .ref 121] i32 a42 q32 r32 (by rfl) ?_
                      refine ko_iald3 mi_k159.1 (n := 61) (c := 61) (ax := (0, 0, 0, 0, 0)) (mi_k159.2 _ _ (by rfl)) (by rfl) (ksG125 _ _ _ _) (hJ42.I.2.1 125) rfl (oz3 p32_0.1) (oz1322 c41 fi32_7432.2) ?_
                      refine ko_iast3 mi_k159.1 (n := 60) (c := 60) (ax := (0, 0, 0, 0, 0)) (mi_k159.2 _ _ (by rfl)) (by rfl) (ksG121 _ _ _ _) (ksA121 _ _ _ _) (hJ42.I.2.1 121) rfl (oz3 p32_0.1) (oz266 c41 fi32_7432.2) ?_
                      intro a43 ea43 fa43
                      have hJ43 := kG_a3 hJ42 121 rfl ea43 fa43 (kd_bd _)
                      refine ft_go mi_k159 6 141 [(3, .int l3_32), (2, .int 1), (1, .int l1_7), (0, .ref 116)] [.int l3_32, .ref 126, .int l3_32, .ref 122] i32 a43 q32 r32 (by rfl) ?_
                      refine ko_iald3 mi_k159.1 (n := 61) (c := 61) (ax := (0, 0, 0, 0, 0)) (mi_k159.2 _ _ (by rfl)) (by rfl) (ksG126 _ _ _ _) (hJ43.I.2.1 126) rfl (oz3 p32_0.1) (oz1322 c41 fi32_7432.2) ?_
                      refine ko_iast3 mi_k159.1 (n := 60) (c := 60) (ax := (0, 0, 0, 0, 0)) (mi_k159.2 _ _ (by rfl)) (by rfl) (ksG122 _ _ _ _) (ksA122 _ _ _ _) (hJ43.I.2.1 122) rfl (oz3 p32_0.1) (oz266 c41 fi32_7432.2) ?_
                      intro a44 ea44 fa44
                      have hJ44 := kG_a3 hJ43 122 rfl ea44 fa44 (kd_bd _)
                      have s45 : (l3_32 + 1).toInt = l3_32.toInt + (1 : Int32).toInt := kd_add (oz12 p32_0.1 kn1) (oz307 c41 fi32_7432.2 kn1)
                      refine ft_go mi_k159 2 99 [(3, .int (l3_32 + 1)), (2, .int 1), (1, .int l1_7), (0, .ref 116)] [] i32 a44 q32 r32 (by rfl) ?_
                      exact ih32 _ _ _ _ _ hJ44 (oz1320 c41 p32_0.1 s45 kn1) (kCp_le (kCp_step (kCp_le O32_0 rfl (Nat.le_refl _)) (hL32.I.2.1 120) (oz3 p32_0.1) (oz266 c41 fi32_7432.2) (oz169 s45 kn1) ea42 (congrArg (fun z : List Int32 => z.getD l3_32.toNatClampNeg 0) (hL32.fa 124 rfl))) ((fa44 120 (by decide)).trans (fa43 120 (by decide))) (Nat.le_refl _)) (kCp_le (kCp_step (kCp_le O32_1 (fa42 121 (by decide)) (Nat.le_refl _)) (hJ42.I.2.1 121) (oz3 p32_0.1) (oz266 c41 fi32_7432.2) (oz169 s45 kn1) ea43 (congrArg (fun z : List Int32 => z.getD l3_32.toNatClampNeg 0) ((fa42 125 (by decide)).trans (hL32.fa 125 rfl)))) (fa44 121 (by decide)) (Nat.le_refl _)) (kCp_le (kCp_step (kCp_le O32_2 ((fa43 122 (by decide)).trans (fa42 122 (by decide))) (Nat.le_refl _)) (hJ43.I.2.1 122) (oz3 p32_0.1) (oz266 c41 fi32_7432.2) (oz169 s45 kn1) ea44 (congrArg (fun z : List Int32 => z.getD l3_32.toNatClampNeg 0) (((fa43 126 (by decide)).trans (fa42 126 (by decide))).trans (hL32.fa 126 rfl)))) rfl (Nat.le_refl _)) (kj_meas (oz44 s45 kn1) (oz45 c41) hm32)
                exact lp32 _ _ _ _ _ _ (kG_self _ hJ30.I hJ30.R) (oz1321 fig15_7440.1 kn0) (kCp_zero kn0) (kCp_zero kn0) (kCp_zero kn0) (Nat.lt_succ_self _)
    exact lp7 _ _ _ _ _ _ (kG_self _ hGg5.I hGg5.R) (oz1308 kn1) (oz1309 z6.1 z6.2.1 z6.2.2.1 z6.2.2.2.1 kn1) (oz173 z6.2.2.1) (fun _ => (kNw_cast og5 (congrArg Int.toNat oz34) (congrArg Int.toNat oz34) rfl rfl rfl rfl)) (Nat.lt_succ_self _)
  ·
    subst eg5
    have fig5_7437 : ((0 : Int) ≤ (ig5 7437).toInt) ∧ ((ig5 7437).toInt ≤ 120) := hGg5.I.1 7437
    have fig5_7429 : ((0 : Int) ≤ (ig5 7429).toInt) ∧ ((ig5 7429).toInt ≤ 120) := hGg5.I.1 7429
    have efig5_7429 : (ig5 7429).toInt = (i 7429).toInt := kg5.ti 7429 rfl
    have z46 : (ig5 7437).toInt ≤ (ig5 7429).toInt := hg5
    refine ft_go mi_k159 1 25 [(1, .int 0), (0, .ref 116)] [] ig5 ag5 qg5 rg5 (by rfl) ?_
    have lp47 : ∀ (nz : Nat) (i47 : Nat → Int32) (a47 : Nat → List Int32) (q47 : Nat → List Int64) (r47 : Nat → Nat) (l1_47 : Int32), kG w159_116_L25 ig5 ag5 qg5 rg5 i47 a47 q47 r47 → ((0 : Int) ≤ l1_47.toInt) ∧ (l1_47.toInt ≤ 1) → ((l1_47.toInt = 1) → (((i47 7438).toInt = 0) ∧ ((i47 7439).toInt ≤ (i47 7437).toInt) ∧ ((i47 7437).toInt ≤ (i47 7429).toInt) ∧ ((2 * (i47 7440).toInt) ≤ ((i47 7437).toInt + 1)))) → (i47 7437).toInt ≤ (i47 7429).toInt → (l1_47.toInt = 1 → kNw (i47 7440).toInt.toNat (i47 7439).toInt.toNat (a47 124) (a47 125) (a47 126) (a47 127)) → ((((200 * l1_47.toInt) + (i47 7429).toInt) - (i47 7437).toInt)).toNat < nz → ko 55 (mi_h159, mi_c159) P (25, [(1, .int l1_47), (0, .ref 116)], [], (0, 0), ks i47 a47 q47 r47) := by
      intro nz
      induction nz with
      | zero =>
        intro _ _ _ _ _ _ _ _ _ _ hm
        exact absurd hm (Nat.not_lt_zero _)
      | succ nz ih47 =>
        intro i47 a47 q47 r47 l1_47 hL47 p47_0 p47_1 p47_2 O47_0 hm47
        have fi47_7439 : ((0 : Int) ≤ (i47 7439).toInt) ∧ ((i47 7439).toInt ≤ 200) := hL47.I.1 7439
        have fi47_7437 : ((0 : Int) ≤ (i47 7437).toInt) ∧ ((i47 7437).toInt ≤ 120) := hL47.I.1 7437
        have fi47_7429 : ((0 : Int) ≤ (i47 7429).toInt) ∧ ((i47 7429).toInt ≤ 120) := hL47.I.1 7429
        have efi47_7429 : (i47 7429).toInt = (ig5 7429).toInt := hL47.ti 7429 rfl
        have fi47_7440 : ((0 : Int) ≤ (i47 7440).toInt) ∧ ((i47 7440).toInt ≤ 61) := hL47.I.1 7440
        refine ft_go mi_k159 1 26 [(1, .int l1_47), (0, .ref 116)] [.int l1_47] i47 a47 q47 r47 (by rfl) ?_
        refine ft_if mi_k159 (l1_47 == 0) 46 29 [(1, .int l1_47), (0, .ref 116)] [] (by rfl) (fun c => ?_) (fun c => ?_)
        ·
          have c48 : l1_47.toInt = (0 : Int32).toInt := kd_eq c; clear c
          have hG49 := kG_call hGg5 hL47 (by decide +kernel)
          refine ft_go mi_k159 1 47 [(1, .int l1_47), (0, .ref 116)] [.int l1_47] i47 a47 q47 r47 (by rfl) ?_
          refine ft_if mi_k159 (l1_47 == 0) 65 50 [(1, .int l1_47), (0, .ref 116)] [] (by rfl) (fun c => ?_) (fun c => ?_)
          ·
            have c50 : l1_47.toInt = (0 : Int32).toInt := kd_eq c; clear c
            have hJ51 := kG_i hG49 7429 rfl (v := 0) ⟨(oz46 kn0), (oz1297 kn0)⟩
            have s52 : ((-100) - (i47 7437)).toInt = ((-100) : Int32).toInt - (i47 7437).toInt := kd_sub (oz1302 fi47_7437.2 knm100) (oz1324 fi47_7437.1 knm100)
            refine ft_go mi_k159 11 83 [(2, .int 0), (1, .int l1_47), (0, .ref 116)] [.int ((-100) - (i47 7437))] (ku i47 7429 0) a47 q47 r47 (by rfl) ?_
            exact ft_ret mi_k159 (by rfl) (hP ((-100) - (i47 7437)) _ _ _ _ hJ51 ⟨trivial, (kCode_of (i1 := ku i47 7429 0) hE_code ((hL47.fi 7432 rfl).trans (kg5.fi 7432 rfl)) ((hL47.fa 120 rfl).trans (kg5.fa 120 rfl)) ((hL47.fa 121 rfl).trans (kg5.fa 121 rfl)) ((hL47.fa 122 rfl).trans (kg5.fa 122 rfl)) ((hL47.fa 123 rfl).trans (kg5.fa 123 rfl)))⟩)
          ·
            have c53 : l1_47.toInt ≠ (0 : Int32).toInt := kd_eqF c; clear c
            exact (oz1280 c48 c53 p47_0.1 kn0).elim
        ·
          have c54 : l1_47.toInt ≠ (0 : Int32).toInt := kd_eqF c; clear c
          refine ft_go mi_k159 2 32 [(1, .int l1_47), (0, .ref 116)] [.int 59, .ref 116] i47 a47 q47 r47 (by rfl) ?_
          refine ko_callI mi_k159.1 (pc := 32) (ls := [(1, .int l1_47), (0, .ref 116)]) (st := [.int 59, .ref 116]) (h := ks i47 a47 q47 r47) (i := (.invokevirtual 187, 3, 148, 0, 9, 0, 407)) (mi_k159.2 _ _ (by rfl)) (ft_invS mi_pq148 (by rfl)) (cy := mi_c148) mi_pq148 rfl (kc148_116 hL47.I hL47.R 59 (oz1304 kn59)) (by decide) ?_
          intro vg55 ig55 ag55 qg55 rg55 kg55 hg55
          have hGg55 := kG_call hL47 kg55 (by decide +kernel)
          rcases hg55 with ⟨eg55, hg55⟩ | ⟨eg55, hg55⟩
          ·
            subst eg55
            have fig55_7437 : ((0 : Int) ≤ (ig55 7437).toInt) ∧ ((ig55 7437).toInt ≤ 120) := hGg55.I.1 7437
            have fig55_7429 : ((0 : Int) ≤ (ig55 7429).toInt) ∧ ((ig55 7429).toInt ≤ 120) := hGg55.I.1 7429
            have efig55_7429 : (ig55 7429).toInt = (i47 7429).toInt := kg55.ti 7429 rfl
            have z56 : ((ig55 7437).toInt = ((i47 7437).toInt + 1)) ∧ ((ig55 7437).toInt ≤ (ig55 7429).toInt) := hg55
            refine ft_go mi_k159 2 39 [(1, .int l1_47), (0, .ref 116)] [.ref 116] ig55 ag55 qg55 rg55 (by rfl) ?_
            have efig55_7438 : (ig55 7438).toInt = (i47 7438).toInt := kg55.ti 7438 rfl
            have fig55_7439 : ((0 : Int) ≤ (ig55 7439).toInt) ∧ ((ig55 7439).toInt ≤ 200) := hGg55.I.1 7439
            have efig55_7439 : (ig55 7439).toInt = (i47 7439).toInt := kg55.ti 7439 rfl
            have fig55_7440 : ((0 : Int) ≤ (ig55 7440).toInt) ∧ ((ig55 7440).toInt ≤ 61) := hGg55.I.1 7440
            have efig55_7440 : (ig55 7440).toInt = (i47 7440).toInt := kg55.ti 7440 rfl
            refine ko_callI mi_k159.1 (pc := 39) (ls := [(1, .int l1_47), (0, .ref 116)]) (st := [.ref 116]) (h := ks ig55 ag55 qg55 rg55) (i := (.invokevirtual 211, 3, 158, 0, 9, 0, 396)) (mi_k159.2 _ _ (by rfl)) (ft_invS mi_pq158 (by rfl)) (cy := mi_c158) mi_pq158 rfl (kc158_116 hGg55.I hGg55.R (oz1325 c54 efig55_7438 efig55_7439 p47_0.1 p47_0.2 p47_1 z56.1 z56.2 kn0) (oz1326 c54 efig55_7440 p47_0.1 p47_0.2 p47_1 z56.1 kn0) (kNw_cast (O47_0 (oz1307 c54 p47_0.1 p47_0.2 kn0)) (congrArg Int.toNat (oz719 efig55_7440)) (congrArg Int.toNat (oz719 efig55_7439)) (kg55.fa 124 rfl) (kg55.fa 125 rfl) (kg55.fa 126 rfl) (kg55.fa 127 rfl))) (by decide) ?_
            intro vg57 ig57 ag57 qg57 rg57 kg57 hg57
            have hGg57 := kG_call hGg55 kg57 (by decide +kernel)
            rcases hg57 with ⟨eg57, hg57⟩ | ⟨eg57, hg57⟩
            ·
              subst eg57
              obtain ⟨hg57, og57⟩ := hg57
              have fig57_7439 : ((0 : Int) ≤ (ig57 7439).toInt) ∧ ((ig57 7439).toInt ≤ 200) := hGg57.I.1 7439
              have fig57_7437 : ((0 : Int) ≤ (ig57 7437).toInt) ∧ ((ig57 7437).toInt ≤ 120) := hGg57.I.1 7437
              have fig57_7429 : ((0 : Int) ≤ (ig57 7429).toInt) ∧ ((ig57 7429).toInt ≤ 120) := hGg57.I.1 7429
              have efig57_7429 : (ig57 7429).toInt = (ig55 7429).toInt := kg57.ti 7429 rfl
              have fig57_7440 : ((0 : Int) ≤ (ig57 7440).toInt) ∧ ((ig57 7440).toInt ≤ 61) := hGg57.I.1 7440
              have z58 : ((ig57 7438).toInt = 0) ∧ ((ig57 7439).toInt ≤ (ig57 7437).toInt) ∧ ((ig57 7437).toInt ≤ (ig57 7429).toInt) ∧ ((2 * (ig57 7440).toInt) ≤ ((ig57 7437).toInt + 1)) ∧ ((ig57 7440).toInt = ((ig55 7440).toInt + 1)) ∧ ((ig55 7437).toInt ≤ (ig57 7437).toInt) := hg57
              refine ft_go mi_k159 2 25 [(1, .int 1), (0, .ref 116)] [] ig57 ag57 qg57 rg57 (by rfl) ?_
              exact ih47 _ _ _ _ _ hGg57 (oz1308 kn1) (oz1309 z58.1 z58.2.1 z58.2.2.1 z58.2.2.2.1 kn1) (oz173 z58.2.2.1) (fun _ => (kNw_cast og57 (congrArg Int.toNat oz34) (congrArg Int.toNat oz34) rfl rfl rfl rfl)) (kj_meas (oz1310 c54 efig55_7429 efig57_7429 p47_0.1 z56.1 z58.2.2.2.2.2 kn0 kn1) (oz1311 efig55_7429 p47_0.1 z56.1 z56.2) hm47)
            ·
              subst eg57
              have fig57_7437 : ((0 : Int) ≤ (ig57 7437).toInt) ∧ ((ig57 7437).toInt ≤ 120) := hGg57.I.1 7437
              have fig57_7429 : ((0 : Int) ≤ (ig57 7429).toInt) ∧ ((ig57 7429).toInt ≤ 120) := hGg57.I.1 7429
              have efig57_7429 : (ig57 7429).toInt = (ig55 7429).toInt := kg57.ti 7429 rfl
              have z59 : (ig57 7437).toInt ≤ (ig57 7429).toInt := hg57
              refine ft_go mi_k159 2 25 [(1, .int 0), (0, .ref 116)] [] ig57 ag57 qg57 rg57 (by rfl) ?_
              have fig57_7439 : ((0 : Int) ≤ (ig57 7439).toInt) ∧ ((ig57 7439).toInt ≤ 200) := hGg57.I.1 7439
              have fig57_7440 : ((0 : Int) ≤ (ig57 7440).toInt) ∧ ((ig57 7440).toInt ≤ 61) := hGg57.I.1 7440
              exact ih47 _ _ _ _ _ hGg57 (oz1312 kn0) (oz1313 kn0) (oz173 z59) (fun h => absurd (kn0.symm.trans h) (by decide)) (kj_meas (oz1314 c54 efig55_7429 fig57_7429.2 fig57_7437.1 p47_0.1 z56.1 z56.2 kn0) (oz1311 efig55_7429 p47_0.1 z56.1 z56.2) hm47)
          ·
            subst eg55
            have fig55_7437 : ((0 : Int) ≤ (ig55 7437).toInt) ∧ ((ig55 7437).toInt ≤ 120) := hGg55.I.1 7437
            have z60 : (ig55 7437).toInt = (i47 7437).toInt := hg55
            refine ft_go mi_k159 1 46 [(1, .int l1_47), (0, .ref 116)] [] ig55 ag55 qg55 rg55 (by rfl) ?_
            have hG61 := kG_call hGg5 hGg55 (by decide +kernel)
            refine ft_go mi_k159 1 47 [(1, .int l1_47), (0, .ref 116)] [.int l1_47] ig55 ag55 qg55 rg55 (by rfl) ?_
            refine ft_if mi_k159 (l1_47 == 0) 65 50 [(1, .int l1_47), (0, .ref 116)] [] (by rfl) (fun c => ?_) (fun c => ?_)
            ·
              have c62 : l1_47.toInt = (0 : Int32).toInt := kd_eq c; clear c
              exact (oz1281 c54 c62 p47_0.1 kn0).elim
            ·
              have c63 : l1_47.toInt ≠ (0 : Int32).toInt := kd_eqF c; clear c
              have fig55_7429 : ((0 : Int) ≤ (ig55 7429).toInt) ∧ ((ig55 7429).toInt ≤ 120) := hG61.I.1 7429
              have efig55_7429 : (ig55 7429).toInt = (i47 7429).toInt := kg55.ti 7429 rfl
              refine ft_go mi_k159 4 58 [(1, .int l1_47), (0, .ref 116)] [.int (ig55 7429), .int (ig55 7437)] ig55 ag55 qg55 rg55 (by rfl) ?_
              refine ft_if mi_k159 ((ig55 7437) != (ig55 7429)) 65 61 [(1, .int l1_47), (0, .ref 116)] [] (by rfl) (fun c => ?_) (fun c => ?_)
              ·
                have c64 : (ig55 7437).toInt ≠ (ig55 7429).toInt := kd_ne c; clear c
                have hJ65 := kG_i hG61 7429 rfl (v := 0) ⟨(oz46 kn0), (oz1297 kn0)⟩
                have s66 : ((-100) - (ig55 7437)).toInt = ((-100) : Int32).toInt - (ig55 7437).toInt := kd_sub (oz1302 fig55_7437.2 knm100) (oz1324 fig55_7437.1 knm100)
                refine ft_go mi_k159 11 83 [(2, .int 0), (1, .int l1_47), (0, .ref 116)] [.int ((-100) - (ig55 7437))] (ku ig55 7429 0) ag55 qg55 rg55 (by rfl) ?_
                exact ft_ret mi_k159 (by rfl) (hP ((-100) - (ig55 7437)) _ _ _ _ hJ65 ⟨trivial, (kCode_of (i1 := ku ig55 7429 0) hE_code ((kg55.fi 7432 rfl).trans ((hL47.fi 7432 rfl).trans (kg5.fi 7432 rfl))) (((kg55.fa 120 rfl).trans (hL47.fa 120 rfl)).trans (kg5.fa 120 rfl)) (((kg55.fa 121 rfl).trans (hL47.fa 121 rfl)).trans (kg5.fa 121 rfl)) (((kg55.fa 122 rfl).trans (hL47.fa 122 rfl)).trans (kg5.fa 122 rfl)) (((kg55.fa 123 rfl).trans (hL47.fa 123 rfl)).trans (kg5.fa 123 rfl)))⟩)
              ·
                have c67 : (ig55 7437).toInt = (ig55 7429).toInt := kd_neF c; clear c
                have hJ68 := kG_i hG61 7429 rfl (v := 0) ⟨(oz46 kn0), (oz1297 kn0)⟩
                have hJ69 := kG_i hJ68 7431 rfl (v := 1) ⟨(oz246 kn1), (oz558 kn1)⟩
                have fig55_7440 : ((0 : Int) ≤ (ig55 7440).toInt) ∧ ((ig55 7440).toInt ≤ 61) := hJ69.I.1 7440
                have efig55_7440 : (ig55 7440).toInt = (i47 7440).toInt := kg55.ti 7440 rfl
                have hJ70 := kG_i hJ69 7432 rfl (v := (ig55 7440)) ⟨(oz3 fig55_7440.1), (oz1327 c54 efig55_7440 fi47_7437.2 p47_0.1 p47_0.2 p47_1 kn0)⟩
                have fig55_7439 : ((0 : Int) ≤ (ig55 7439).toInt) ∧ ((ig55 7439).toInt ≤ 200) := hJ70.I.1 7439
                have efig55_7439 : (ig55 7439).toInt = (i47 7439).toInt := kg55.ti 7439 rfl
                have hN71 := (kNw_cast (O47_0 (oz1307 c54 p47_0.1 p47_0.2 kn0)) (congrArg Int.toNat (oz719 efig55_7440)) (congrArg Int.toNat (oz719 efig55_7439)) (kg55.fa 124 rfl) (kg55.fa 125 rfl) (kg55.fa 126 rfl) (kg55.fa 127 rfl))
                refine ft_go mi_k159 17 99 [(3, .int 0), (2, .int 1), (1, .int l1_47), (0, .ref 116)] [] (ku (ku (ku ig55 7429 0) 7431 1) 7432 (ig55 7440)) ag55 qg55 rg55 (by rfl) ?_
                have lp72 : ∀ (nz : Nat) (i72 : Nat → Int32) (a72 : Nat → List Int32) (q72 : Nat → List Int64) (r72 : Nat → Nat) (l3_72 : Int32), kG w159_116_L99 (ku (ku (ku ig55 7429 0) 7431 1) 7432 (ig55 7440)) ag55 qg55 rg55 i72 a72 q72 r72 → ((0 : Int) ≤ l3_72.toInt) ∧ (l3_72.toInt ≤ (i72 7432).toInt) → kCp (ag55 124) (a72 120) l3_72.toInt.toNat → kCp (ag55 125) (a72 121) l3_72.toInt.toNat → kCp (ag55 126) (a72 122) l3_72.toInt.toNat → (((i72 7432).toInt - l3_72.toInt)).toNat < nz → ko 55 (mi_h159, mi_c159) P (99, [(3, .int l3_72), (2, .int 1), (1, .int l1_47), (0, .ref 116)], [], (0, 0), ks i72 a72 q72 r72) := by
                  intro nz
                  induction nz with
                  | zero =>
                    intro _ _ _ _ _ _ _ _ _ _ hm
                    exact absurd hm (Nat.not_lt_zero _)
                  | succ nz ih72 =>
                    intro i72 a72 q72 r72 l3_72 hL72 p72_0 O72_0 O72_1 O72_2 hm72
                    have fi72_7432 : ((0 : Int) ≤ (i72 7432).toInt) ∧ ((i72 7432).toInt ≤ 60) := hL72.I.1 7432
                    have efi72_7432 : (i72 7432).toInt = (ig55 7440).toInt := hL72.ti 7432 rfl
                    refine ft_go mi_k159 3 104 [(3, .int l3_72), (2, .int 1), (1, .int l1_47), (0, .ref 116)] [.int (i72 7432), .int l3_72] i72 a72 q72 r72 (by rfl) ?_
                    refine ft_if mi_k159 (decide ((i72 7432) ≤ l3_72)) 149 107 [(3, .int l3_72), (2, .int 1), (1, .int l1_47), (0, .ref 116)] [] (by rfl) (fun c => ?_) (fun c => ?_)
                    ·
                      have c73 : (i72 7432).toInt ≤ l3_72.toInt := kd_le c; clear c
                      have hG74 := kG_call hJ70 hL72 (by decide +kernel)
                      refine ft_go mi_k159 2 151 [(3, .int 0), (2, .int 1), (1, .int l1_47), (0, .ref 116)] [] i72 a72 q72 r72 (by rfl) ?_
                      have lp75 : ∀ (nz : Nat) (i75 : Nat → Int32) (a75 : Nat → List Int32) (q75 : Nat → List Int64) (r75 : Nat → Nat) (l3_75 : Int32), kG w159_116_L151 i72 a72 q72 r72 i75 a75 q75 r75 → ((0 : Int) ≤ l3_75.toInt) ∧ (l3_75.toInt ≤ (i75 7439).toInt) → kCp (ag55 127) (a75 123) l3_75.toInt.toNat → (((i75 7439).toInt - l3_75.toInt)).toNat < nz → ko 55 (mi_h159, mi_c159) P (151, [(3, .int l3_75), (2, .int 1), (1, .int l1_47), (0, .ref 116)], [], (0, 0), ks i75 a75 q75 r75) := by
                        intro nz
                        induction nz with
                        | zero =>
                          intro _ _ _ _ _ _ _ _ hm
                          exact absurd hm (Nat.not_lt_zero _)
                        | succ nz ih75 =>
                          intro i75 a75 q75 r75 l3_75 hL75 p75_0 O75_0 hm75
                          have fi75_7439 : ((0 : Int) ≤ (i75 7439).toInt) ∧ ((i75 7439).toInt ≤ 200) := hL75.I.1 7439
                          have fi72_7439 : ((0 : Int) ≤ (i72 7439).toInt) ∧ ((i72 7439).toInt ≤ 200) := hG74.I.1 7439
                          have efi72_7439 : (i72 7439).toInt = (ig55 7439).toInt := hL72.ti 7439 rfl
                          have efi75_7439 : (i75 7439).toInt = (i72 7439).toInt := hL75.ti 7439 rfl
                          refine ft_go mi_k159 3 156 [(3, .int l3_75), (2, .int 1), (1, .int l1_47), (0, .ref 116)] [.int (i75 7439), .int l3_75] i75 a75 q75 r75 (by rfl) ?_
                          refine ft_if mi_k159 (decide ((i75 7439) ≤ l3_75)) 177 159 [(3, .int l3_75), (2, .int 1), (1, .int l1_47), (0, .ref 116)] [] (by rfl) (fun c => ?_) (fun c => ?_)
                          ·
                            have c76 : (i75 7439).toInt ≤ l3_75.toInt := kd_le c; clear c
                            have hG77 := kG_call hG74 hL75 (by decide +kernel)
                            refine ft_go mi_k159 1 178 [(3, .int l3_75), (2, .int 1), (1, .int l1_47), (0, .ref 116)] [.int 1] i75 a75 q75 r75 (by rfl) ?_
                            have fi75_7432 : ((0 : Int) ≤ (i75 7432).toInt) ∧ ((i75 7432).toInt ≤ 60) := hG77.I.1 7432
                            have efi75_7432 : (i75 7432).toInt = (i72 7432).toInt := hL75.ti 7432 rfl
                            exact ft_ret mi_k159 (by rfl) (hP 1 _ _ _ _ hG77 ⟨trivial, (kCode_made hN71 (kCp_le O72_0 (hL75.fa 120 rfl) (kj_nle (oz1318 c73 efi72_7432))) (kCp_le O72_1 (hL75.fa 121 rfl) (kj_nle (oz1318 c73 efi72_7432))) (kCp_le O72_2 (hL75.fa 122 rfl) (kj_nle (oz1318 c73 efi72_7432))) (kCp_le O75_0 rfl (kj_nle (oz1319 c76 efi72_7439 efi75_7439))) (kj_ile (oz762 efi72_7432 efi75_7432) (oz3 fig55_7440.1)))⟩)
                          ·
                            have c78 : l3_75.toInt < (i75 7439).toInt := kd_leF c; clear c
                            refine ft_go mi_k159 6 169 [(3, .int l3_75), (2, .int 1), (1, .int l1_47), (0, .ref 116)] [.int l3_75, .ref 127, .int l3_75, .ref 123] i75 a75 q75 r75 (by rfl) ?_
                            refine ko_iald3 mi_k159.1 (n := 200) (c := 200) (ax := (0, 0, 0, 0, 0)) (mi_k159.2 _ _ (by rfl)) (by rfl) (ksG127 _ _ _ _) (hL75.I.2.1 127) rfl (oz3 p75_0.1) (oz269 c78 fi75_7439.2) ?_
                            refine ko_iast3 mi_k159.1 (n := 200) (c := 200) (ax := (0, 0, 0, 0, 0)) (mi_k159.2 _ _ (by rfl)) (by rfl) (ksG123 _ _ _ _) (ksA123 _ _ _ _) (hL75.I.2.1 123) rfl (oz3 p75_0.1) (oz269 c78 fi75_7439.2) ?_
                            intro a79 ea79 fa79
                            have hJ79 := kG_a3 hL75 123 rfl ea79 fa79 (kd_bd _)
                            have s80 : (l3_75 + 1).toInt = l3_75.toInt + (1 : Int32).toInt := kd_add (oz12 p75_0.1 kn1) (oz277 c78 fi75_7439.2 kn1)
                            refine ft_go mi_k159 2 151 [(3, .int (l3_75 + 1)), (2, .int 1), (1, .int l1_47), (0, .ref 116)] [] i75 a79 q75 r75 (by rfl) ?_
                            exact ih75 _ _ _ _ _ hJ79 (oz1320 c78 p75_0.1 s80 kn1) (kCp_le (kCp_step (kCp_le O75_0 rfl (Nat.le_refl _)) (hL75.I.2.1 123) (oz3 p75_0.1) (oz269 c78 fi75_7439.2) (oz169 s80 kn1) ea79 (congrArg (fun z : List Int32 => z.getD l3_75.toNatClampNeg 0) ((hL75.fa 127 rfl).trans (hL72.fa 127 rfl)))) rfl (Nat.le_refl _)) (kj_meas (oz44 s80 kn1) (oz45 c78) hm75)
                      have fi72_7439 : ((0 : Int) ≤ (i72 7439).toInt) ∧ ((i72 7439).toInt ≤ 200) := hG74.I.1 7439
                      have efi72_7439 : (i72 7439).toInt = (ig55 7439).toInt := hL72.ti 7439 rfl
                      exact lp75 _ _ _ _ _ _ (kG_self _ hG74.I hG74.R) (oz1321 fi72_7439.1 kn0) (kCp_zero kn0) (Nat.lt_succ_self _)
                    ·
                      have c81 : l3_72.toInt < (i72 7432).toInt := kd_leF c; clear c
                      refine ft_go mi_k159 6 117 [(3, .int l3_72), (2, .int 1), (1, .int l1_47), (0, .ref 116)] [.int l3_72, .ref 124, .int l3_72, .ref 120] i72 a72 q72 r72 (by rfl) ?_
                      refine ko_iald3 mi_k159.1 (n := 61) (c := 61) (ax := (0, 0, 0, 0, 0)) (mi_k159.2 _ _ (by rfl)) (by rfl) (ksG124 _ _ _ _) (hL72.I.2.1 124) rfl (oz3 p72_0.1) (oz1322 c81 fi72_7432.2) ?_
                      refine ko_iast3 mi_k159.1 (n := 60) (c := 60) (ax := (0, 0, 0, 0, 0)) (mi_k159.2 _ _ (by rfl)) (by rfl) (ksG120 _ _ _ _) (ksA120 _ _ _ _) (hL72.I.2.1 120) rfl (oz3 p72_0.1) (oz266 c81 fi72_7432.2) ?_
                      intro a82 ea82 fa82
                      have hJ82 := kG_a3 hL72 120 rfl ea82 fa82 (kd_bd _)
                      refine ft_go mi_k159 6 129 [(3, .int l3_72), (2, .int 1), (1, .int l1_47), (0, .ref 116)] [.int l3_72, .ref 125, .int l3_72, .ref 121] i72 a82 q72 r72 (by rfl) ?_
                      refine ko_iald3 mi_k159.1 (n := 61) (c := 61) (ax := (0, 0, 0, 0, 0)) (mi_k159.2 _ _ (by rfl)) (by rfl) (ksG125 _ _ _ _) (hJ82.I.2.1 125) rfl (oz3 p72_0.1) (oz1322 c81 fi72_7432.2) ?_
                      refine ko_iast3 mi_k159.1 (n := 60) (c := 60) (ax := (0, 0, 0, 0, 0)) (mi_k159.2 _ _ (by rfl)) (by rfl) (ksG121 _ _ _ _) (ksA121 _ _ _ _) (hJ82.I.2.1 121) rfl (oz3 p72_0.1) (oz266 c81 fi72_7432.2) ?_
                      intro a83 ea83 fa83
                      have hJ83 := kG_a3 hJ82 121 rfl ea83 fa83 (kd_bd _)
                      refine ft_go mi_k159 6 141 [(3, .int l3_72), (2, .int 1), (1, .int l1_47), (0, .ref 116)] [.int l3_72, .ref 126, .int l3_72, .ref 122] i72 a83 q72 r72 (by rfl) ?_
                      refine ko_iald3 mi_k159.1 (n := 61) (c := 61) (ax := (0, 0, 0, 0, 0)) (mi_k159.2 _ _ (by rfl)) (by rfl) (ksG126 _ _ _ _) (hJ83.I.2.1 126) rfl (oz3 p72_0.1) (oz1322 c81 fi72_7432.2) ?_
                      refine ko_iast3 mi_k159.1 (n := 60) (c := 60) (ax := (0, 0, 0, 0, 0)) (mi_k159.2 _ _ (by rfl)) (by rfl) (ksG122 _ _ _ _) (ksA122 _ _ _ _) (hJ83.I.2.1 122) rfl (oz3 p72_0.1) (oz266 c81 fi72_7432.2) ?_
                      intro a84 ea84 fa84
                      have hJ84 := kG_a3 hJ83 122 rfl ea84 fa84 (kd_bd _)
                      have s85 : (l3_72 + 1).toInt = l3_72.toInt + (1 : Int32).toInt := kd_add (oz12 p72_0.1 kn1) (oz307 c81 fi72_7432.2 kn1)
                      refine ft_go mi_k159 2 99 [(3, .int (l3_72 + 1)), (2, .int 1), (1, .int l1_47), (0, .ref 116)] [] i72 a84 q72 r72 (by rfl) ?_
                      exact ih72 _ _ _ _ _ hJ84 (oz1320 c81 p72_0.1 s85 kn1) (kCp_le (kCp_step (kCp_le O72_0 rfl (Nat.le_refl _)) (hL72.I.2.1 120) (oz3 p72_0.1) (oz266 c81 fi72_7432.2) (oz169 s85 kn1) ea82 (congrArg (fun z : List Int32 => z.getD l3_72.toNatClampNeg 0) (hL72.fa 124 rfl))) ((fa84 120 (by decide)).trans (fa83 120 (by decide))) (Nat.le_refl _)) (kCp_le (kCp_step (kCp_le O72_1 (fa82 121 (by decide)) (Nat.le_refl _)) (hJ82.I.2.1 121) (oz3 p72_0.1) (oz266 c81 fi72_7432.2) (oz169 s85 kn1) ea83 (congrArg (fun z : List Int32 => z.getD l3_72.toNatClampNeg 0) ((fa82 125 (by decide)).trans (hL72.fa 125 rfl)))) (fa84 121 (by decide)) (Nat.le_refl _)) (kCp_le (kCp_step (kCp_le O72_2 ((fa83 122 (by decide)).trans (fa82 122 (by decide))) (Nat.le_refl _)) (hJ83.I.2.1 122) (oz3 p72_0.1) (oz266 c81 fi72_7432.2) (oz169 s85 kn1) ea84 (congrArg (fun z : List Int32 => z.getD l3_72.toNatClampNeg 0) (((fa83 126 (by decide)).trans (fa82 126 (by decide))).trans (hL72.fa 126 rfl)))) rfl (Nat.le_refl _)) (kj_meas (oz44 s85 kn1) (oz45 c81) hm72)
                exact lp72 _ _ _ _ _ _ (kG_self _ hJ70.I hJ70.R) (oz1321 fig55_7440.1 kn0) (kCp_zero kn0) (kCp_zero kn0) (kCp_zero kn0) (Nat.lt_succ_self _)
    have fig5_7439 : ((0 : Int) ≤ (ig5 7439).toInt) ∧ ((ig5 7439).toInt ≤ 200) := hGg5.I.1 7439
    have fig5_7440 : ((0 : Int) ≤ (ig5 7440).toInt) ∧ ((ig5 7440).toInt ≤ 61) := hGg5.I.1 7440
    exact lp47 _ _ _ _ _ _ (kG_self _ hGg5.I hGg5.R) (oz1312 kn0) (oz1313 kn0) (oz173 z46) (fun h => absurd (kn0.symm.trans h) (by decide)) (Nat.lt_succ_self _)
def w16_100 : kW := ([6400, 6403], [], [], [])
set_option maxRecDepth 100000 in
theorem kc16_100 {i : Nat → Int32} {a : Nat → List Int32} {q : Nat → List Int64} {r : Nat → Nat} (hI : kI i a q) (hr : kr r)  : km 1 16 [.ref 100] (ks i a q r) (kVN w16_100 i a q r (fun i1 a1 q1 r1 => True)) := by
  have hG := kG_self w16_100 hI hr
  refine km_ofN (q := (mi_h16, mi_c16)) rfl (by decide) (Nat.le_of_ble_eq_true rfl) ?_
  intro P hP
  have hJ1 := kG_i hG 6400 rfl (v := 0) ⟨(oz46 kn0), (oz1328 kn0)⟩
  have hJ2 := kG_i hJ1 6403 rfl (v := 0) ⟨(oz46 kn0), (oz1033 kn0)⟩
  refine ft_go mi_k16 6 10 [(0, .ref 100)] [] (ku (ku i 6400 0) 6403 0) a q r (by rfl) ?_
  exact ft_ret mi_k16 (by rfl) (hP  _ _ _ _ hJ2 trivial)
def w18_100 : kW := ([], [102], [], [])
set_option maxRecDepth 100000 in
theorem kc18_100 {i : Nat → Int32} {a : Nat → List Int32} {q : Nat → List Int64} {r : Nat → Nat} (hI : kI i a q) (hr : kr r) (x1 : Int32) : km 1 18 [.ref 100, .int x1] (ks i a q r) (kVN w18_100 i a q r (fun i1 a1 q1 r1 => True)) := by
  have hG := kG_self w18_100 hI hr
  refine km_ofN (q := (mi_h18, mi_c18)) rfl (by decide) (Nat.le_of_ble_eq_true rfl) ?_
  intro P hP
  refine ft_go mi_k18 1 1 [(0, .ref 100), (1, .int x1)] [.int x1] i a q r (by rfl) ?_
  refine ft_if mi_k18 (decide (x1 < 0)) 22 4 [(0, .ref 100), (1, .int x1)] [] (by rfl) (fun c => ?_) (fun c => ?_)
  ·
    have c1 : x1.toInt < (0 : Int32).toInt := kd_lt c; clear c
    exact ft_ret mi_k18 (by rfl) (hP  _ _ _ _ hG trivial)
  ·
    have c2 : (0 : Int32).toInt ≤ x1.toInt := kd_ltF c; clear c
    have fi_6403 : ((0 : Int) ≤ (i 6403).toInt) ∧ ((i 6403).toInt ≤ 121) := hG.I.1 6403
    refine ft_go mi_k18 3 9 [(0, .ref 100), (1, .int x1)] [.int (i 6403), .int x1] i a q r (by rfl) ?_
    refine ft_if mi_k18 (decide ((i 6403) ≤ x1)) 22 12 [(0, .ref 100), (1, .int x1)] [] (by rfl) (fun c => ?_) (fun c => ?_)
    ·
      have c3 : (i 6403).toInt ≤ x1.toInt := kd_le c; clear c
      exact ft_ret mi_k18 (by rfl) (hP  _ _ _ _ hG trivial)
    ·
      have c4 : x1.toInt < (i 6403).toInt := kd_leF c; clear c
      refine ft_go mi_k18 5 21 [(0, .ref 100), (1, .int x1)] [.int (i 6403), .int x1, .ref 102] i a q r (by rfl) ?_
      refine ko_iast3 mi_k18.1 (n := 121) (c := 121) (ax := (0, 0, 0, 0, 0)) (mi_k18.2 _ _ (by rfl)) (by rfl) (ksG102 _ _ _ _) (ksA102 _ _ _ _) (hG.I.2.1 102) rfl (oz389 c2 kn0) (oz1034 c4 fi_6403.2) ?_
      intro a5 ea5 fa5
      have hJ5 := kG_a3 hG 102 rfl ea5 fa5 (kd_bd _)
      exact ft_ret mi_k18 (by rfl) (hP  _ _ _ _ hJ5 trivial)
def w18_10 : kW := ([], [12], [], [])
set_option maxRecDepth 100000 in
theorem kc18_10 {i : Nat → Int32} {a : Nat → List Int32} {q : Nat → List Int64} {r : Nat → Nat} (hI : kI i a q) (hr : kr r) (x1 : Int32) : km 1 18 [.ref 10, .int x1] (ks i a q r) (kVN w18_10 i a q r (fun i1 a1 q1 r1 => True)) := by
  have hG := kG_self w18_10 hI hr
  refine km_ofN (q := (mi_h18, mi_c18)) rfl (by decide) (Nat.le_of_ble_eq_true rfl) ?_
  intro P hP
  refine ft_go mi_k18 1 1 [(0, .ref 10), (1, .int x1)] [.int x1] i a q r (by rfl) ?_
  refine ft_if mi_k18 (decide (x1 < 0)) 22 4 [(0, .ref 10), (1, .int x1)] [] (by rfl) (fun c => ?_) (fun c => ?_)
  ·
    have c1 : x1.toInt < (0 : Int32).toInt := kd_lt c; clear c
    exact ft_ret mi_k18 (by rfl) (hP  _ _ _ _ hG trivial)
  ·
    have c2 : (0 : Int32).toInt ≤ x1.toInt := kd_ltF c; clear c
    have fi_643 : ((0 : Int) ≤ (i 643).toInt) ∧ ((i 643).toInt ≤ 121) := hG.I.1 643
    refine ft_go mi_k18 3 9 [(0, .ref 10), (1, .int x1)] [.int (i 643), .int x1] i a q r (by rfl) ?_
    refine ft_if mi_k18 (decide ((i 643) ≤ x1)) 22 12 [(0, .ref 10), (1, .int x1)] [] (by rfl) (fun c => ?_) (fun c => ?_)
    ·
      have c3 : (i 643).toInt ≤ x1.toInt := kd_le c; clear c
      exact ft_ret mi_k18 (by rfl) (hP  _ _ _ _ hG trivial)
    ·
      have c4 : x1.toInt < (i 643).toInt := kd_leF c; clear c
      refine ft_go mi_k18 5 21 [(0, .ref 10), (1, .int x1)] [.int (i 643), .int x1, .ref 12] i a q r (by rfl) ?_
      refine ko_iast3 mi_k18.1 (n := 121) (c := 121) (ax := (0, 0, 0, 0, 0)) (mi_k18.2 _ _ (by rfl)) (by rfl) (ksG12 _ _ _ _) (ksA12 _ _ _ _) (hG.I.2.1 12) rfl (oz389 c2 kn0) (oz1034 c4 fi_643.2) ?_
      intro a5 ea5 fa5
      have hJ5 := kG_a3 hG 12 rfl ea5 fa5 (kd_bd _)
      exact ft_ret mi_k18 (by rfl) (hP  _ _ _ _ hJ5 trivial)
def w48_98 : kW := ([643, 6274, 6275, 6403], [11, 12, 101, 102], [], [])
set_option maxRecDepth 100000 in
theorem kc48_98 {i : Nat → Int32} {a : Nat → List Int32} {q : Nat → List Int64} {r : Nat → Nat} (hI : kI i a q) (hr : kr r)  : km 53 48 [.ref 98] (ks i a q r) (kVN w48_98 i a q r (fun i1 a1 q1 r1 => True)) := by
  have hG := kG_self w48_98 hI hr
  refine km_ofN (q := (mi_h48, mi_c48)) rfl (by decide) (Nat.le_of_ble_eq_true rfl) ?_
  intro P hP
  refine ft_go mi_k48 2 2 [(0, .ref 98)] [.int 0, .ref 98] i a q r (by rfl) ?_
  have nn0 := kn0
  have nn0 := kn0
  refine ko_callN mi_k48.1 (pc := 2) (ls := [(0, .ref 98)]) (st := [.int 0, .ref 98]) (h := ks i a q r) (i := (.invokevirtual 56, 3, 49, 0, 9, 0, 178)) (mi_k48.2 _ _ (by rfl)) (ft_invS mi_pq49 (by rfl)) (cy := mi_c49) mi_pq49 rfl ((kLallT (6)).1 _ _ _ _ hG.I hG.R 0 (by have := kn0; omega)) (by have := kn0; have := kn1; have := kn5; omega) ?_
  intro ig1 ag1 qg1 rg1 kg1 hg1
  have hGg1 := kG_call hG kg1 (by decide +kernel)
  refine ft_go mi_k48 2 8 [(0, .ref 98)] [.int 63, .ref 98] ig1 ag1 qg1 rg1 (by rfl) ?_
  refine ko_callI mi_k48.1 (pc := 8) (ls := [(0, .ref 98)]) (st := [.int 63, .ref 98]) (h := ks ig1 ag1 qg1 rg1) (i := (.invokevirtual 39, 3, 46, 0, 9, 0, 200)) (mi_k48.2 _ _ (by rfl)) (ft_invS mi_pq46 (by rfl)) (cy := mi_c46) mi_pq46 rfl (kc46_98 hGg1.I hGg1.R 63 (oz1286 kn63)) (by decide) ?_
  intro vg2 ig2 ag2 qg2 rg2 kg2 hg2
  have hGg2 := kG_call hGg1 kg2 (by decide +kernel)
  rcases hg2 with ⟨eg2, hg2⟩ | ⟨eg2, hg2⟩
  ·
    subst eg2
    refine ft_go mi_k48 3 18 [(0, .ref 98)] [.ref (rg2 2)] ig2 ag2 qg2 rg2 (by rfl) ?_
    rcases hGg2.R.1 with ⟨eRrg2_0, eRrg2_2⟩ | ⟨eRrg2_0, eRrg2_2⟩
    ·
      have eRrg2_0 : rg2 0 = 10 := eRrg2_0
      have eRrg2_2 : rg2 2 = 100 := eRrg2_2
      refine ko_eq (x1 := (18, [(0, .ref 98)], [.ref 100], (0, 0), ks ig2 ag2 qg2 rg2)) (by rw [eRrg2_2]) ?_
      refine ft_go mi_k48 2 20 [(0, .ref 98)] [.int 0, .int 3, .ref 100] ig2 ag2 qg2 rg2 (by rfl) ?_
      refine ko_callI mi_k48.1 (pc := 20) (ls := [(0, .ref 98)]) (st := [.int 0, .int 3, .ref 100]) (h := ks ig2 ag2 qg2 rg2) (i := (.invokevirtual 60, 3, 17, 0, 9, 0, 187)) (mi_k48.2 _ _ (by rfl)) (ft_invS mi_pq17 (by rfl)) (cy := mi_c17) mi_pq17 rfl (kc17_100 hGg2.I hGg2.R 3 0) (by decide) ?_
      intro vg3 ig3 ag3 qg3 rg3 kg3 hg3
      have hGg3 := kG_call hGg2 kg3 (by decide +kernel)
      have eRrg3_0 : rg3 0 = 10 := (kg3.fr 0 rfl).trans eRrg2_0
      have eRrg3_2 : rg3 2 = 100 := (kg3.fr 2 rfl).trans eRrg2_2
      refine ft_go mi_k48 3 26 [(1, .int vg3), (0, .ref 98)] [.int 0, .ref 98] ig3 ag3 qg3 rg3 (by rfl) ?_
      have nn0 := kn0
      have nn0 := kn0
      refine ko_callN mi_k48.1 (pc := 26) (ls := [(1, .int vg3), (0, .ref 98)]) (st := [.int 0, .ref 98]) (h := ks ig3 ag3 qg3 rg3) (i := (.invokevirtual 56, 3, 49, 0, 9, 0, 178)) (mi_k48.2 _ _ (by rfl)) (ft_invS mi_pq49 (by rfl)) (cy := mi_c49) mi_pq49 rfl ((kLallT (6)).1 _ _ _ _ hGg3.I hGg3.R 0 (by have := kn0; omega)) (by have := kn0; have := kn1; have := kn5; omega) ?_
      intro ig4 ag4 qg4 rg4 kg4 hg4
      have hGg4 := kG_call hGg3 kg4 (by decide +kernel)
      have eRrg4_0 : rg4 0 = 10 := (kg4.fr 0 rfl).trans eRrg3_0
      have eRrg4_2 : rg4 2 = 100 := (kg4.fr 2 rfl).trans eRrg3_2
      refine ft_go mi_k48 2 33 [(1, .int vg3), (0, .ref 98)] [.ref (rg4 2)] ig4 ag4 qg4 rg4 (by rfl) ?_
      refine ko_eq (x1 := (33, [(1, .int vg3), (0, .ref 98)], [.ref 100], (0, 0), ks ig4 ag4 qg4 rg4)) (by rw [eRrg4_2]) ?_
      refine ft_go mi_k48 2 35 [(1, .int vg3), (0, .ref 98)] [.int 0, .int 2, .ref 100] ig4 ag4 qg4 rg4 (by rfl) ?_
      refine ko_callI mi_k48.1 (pc := 35) (ls := [(1, .int vg3), (0, .ref 98)]) (st := [.int 0, .int 2, .ref 100]) (h := ks ig4 ag4 qg4 rg4) (i := (.invokevirtual 60, 3, 17, 0, 9, 0, 187)) (mi_k48.2 _ _ (by rfl)) (ft_invS mi_pq17 (by rfl)) (cy := mi_c17) mi_pq17 rfl (kc17_100 hGg4.I hGg4.R 2 0) (by decide) ?_
      intro vg5 ig5 ag5 qg5 rg5 kg5 hg5
      have hGg5 := kG_call hGg4 kg5 (by decide +kernel)
      have eRrg5_0 : rg5 0 = 10 := (kg5.fr 0 rfl).trans eRrg4_0
      have eRrg5_2 : rg5 2 = 100 := (kg5.fr 2 rfl).trans eRrg4_2
      refine ft_go mi_k48 3 43 [(1, .int vg3), (0, .ref 98)] [.ref (rg5 2)] ig5 ag5 qg5 rg5 (by rfl) ?_
      refine ko_eq (x1 := (43, [(1, .int vg3), (0, .ref 98)], [.ref 100], (0, 0), ks ig5 ag5 qg5 rg5)) (by rw [eRrg5_2]) ?_
      refine ft_go mi_k48 1 44 [(1, .int vg3), (0, .ref 98)] [.int vg3, .ref 100] ig5 ag5 qg5 rg5 (by rfl) ?_
      refine ko_callN mi_k48.1 (pc := 44) (ls := [(1, .int vg3), (0, .ref 98)]) (st := [.int vg3, .ref 100]) (h := ks ig5 ag5 qg5 rg5) (i := (.invokevirtual 64, 3, 18, 0, 9, 0, 204)) (mi_k48.2 _ _ (by rfl)) (ft_invS mi_pq18 (by rfl)) (cy := mi_c18) mi_pq18 rfl (kc18_100 hGg5.I hGg5.R vg3) (by decide) ?_
      intro ig6 ag6 qg6 rg6 kg6 hg6
      have hGg6 := kG_call hGg5 kg6 (by decide +kernel)
      have eRrg6_0 : rg6 0 = 10 := (kg6.fr 0 rfl).trans eRrg5_0
      have eRrg6_2 : rg6 2 = 100 := (kg6.fr 2 rfl).trans eRrg5_2
      refine ft_go mi_k48 1 60 [(1, .int vg3), (0, .ref 98)] [] ig6 ag6 qg6 rg6 (by rfl) ?_
      exact ft_ret mi_k48 (by rfl) (hP  _ _ _ _ hGg6 trivial)
    ·
      have eRrg2_0 : rg2 0 = 100 := eRrg2_0
      have eRrg2_2 : rg2 2 = 10 := eRrg2_2
      refine ko_eq (x1 := (18, [(0, .ref 98)], [.ref 10], (0, 0), ks ig2 ag2 qg2 rg2)) (by rw [eRrg2_2]) ?_
      refine ft_go mi_k48 2 20 [(0, .ref 98)] [.int 0, .int 3, .ref 10] ig2 ag2 qg2 rg2 (by rfl) ?_
      refine ko_callI mi_k48.1 (pc := 20) (ls := [(0, .ref 98)]) (st := [.int 0, .int 3, .ref 10]) (h := ks ig2 ag2 qg2 rg2) (i := (.invokevirtual 60, 3, 17, 0, 9, 0, 187)) (mi_k48.2 _ _ (by rfl)) (ft_invS mi_pq17 (by rfl)) (cy := mi_c17) mi_pq17 rfl (kc17_10 hGg2.I hGg2.R 3 0) (by decide) ?_
      intro vg7 ig7 ag7 qg7 rg7 kg7 hg7
      have hGg7 := kG_call hGg2 kg7 (by decide +kernel)
      have eRrg7_0 : rg7 0 = 100 := (kg7.fr 0 rfl).trans eRrg2_0
      have eRrg7_2 : rg7 2 = 10 := (kg7.fr 2 rfl).trans eRrg2_2
      refine ft_go mi_k48 3 26 [(1, .int vg7), (0, .ref 98)] [.int 0, .ref 98] ig7 ag7 qg7 rg7 (by rfl) ?_
      have nn0 := kn0
      have nn0 := kn0
      refine ko_callN mi_k48.1 (pc := 26) (ls := [(1, .int vg7), (0, .ref 98)]) (st := [.int 0, .ref 98]) (h := ks ig7 ag7 qg7 rg7) (i := (.invokevirtual 56, 3, 49, 0, 9, 0, 178)) (mi_k48.2 _ _ (by rfl)) (ft_invS mi_pq49 (by rfl)) (cy := mi_c49) mi_pq49 rfl ((kLallT (6)).1 _ _ _ _ hGg7.I hGg7.R 0 (by have := kn0; omega)) (by have := kn0; have := kn1; have := kn5; omega) ?_
      intro ig8 ag8 qg8 rg8 kg8 hg8
      have hGg8 := kG_call hGg7 kg8 (by decide +kernel)
      have eRrg8_0 : rg8 0 = 100 := (kg8.fr 0 rfl).trans eRrg7_0
      have eRrg8_2 : rg8 2 = 10 := (kg8.fr 2 rfl).trans eRrg7_2
      refine ft_go mi_k48 2 33 [(1, .int vg7), (0, .ref 98)] [.ref (rg8 2)] ig8 ag8 qg8 rg8 (by rfl) ?_
      refine ko_eq (x1 := (33, [(1, .int vg7), (0, .ref 98)], [.ref 10], (0, 0), ks ig8 ag8 qg8 rg8)) (by rw [eRrg8_2]) ?_
      refine ft_go mi_k48 2 35 [(1, .int vg7), (0, .ref 98)] [.int 0, .int 2, .ref 10] ig8 ag8 qg8 rg8 (by rfl) ?_
      refine ko_callI mi_k48.1 (pc := 35) (ls := [(1, .int vg7), (0, .ref 98)]) (st := [.int 0, .int 2, .ref 10]) (h := ks ig8 ag8 qg8 rg8) (i := (.invokevirtual 60, 3, 17, 0, 9, 0, 187)) (mi_k48.2 _ _ (by rfl)) (ft_invS mi_pq17 (by rfl)) (cy := mi_c17) mi_pq17 rfl (kc17_10 hGg8.I hGg8.R 2 0) (by decide) ?_
      intro vg9 ig9 ag9 qg9 rg9 kg9 hg9
      have hGg9 := kG_call hGg8 kg9 (by decide +kernel)
      have eRrg9_0 : rg9 0 = 100 := (kg9.fr 0 rfl).trans eRrg8_0
      have eRrg9_2 : rg9 2 = 10 := (kg9.fr 2 rfl).trans eRrg8_2
      refine ft_go mi_k48 3 43 [(1, .int vg7), (0, .ref 98)] [.ref (rg9 2)] ig9 ag9 qg9 rg9 (by rfl) ?_
      refine ko_eq (x1 := (43, [(1, .int vg7), (0, .ref 98)], [.ref 10], (0, 0), ks ig9 ag9 qg9 rg9)) (by rw [eRrg9_2]) ?_
      refine ft_go mi_k48 1 44 [(1, .int vg7), (0, .ref 98)] [.int vg7, .ref 10] ig9 ag9 qg9 rg9 (by rfl) ?_
      refine ko_callN mi_k48.1 (pc := 44) (ls := [(1, .int vg7), (0, .ref 98)]) (st := [.int vg7, .ref 10]) (h := ks ig9 ag9 qg9 rg9) (i := (.invokevirtual 64, 3, 18, 0, 9, 0, 204)) (mi_k48.2 _ _ (by rfl)) (ft_invS mi_pq18 (by rfl)) (cy := mi_c18) mi_pq18 rfl (kc18_10 hGg9.I hGg9.R vg7) (by decide) ?_
      intro ig10 ag10 qg10 rg10 kg10 hg10
      have hGg10 := kG_call hGg9 kg10 (by decide +kernel)
      have eRrg10_0 : rg10 0 = 100 := (kg10.fr 0 rfl).trans eRrg9_0
      have eRrg10_2 : rg10 2 = 10 := (kg10.fr 2 rfl).trans eRrg9_2
      refine ft_go mi_k48 1 60 [(1, .int vg7), (0, .ref 98)] [] ig10 ag10 qg10 rg10 (by rfl) ?_
      exact ft_ret mi_k48 (by rfl) (hP  _ _ _ _ hGg10 trivial)
  ·
    subst eg2
    refine ft_go mi_k48 3 54 [(0, .ref 98)] [.ref (rg2 2)] ig2 ag2 qg2 rg2 (by rfl) ?_
    rcases hGg2.R.1 with ⟨eRrg2_0, eRrg2_2⟩ | ⟨eRrg2_0, eRrg2_2⟩
    ·
      have eRrg2_0 : rg2 0 = 10 := eRrg2_0
      have eRrg2_2 : rg2 2 = 100 := eRrg2_2
      refine ko_eq (x1 := (54, [(0, .ref 98)], [.ref 100], (0, 0), ks ig2 ag2 qg2 rg2)) (by rw [eRrg2_2]) ?_
      refine ft_go mi_k48 2 56 [(0, .ref 98)] [.int 0, .int 2, .ref 100] ig2 ag2 qg2 rg2 (by rfl) ?_
      refine ko_callI mi_k48.1 (pc := 56) (ls := [(0, .ref 98)]) (st := [.int 0, .int 2, .ref 100]) (h := ks ig2 ag2 qg2 rg2) (i := (.invokevirtual 60, 3, 17, 0, 9, 0, 187)) (mi_k48.2 _ _ (by rfl)) (ft_invS mi_pq17 (by rfl)) (cy := mi_c17) mi_pq17 rfl (kc17_100 hGg2.I hGg2.R 2 0) (by decide) ?_
      intro vg11 ig11 ag11 qg11 rg11 kg11 hg11
      have hGg11 := kG_call hGg2 kg11 (by decide +kernel)
      have eRrg11_0 : rg11 0 = 10 := (kg11.fr 0 rfl).trans eRrg2_0
      have eRrg11_2 : rg11 2 = 100 := (kg11.fr 2 rfl).trans eRrg2_2
      refine ft_go mi_k48 1 60 [(0, .ref 98)] [] ig11 ag11 qg11 rg11 (by rfl) ?_
      exact ft_ret mi_k48 (by rfl) (hP  _ _ _ _ hGg11 trivial)
    ·
      have eRrg2_0 : rg2 0 = 100 := eRrg2_0
      have eRrg2_2 : rg2 2 = 10 := eRrg2_2
      refine ko_eq (x1 := (54, [(0, .ref 98)], [.ref 10], (0, 0), ks ig2 ag2 qg2 rg2)) (by rw [eRrg2_2]) ?_
      refine ft_go mi_k48 2 56 [(0, .ref 98)] [.int 0, .int 2, .ref 10] ig2 ag2 qg2 rg2 (by rfl) ?_
      refine ko_callI mi_k48.1 (pc := 56) (ls := [(0, .ref 98)]) (st := [.int 0, .int 2, .ref 10]) (h := ks ig2 ag2 qg2 rg2) (i := (.invokevirtual 60, 3, 17, 0, 9, 0, 187)) (mi_k48.2 _ _ (by rfl)) (ft_invS mi_pq17 (by rfl)) (cy := mi_c17) mi_pq17 rfl (kc17_10 hGg2.I hGg2.R 2 0) (by decide) ?_
      intro vg12 ig12 ag12 qg12 rg12 kg12 hg12
      have hGg12 := kG_call hGg2 kg12 (by decide +kernel)
      have eRrg12_0 : rg12 0 = 100 := (kg12.fr 0 rfl).trans eRrg2_0
      have eRrg12_2 : rg12 2 = 10 := (kg12.fr 2 rfl).trans eRrg2_2
      refine ft_go mi_k48 1 60 [(0, .ref 98)] [] ig12 ag12 qg12 rg12 (by rfl) ?_
      exact ft_ret mi_k48 (by rfl) (hP  _ _ _ _ hGg12 trivial)
def w16_10 : kW := ([640, 643], [], [], [])
set_option maxRecDepth 100000 in
theorem kc16_10 {i : Nat → Int32} {a : Nat → List Int32} {q : Nat → List Int64} {r : Nat → Nat} (hI : kI i a q) (hr : kr r)  : km 1 16 [.ref 10] (ks i a q r) (kVN w16_10 i a q r (fun i1 a1 q1 r1 => True)) := by
  have hG := kG_self w16_10 hI hr
  refine km_ofN (q := (mi_h16, mi_c16)) rfl (by decide) (Nat.le_of_ble_eq_true rfl) ?_
  intro P hP
  have hJ1 := kG_i hG 640 rfl (v := 0) ⟨(oz46 kn0), (oz1328 kn0)⟩
  have hJ2 := kG_i hJ1 643 rfl (v := 0) ⟨(oz46 kn0), (oz1033 kn0)⟩
  refine ft_go mi_k16 6 10 [(0, .ref 10)] [] (ku (ku i 640 0) 643 0) a q r (by rfl) ?_
  exact ft_ret mi_k16 (by rfl) (hP  _ _ _ _ hJ2 trivial)
def w44_98 : kW := ([640, 643, 6274, 6275, 6400, 6403], [11, 12, 101, 102], [], [])
def w44_98_L23 : kW := ([643, 6274, 6275, 6403], [11, 12, 101, 102], [], [])
set_option maxRecDepth 100000 in
theorem kc44_98 {i : Nat → Int32} {a : Nat → List Int32} {q : Nat → List Int64} {r : Nat → Nat} (hI : kI i a q) (hr : kr r)  : km 55 44 [.ref 98] (ks i a q r) (kVI w44_98 i a q r (fun v i1 a1 q1 r1 => (v.toInt = (-1)) ∨ ((0 : Int) ≤ v.toInt))) := by
  have hG := kG_self w44_98 hI hr
  refine km_ofI (q := (mi_h44, mi_c44)) rfl (by decide) (Nat.le_of_ble_eq_true rfl) ?_
  intro P hP
  have hJ1 := kG_i hG 6274 rfl (v := 0) ⟨(oz46 kn0), (oz1297 kn0)⟩
  have hJ2 := kG_i hJ1 6275 rfl (v := 0) ⟨(oz46 kn0), (oz1328 kn0)⟩
  refine ft_go mi_k44 8 14 [(0, .ref 98)] [.ref (r 2)] (ku (ku i 6274 0) 6275 0) a q r (by rfl) ?_
  rcases hJ2.R.1 with ⟨eRr_0, eRr_2⟩ | ⟨eRr_0, eRr_2⟩
  ·
    have eRr_0 : r 0 = 10 := eRr_0
    have eRr_2 : r 2 = 100 := eRr_2
    refine ko_eq (x1 := (14, [(0, .ref 98)], [.ref 100], (0, 0), ks (ku (ku i 6274 0) 6275 0) a q r)) (by rw [eRr_2]) ?_
    refine ko_callN mi_k44.1 (pc := 14) (ls := [(0, .ref 98)]) (st := [.ref 100]) (h := ks (ku (ku i 6274 0) 6275 0) a q r) (i := (.invokevirtual 33, 3, 16, 0, 9, 0, 176)) (mi_k44.2 _ _ (by rfl)) (ft_invS mi_pq16 (by rfl)) (cy := mi_c16) mi_pq16 rfl (kc16_100 hJ2.I hJ2.R ) (by decide) ?_
    intro ig3 ag3 qg3 rg3 kg3 hg3
    have hGg3 := kG_call hJ2 kg3 (by decide +kernel)
    have eRrg3_0 : rg3 0 = 10 := (kg3.fr 0 rfl).trans eRr_0
    have eRrg3_2 : rg3 2 = 100 := (kg3.fr 2 rfl).trans eRr_2
    refine ft_go mi_k44 1 18 [(0, .ref 98)] [.ref 98] ig3 ag3 qg3 rg3 (by rfl) ?_
    refine ko_callN mi_k44.1 (pc := 18) (ls := [(0, .ref 98)]) (st := [.ref 98]) (h := ks ig3 ag3 qg3 rg3) (i := (.invokevirtual 36, 3, 48, 0, 9, 0, 177)) (mi_k44.2 _ _ (by rfl)) (ft_invS mi_pq48 (by rfl)) (cy := mi_c48) mi_pq48 rfl (kc48_98 hGg3.I hGg3.R ) (by decide) ?_
    intro ig4 ag4 qg4 rg4 kg4 hg4
    have hGg4 := kG_call hGg3 kg4 (by decide +kernel)
    have eRrg4_0 : rg4 0 = 10 := (kg4.fr 0 rfl).trans eRrg3_0
    have eRrg4_2 : rg4 2 = 100 := (kg4.fr 2 rfl).trans eRrg3_2
    refine ft_go mi_k44 2 23 [(1, .int 0), (0, .ref 98)] [] ig4 ag4 qg4 rg4 (by rfl) ?_
    have lp5 : ∀ (nz : Nat) (i5 : Nat → Int32) (a5 : Nat → List Int32) (q5 : Nat → List Int64) (r5 : Nat → Nat) (l1_5 : Int32), kG w44_98_L23 ig4 ag4 qg4 rg4 i5 a5 q5 r5 → (0 : Int) ≤ l1_5.toInt → (((i5 6273).toInt - l1_5.toInt)).toNat < nz → ko 55 (mi_h44, mi_c44) P (23, [(1, .int l1_5), (0, .ref 98)], [], (0, 0), ks i5 a5 q5 r5) := by
      intro nz
      induction nz with
      | zero =>
        intro _ _ _ _ _ _ _ hm
        exact absurd hm (Nat.not_lt_zero _)
      | succ nz ih5 =>
        intro i5 a5 q5 r5 l1_5 hL5 p5_0 hm5
        have fi5_6273 : ((0 : Int) ≤ (i5 6273).toInt) ∧ ((i5 6273).toInt ≤ 120) := hL5.I.1 6273
        have fig4_6273 : ((0 : Int) ≤ (ig4 6273).toInt) ∧ ((ig4 6273).toInt ≤ 120) := hGg4.I.1 6273
        have fig3_6273 : ((0 : Int) ≤ (ig3 6273).toInt) ∧ ((ig3 6273).toInt ≤ 120) := hGg3.I.1 6273
        have fi_6273 : ((0 : Int) ≤ (i 6273).toInt) ∧ ((i 6273).toInt ≤ 120) := hJ2.I.1 6273
        have efig3_6273 : (ig3 6273).toInt = (i 6273).toInt := kg3.ti 6273 rfl
        have efig4_6273 : (ig4 6273).toInt = (ig3 6273).toInt := kg4.ti 6273 rfl
        have efi5_6273 : (i5 6273).toInt = (ig4 6273).toInt := hL5.ti 6273 rfl
        refine ft_go mi_k44 3 28 [(1, .int l1_5), (0, .ref 98)] [.int (i5 6273), .int l1_5] i5 a5 q5 r5 (by rfl) ?_
        refine ft_if mi_k44 (decide ((i5 6273) ≤ l1_5)) 50 31 [(1, .int l1_5), (0, .ref 98)] [] (by rfl) (fun c => ?_) (fun c => ?_)
        ·
          have c6 : (i5 6273).toInt ≤ l1_5.toInt := kd_le c; clear c
          have hG7 := kG_call hGg4 hL5 (by decide +kernel)
          have fi5_6275 : ((0 : Int) ≤ (i5 6275).toInt) ∧ ((i5 6275).toInt ≤ 1) := hG7.I.1 6275
          refine ft_go mi_k44 2 54 [(1, .int l1_5), (0, .ref 98)] [.int (i5 6275)] i5 a5 q5 r5 (by rfl) ?_
          refine ft_if mi_k44 ((i5 6275) != 0) 68 57 [(1, .int l1_5), (0, .ref 98)] [] (by rfl) (fun c => ?_) (fun c => ?_)
          ·
            have c8 : (i5 6275).toInt ≠ (0 : Int32).toInt := kd_ne c; clear c
            have fi5_6274 : ((0 : Int) ≤ (i5 6274).toInt) ∧ ((i5 6274).toInt ≤ 120) := hG7.I.1 6274
            refine ft_go mi_k44 2 72 [(1, .int l1_5), (0, .ref 98)] [.int (i5 6274)] i5 a5 q5 r5 (by rfl) ?_
            exact ft_ret mi_k44 (by rfl) (hP (i5 6274) _ _ _ _ hG7 (oz1329 fi5_6274.1))
          ·
            have c9 : (i5 6275).toInt = (0 : Int32).toInt := kd_neF c; clear c
            have fi5_6274 : ((0 : Int) ≤ (i5 6274).toInt) ∧ ((i5 6274).toInt ≤ 120) := hG7.I.1 6274
            refine ft_go mi_k44 4 65 [(1, .int l1_5), (0, .ref 98)] [.int (i5 6273), .int (i5 6274)] i5 a5 q5 r5 (by rfl) ?_
            refine ft_if mi_k44 (decide ((i5 6273) ≤ (i5 6274))) 73 68 [(1, .int l1_5), (0, .ref 98)] [] (by rfl) (fun c => ?_) (fun c => ?_)
            ·
              have c10 : (i5 6273).toInt ≤ (i5 6274).toInt := kd_le c; clear c
              refine ft_go mi_k44 2 77 [(1, .int l1_5), (0, .ref 98)] [.ref (r5 2)] i5 a5 q5 r5 (by rfl) ?_
              rcases hG7.R.1 with ⟨eRr5_0, eRr5_2⟩ | ⟨eRr5_0, eRr5_2⟩
              ·
                have eRr5_0 : r5 0 = 10 := eRr5_0
                have eRr5_2 : r5 2 = 100 := eRr5_2
                refine ko_eq (x1 := (77, [(1, .int l1_5), (0, .ref 98)], [.ref 100], (0, 0), ks i5 a5 q5 r5)) (by rw [eRr5_2]) ?_
                have hJ11 := kG_i hG7 6400 rfl (v := 1) ⟨(oz246 kn1), (oz558 kn1)⟩
                refine ft_go mi_k44 3 82 [(1, .int l1_5), (0, .ref 98)] [.int (-1)] (ku i5 6400 1) a5 q5 r5 (by rfl) ?_
                exact ft_ret mi_k44 (by rfl) (hP (-1) _ _ _ _ hJ11 (oz1330 knm1))
              ·
                have eRr5_0 : r5 0 = 100 := eRr5_0
                have eRr5_2 : r5 2 = 10 := eRr5_2
                refine ko_eq (x1 := (77, [(1, .int l1_5), (0, .ref 98)], [.ref 10], (0, 0), ks i5 a5 q5 r5)) (by rw [eRr5_2]) ?_
                have hJ12 := kG_i hG7 640 rfl (v := 1) ⟨(oz246 kn1), (oz558 kn1)⟩
                refine ft_go mi_k44 3 82 [(1, .int l1_5), (0, .ref 98)] [.int (-1)] (ku i5 640 1) a5 q5 r5 (by rfl) ?_
                exact ft_ret mi_k44 (by rfl) (hP (-1) _ _ _ _ hJ12 (oz1330 knm1))
            ·
              have c13 : (i5 6274).toInt < (i5 6273).toInt := kd_leF c; clear c
              refine ft_go mi_k44 2 72 [(1, .int l1_5), (0, .ref 98)] [.int (i5 6274)] i5 a5 q5 r5 (by rfl) ?_
              exact ft_ret mi_k44 (by rfl) (hP (i5 6274) _ _ _ _ hG7 (oz1329 fi5_6274.1))
        ·
          have c14 : l1_5.toInt < (i5 6273).toInt := kd_leF c; clear c
          refine ft_go mi_k44 2 34 [(1, .int l1_5), (0, .ref 98)] [.int 59, .ref 98] i5 a5 q5 r5 (by rfl) ?_
          refine ko_callI mi_k44.1 (pc := 34) (ls := [(1, .int l1_5), (0, .ref 98)]) (st := [.int 59, .ref 98]) (h := ks i5 a5 q5 r5) (i := (.invokevirtual 39, 3, 46, 0, 9, 0, 200)) (mi_k44.2 _ _ (by rfl)) (ft_invS mi_pq46 (by rfl)) (cy := mi_c46) mi_pq46 rfl (kc46_98 hL5.I hL5.R 59 (oz1304 kn59)) (by decide) ?_
          intro vg15 ig15 ag15 qg15 rg15 kg15 hg15
          have hGg15 := kG_call hL5 kg15 (by decide +kernel)
          rcases hg15 with ⟨eg15, hg15⟩ | ⟨eg15, hg15⟩
          ·
            subst eg15
            refine ft_go mi_k44 2 41 [(1, .int l1_5), (0, .ref 98)] [.ref 98] ig15 ag15 qg15 rg15 (by rfl) ?_
            refine ko_callN mi_k44.1 (pc := 41) (ls := [(1, .int l1_5), (0, .ref 98)]) (st := [.ref 98]) (h := ks ig15 ag15 qg15 rg15) (i := (.invokevirtual 36, 3, 48, 0, 9, 0, 177)) (mi_k44.2 _ _ (by rfl)) (ft_invS mi_pq48 (by rfl)) (cy := mi_c48) mi_pq48 rfl (kc48_98 hGg15.I hGg15.R ) (by decide) ?_
            intro ig16 ag16 qg16 rg16 kg16 hg16
            have hGg16 := kG_call hGg15 kg16 (by decide +kernel)
            have s17 : (l1_5 + 1).toInt = l1_5.toInt + (1 : Int32).toInt := kd_add (oz12 p5_0 kn1) (oz929 c14 fi5_6273.2 kn1)
            refine ft_go mi_k44 2 23 [(1, .int (l1_5 + 1)), (0, .ref 98)] [] ig16 ag16 qg16 rg16 (by rfl) ?_
            have fig16_6273 : ((0 : Int) ≤ (ig16 6273).toInt) ∧ ((ig16 6273).toInt ≤ 120) := hGg16.I.1 6273
            have fig15_6273 : ((0 : Int) ≤ (ig15 6273).toInt) ∧ ((ig15 6273).toInt ≤ 120) := hGg15.I.1 6273
            have efig15_6273 : (ig15 6273).toInt = (i5 6273).toInt := kg15.ti 6273 rfl
            have efig16_6273 : (ig16 6273).toInt = (ig15 6273).toInt := kg16.ti 6273 rfl
            exact ih5 _ _ _ _ _ hGg16 (oz14 p5_0 s17 kn1) (kj_meas (oz1175 efig15_6273 efig16_6273 s17 kn1) (oz45 c14) hm5)
          ·
            subst eg15
            refine ft_go mi_k44 1 50 [(1, .int l1_5), (0, .ref 98)] [] ig15 ag15 qg15 rg15 (by rfl) ?_
            have hG18 := kG_call hGg4 hGg15 (by decide +kernel)
            have fig15_6275 : ((0 : Int) ≤ (ig15 6275).toInt) ∧ ((ig15 6275).toInt ≤ 1) := hG18.I.1 6275
            have fi5_6275 : ((0 : Int) ≤ (i5 6275).toInt) ∧ ((i5 6275).toInt ≤ 1) := hL5.I.1 6275
            have efig15_6275 : (ig15 6275).toInt = (i5 6275).toInt := kg15.ti 6275 rfl
            refine ft_go mi_k44 2 54 [(1, .int l1_5), (0, .ref 98)] [.int (ig15 6275)] ig15 ag15 qg15 rg15 (by rfl) ?_
            refine ft_if mi_k44 ((ig15 6275) != 0) 68 57 [(1, .int l1_5), (0, .ref 98)] [] (by rfl) (fun c => ?_) (fun c => ?_)
            ·
              have c19 : (ig15 6275).toInt ≠ (0 : Int32).toInt := kd_ne c; clear c
              have fig15_6274 : ((0 : Int) ≤ (ig15 6274).toInt) ∧ ((ig15 6274).toInt ≤ 120) := hG18.I.1 6274
              refine ft_go mi_k44 2 72 [(1, .int l1_5), (0, .ref 98)] [.int (ig15 6274)] ig15 ag15 qg15 rg15 (by rfl) ?_
              exact ft_ret mi_k44 (by rfl) (hP (ig15 6274) _ _ _ _ hG18 (oz1329 fig15_6274.1))
            ·
              have c20 : (ig15 6275).toInt = (0 : Int32).toInt := kd_neF c; clear c
              have fig15_6274 : ((0 : Int) ≤ (ig15 6274).toInt) ∧ ((ig15 6274).toInt ≤ 120) := hG18.I.1 6274
              have fig15_6273 : ((0 : Int) ≤ (ig15 6273).toInt) ∧ ((ig15 6273).toInt ≤ 120) := hG18.I.1 6273
              have efig15_6273 : (ig15 6273).toInt = (i5 6273).toInt := kg15.ti 6273 rfl
              refine ft_go mi_k44 4 65 [(1, .int l1_5), (0, .ref 98)] [.int (ig15 6273), .int (ig15 6274)] ig15 ag15 qg15 rg15 (by rfl) ?_
              refine ft_if mi_k44 (decide ((ig15 6273) ≤ (ig15 6274))) 73 68 [(1, .int l1_5), (0, .ref 98)] [] (by rfl) (fun c => ?_) (fun c => ?_)
              ·
                have c21 : (ig15 6273).toInt ≤ (ig15 6274).toInt := kd_le c; clear c
                refine ft_go mi_k44 2 77 [(1, .int l1_5), (0, .ref 98)] [.ref (rg15 2)] ig15 ag15 qg15 rg15 (by rfl) ?_
                rcases hG18.R.1 with ⟨eRrg15_0, eRrg15_2⟩ | ⟨eRrg15_0, eRrg15_2⟩
                ·
                  have eRrg15_0 : rg15 0 = 10 := eRrg15_0
                  have eRrg15_2 : rg15 2 = 100 := eRrg15_2
                  refine ko_eq (x1 := (77, [(1, .int l1_5), (0, .ref 98)], [.ref 100], (0, 0), ks ig15 ag15 qg15 rg15)) (by rw [eRrg15_2]) ?_
                  have hJ22 := kG_i hG18 6400 rfl (v := 1) ⟨(oz246 kn1), (oz558 kn1)⟩
                  refine ft_go mi_k44 3 82 [(1, .int l1_5), (0, .ref 98)] [.int (-1)] (ku ig15 6400 1) ag15 qg15 rg15 (by rfl) ?_
                  exact ft_ret mi_k44 (by rfl) (hP (-1) _ _ _ _ hJ22 (oz1330 knm1))
                ·
                  have eRrg15_0 : rg15 0 = 100 := eRrg15_0
                  have eRrg15_2 : rg15 2 = 10 := eRrg15_2
                  refine ko_eq (x1 := (77, [(1, .int l1_5), (0, .ref 98)], [.ref 10], (0, 0), ks ig15 ag15 qg15 rg15)) (by rw [eRrg15_2]) ?_
                  have hJ23 := kG_i hG18 640 rfl (v := 1) ⟨(oz246 kn1), (oz558 kn1)⟩
                  refine ft_go mi_k44 3 82 [(1, .int l1_5), (0, .ref 98)] [.int (-1)] (ku ig15 640 1) ag15 qg15 rg15 (by rfl) ?_
                  exact ft_ret mi_k44 (by rfl) (hP (-1) _ _ _ _ hJ23 (oz1330 knm1))
              ·
                have c24 : (ig15 6274).toInt < (ig15 6273).toInt := kd_leF c; clear c
                refine ft_go mi_k44 2 72 [(1, .int l1_5), (0, .ref 98)] [.int (ig15 6274)] ig15 ag15 qg15 rg15 (by rfl) ?_
                exact ft_ret mi_k44 (by rfl) (hP (ig15 6274) _ _ _ _ hG18 (oz1329 fig15_6274.1))
    exact lp5 _ _ _ _ _ _ (kG_self _ hGg4.I hGg4.R) (oz46 kn0) (Nat.lt_succ_self _)
  ·
    have eRr_0 : r 0 = 100 := eRr_0
    have eRr_2 : r 2 = 10 := eRr_2
    refine ko_eq (x1 := (14, [(0, .ref 98)], [.ref 10], (0, 0), ks (ku (ku i 6274 0) 6275 0) a q r)) (by rw [eRr_2]) ?_
    refine ko_callN mi_k44.1 (pc := 14) (ls := [(0, .ref 98)]) (st := [.ref 10]) (h := ks (ku (ku i 6274 0) 6275 0) a q r) (i := (.invokevirtual 33, 3, 16, 0, 9, 0, 176)) (mi_k44.2 _ _ (by rfl)) (ft_invS mi_pq16 (by rfl)) (cy := mi_c16) mi_pq16 rfl (kc16_10 hJ2.I hJ2.R ) (by decide) ?_
    intro ig25 ag25 qg25 rg25 kg25 hg25
    have hGg25 := kG_call hJ2 kg25 (by decide +kernel)
    have eRrg25_0 : rg25 0 = 100 := (kg25.fr 0 rfl).trans eRr_0
    have eRrg25_2 : rg25 2 = 10 := (kg25.fr 2 rfl).trans eRr_2
    refine ft_go mi_k44 1 18 [(0, .ref 98)] [.ref 98] ig25 ag25 qg25 rg25 (by rfl) ?_
    refine ko_callN mi_k44.1 (pc := 18) (ls := [(0, .ref 98)]) (st := [.ref 98]) (h := ks ig25 ag25 qg25 rg25) (i := (.invokevirtual 36, 3, 48, 0, 9, 0, 177)) (mi_k44.2 _ _ (by rfl)) (ft_invS mi_pq48 (by rfl)) (cy := mi_c48) mi_pq48 rfl (kc48_98 hGg25.I hGg25.R ) (by decide) ?_
    intro ig26 ag26 qg26 rg26 kg26 hg26
    have hGg26 := kG_call hGg25 kg26 (by decide +kernel)
    have eRrg26_0 : rg26 0 = 100 := (kg26.fr 0 rfl).trans eRrg25_0
    have eRrg26_2 : rg26 2 = 10 := (kg26.fr 2 rfl).trans eRrg25_2
    refine ft_go mi_k44 2 23 [(1, .int 0), (0, .ref 98)] [] ig26 ag26 qg26 rg26 (by rfl) ?_
    have lp27 : ∀ (nz : Nat) (i27 : Nat → Int32) (a27 : Nat → List Int32) (q27 : Nat → List Int64) (r27 : Nat → Nat) (l1_27 : Int32), kG w44_98_L23 ig26 ag26 qg26 rg26 i27 a27 q27 r27 → (0 : Int) ≤ l1_27.toInt → (((i27 6273).toInt - l1_27.toInt)).toNat < nz → ko 55 (mi_h44, mi_c44) P (23, [(1, .int l1_27), (0, .ref 98)], [], (0, 0), ks i27 a27 q27 r27) := by
      intro nz
      induction nz with
      | zero =>
        intro _ _ _ _ _ _ _ hm
        exact absurd hm (Nat.not_lt_zero _)
      | succ nz ih27 =>
        intro i27 a27 q27 r27 l1_27 hL27 p27_0 hm27
        have fi27_6273 : ((0 : Int) ≤ (i27 6273).toInt) ∧ ((i27 6273).toInt ≤ 120) := hL27.I.1 6273
        have fig26_6273 : ((0 : Int) ≤ (ig26 6273).toInt) ∧ ((ig26 6273).toInt ≤ 120) := hGg26.I.1 6273
        have fig25_6273 : ((0 : Int) ≤ (ig25 6273).toInt) ∧ ((ig25 6273).toInt ≤ 120) := hGg25.I.1 6273
        have fi_6273 : ((0 : Int) ≤ (i 6273).toInt) ∧ ((i 6273).toInt ≤ 120) := hJ2.I.1 6273
        have efig25_6273 : (ig25 6273).toInt = (i 6273).toInt := kg25.ti 6273 rfl
        have efig26_6273 : (ig26 6273).toInt = (ig25 6273).toInt := kg26.ti 6273 rfl
        have efi27_6273 : (i27 6273).toInt = (ig26 6273).toInt := hL27.ti 6273 rfl
        refine ft_go mi_k44 3 28 [(1, .int l1_27), (0, .ref 98)] [.int (i27 6273), .int l1_27] i27 a27 q27 r27 (by rfl) ?_
        refine ft_if mi_k44 (decide ((i27 6273) ≤ l1_27)) 50 31 [(1, .int l1_27), (0, .ref 98)] [] (by rfl) (fun c => ?_) (fun c => ?_)
        ·
          have c28 : (i27 6273).toInt ≤ l1_27.toInt := kd_le c; clear c
          have hG29 := kG_call hGg26 hL27 (by decide +kernel)
          have fi27_6275 : ((0 : Int) ≤ (i27 6275).toInt) ∧ ((i27 6275).toInt ≤ 1) := hG29.I.1 6275
          refine ft_go mi_k44 2 54 [(1, .int l1_27), (0, .ref 98)] [.int (i27 6275)] i27 a27 q27 r27 (by rfl) ?_
          refine ft_if mi_k44 ((i27 6275) != 0) 68 57 [(1, .int l1_27), (0, .ref 98)] [] (by rfl) (fun c => ?_) (fun c => ?_)
          ·
            have c30 : (i27 6275).toInt ≠ (0 : Int32).toInt := kd_ne c; clear c
            have fi27_6274 : ((0 : Int) ≤ (i27 6274).toInt) ∧ ((i27 6274).toInt ≤ 120) := hG29.I.1 6274
            refine ft_go mi_k44 2 72 [(1, .int l1_27), (0, .ref 98)] [.int (i27 6274)] i27 a27 q27 r27 (by rfl) ?_
            exact ft_ret mi_k44 (by rfl) (hP (i27 6274) _ _ _ _ hG29 (oz1329 fi27_6274.1))
          ·
            have c31 : (i27 6275).toInt = (0 : Int32).toInt := kd_neF c; clear c
            have fi27_6274 : ((0 : Int) ≤ (i27 6274).toInt) ∧ ((i27 6274).toInt ≤ 120) := hG29.I.1 6274
            refine ft_go mi_k44 4 65 [(1, .int l1_27), (0, .ref 98)] [.int (i27 6273), .int (i27 6274)] i27 a27 q27 r27 (by rfl) ?_
            refine ft_if mi_k44 (decide ((i27 6273) ≤ (i27 6274))) 73 68 [(1, .int l1_27), (0, .ref 98)] [] (by rfl) (fun c => ?_) (fun c => ?_)
            ·
              have c32 : (i27 6273).toInt ≤ (i27 6274).toInt := kd_le c; clear c
              refine ft_go mi_k44 2 77 [(1, .int l1_27), (0, .ref 98)] [.ref (r27 2)] i27 a27 q27 r27 (by rfl) ?_
              rcases hG29.R.1 with ⟨eRr27_0, eRr27_2⟩ | ⟨eRr27_0, eRr27_2⟩
              ·
                have eRr27_0 : r27 0 = 10 := eRr27_0
                have eRr27_2 : r27 2 = 100 := eRr27_2
                refine ko_eq (x1 := (77, [(1, .int l1_27), (0, .ref 98)], [.ref 100], (0, 0), ks i27 a27 q27 r27)) (by rw [eRr27_2]) ?_
                have hJ33 := kG_i hG29 6400 rfl (v := 1) ⟨(oz246 kn1), (oz558 kn1)⟩
                refine ft_go mi_k44 3 82 [(1, .int l1_27), (0, .ref 98)] [.int (-1)] (ku i27 6400 1) a27 q27 r27 (by rfl) ?_
                exact ft_ret mi_k44 (by rfl) (hP (-1) _ _ _ _ hJ33 (oz1330 knm1))
              ·
                have eRr27_0 : r27 0 = 100 := eRr27_0
                have eRr27_2 : r27 2 = 10 := eRr27_2
                refine ko_eq (x1 := (77, [(1, .int l1_27), (0, .ref 98)], [.ref 10], (0, 0), ks i27 a27 q27 r27)) (by rw [eRr27_2]) ?_
                have hJ34 := kG_i hG29 640 rfl (v := 1) ⟨(oz246 kn1), (oz558 kn1)⟩
                refine ft_go mi_k44 3 82 [(1, .int l1_27), (0, .ref 98)] [.int (-1)] (ku i27 640 1) a27 q27 r27 (by rfl) ?_
                exact ft_ret mi_k44 (by rfl) (hP (-1) _ _ _ _ hJ34 (oz1330 knm1))
            ·
              have c35 : (i27 6274).toInt < (i27 6273).toInt := kd_leF c; clear c
              refine ft_go mi_k44 2 72 [(1, .int l1_27), (0, .ref 98)] [.int (i27 6274)] i27 a27 q27 r27 (by rfl) ?_
              exact ft_ret mi_k44 (by rfl) (hP (i27 6274) _ _ _ _ hG29 (oz1329 fi27_6274.1))
        ·
          have c36 : l1_27.toInt < (i27 6273).toInt := kd_leF c; clear c
          refine ft_go mi_k44 2 34 [(1, .int l1_27), (0, .ref 98)] [.int 59, .ref 98] i27 a27 q27 r27 (by rfl) ?_
          refine ko_callI mi_k44.1 (pc := 34) (ls := [(1, .int l1_27), (0, .ref 98)]) (st := [.int 59, .ref 98]) (h := ks i27 a27 q27 r27) (i := (.invokevirtual 39, 3, 46, 0, 9, 0, 200)) (mi_k44.2 _ _ (by rfl)) (ft_invS mi_pq46 (by rfl)) (cy := mi_c46) mi_pq46 rfl (kc46_98 hL27.I hL27.R 59 (oz1304 kn59)) (by decide) ?_
          intro vg37 ig37 ag37 qg37 rg37 kg37 hg37
          have hGg37 := kG_call hL27 kg37 (by decide +kernel)
          rcases hg37 with ⟨eg37, hg37⟩ | ⟨eg37, hg37⟩
          ·
            subst eg37
            refine ft_go mi_k44 2 41 [(1, .int l1_27), (0, .ref 98)] [.ref 98] ig37 ag37 qg37 rg37 (by rfl) ?_
            refine ko_callN mi_k44.1 (pc := 41) (ls := [(1, .int l1_27), (0, .ref 98)]) (st := [.ref 98]) (h := ks ig37 ag37 qg37 rg37) (i := (.invokevirtual 36, 3, 48, 0, 9, 0, 177)) (mi_k44.2 _ _ (by rfl)) (ft_invS mi_pq48 (by rfl)) (cy := mi_c48) mi_pq48 rfl (kc48_98 hGg37.I hGg37.R ) (by decide) ?_
            intro ig38 ag38 qg38 rg38 kg38 hg38
            have hGg38 := kG_call hGg37 kg38 (by decide +kernel)
            have s39 : (l1_27 + 1).toInt = l1_27.toInt + (1 : Int32).toInt := kd_add (oz12 p27_0 kn1) (oz929 c36 fi27_6273.2 kn1)
            refine ft_go mi_k44 2 23 [(1, .int (l1_27 + 1)), (0, .ref 98)] [] ig38 ag38 qg38 rg38 (by rfl) ?_
            have fig38_6273 : ((0 : Int) ≤ (ig38 6273).toInt) ∧ ((ig38 6273).toInt ≤ 120) := hGg38.I.1 6273
            have fig37_6273 : ((0 : Int) ≤ (ig37 6273).toInt) ∧ ((ig37 6273).toInt ≤ 120) := hGg37.I.1 6273
            have efig37_6273 : (ig37 6273).toInt = (i27 6273).toInt := kg37.ti 6273 rfl
            have efig38_6273 : (ig38 6273).toInt = (ig37 6273).toInt := kg38.ti 6273 rfl
            exact ih27 _ _ _ _ _ hGg38 (oz14 p27_0 s39 kn1) (kj_meas (oz1175 efig37_6273 efig38_6273 s39 kn1) (oz45 c36) hm27)
          ·
            subst eg37
            refine ft_go mi_k44 1 50 [(1, .int l1_27), (0, .ref 98)] [] ig37 ag37 qg37 rg37 (by rfl) ?_
            have hG40 := kG_call hGg26 hGg37 (by decide +kernel)
            have fig37_6275 : ((0 : Int) ≤ (ig37 6275).toInt) ∧ ((ig37 6275).toInt ≤ 1) := hG40.I.1 6275
            have fi27_6275 : ((0 : Int) ≤ (i27 6275).toInt) ∧ ((i27 6275).toInt ≤ 1) := hL27.I.1 6275
            have efig37_6275 : (ig37 6275).toInt = (i27 6275).toInt := kg37.ti 6275 rfl
            refine ft_go mi_k44 2 54 [(1, .int l1_27), (0, .ref 98)] [.int (ig37 6275)] ig37 ag37 qg37 rg37 (by rfl) ?_
            refine ft_if mi_k44 ((ig37 6275) != 0) 68 57 [(1, .int l1_27), (0, .ref 98)] [] (by rfl) (fun c => ?_) (fun c => ?_)
            ·
              have c41 : (ig37 6275).toInt ≠ (0 : Int32).toInt := kd_ne c; clear c
              have fig37_6274 : ((0 : Int) ≤ (ig37 6274).toInt) ∧ ((ig37 6274).toInt ≤ 120) := hG40.I.1 6274
              refine ft_go mi_k44 2 72 [(1, .int l1_27), (0, .ref 98)] [.int (ig37 6274)] ig37 ag37 qg37 rg37 (by rfl) ?_
              exact ft_ret mi_k44 (by rfl) (hP (ig37 6274) _ _ _ _ hG40 (oz1329 fig37_6274.1))
            ·
              have c42 : (ig37 6275).toInt = (0 : Int32).toInt := kd_neF c; clear c
              have fig37_6274 : ((0 : Int) ≤ (ig37 6274).toInt) ∧ ((ig37 6274).toInt ≤ 120) := hG40.I.1 6274
              have fig37_6273 : ((0 : Int) ≤ (ig37 6273).toInt) ∧ ((ig37 6273).toInt ≤ 120) := hG40.I.1 6273
              have efig37_6273 : (ig37 6273).toInt = (i27 6273).toInt := kg37.ti 6273 rfl
              refine ft_go mi_k44 4 65 [(1, .int l1_27), (0, .ref 98)] [.int (ig37 6273), .int (ig37 6274)] ig37 ag37 qg37 rg37 (by rfl) ?_
              refine ft_if mi_k44 (decide ((ig37 6273) ≤ (ig37 6274))) 73 68 [(1, .int l1_27), (0, .ref 98)] [] (by rfl) (fun c => ?_) (fun c => ?_)
              ·
                have c43 : (ig37 6273).toInt ≤ (ig37 6274).toInt := kd_le c; clear c
                refine ft_go mi_k44 2 77 [(1, .int l1_27), (0, .ref 98)] [.ref (rg37 2)] ig37 ag37 qg37 rg37 (by rfl) ?_
                rcases hG40.R.1 with ⟨eRrg37_0, eRrg37_2⟩ | ⟨eRrg37_0, eRrg37_2⟩
                ·
                  have eRrg37_0 : rg37 0 = 10 := eRrg37_0
                  have eRrg37_2 : rg37 2 = 100 := eRrg37_2
                  refine ko_eq (x1 := (77, [(1, .int l1_27), (0, .ref 98)], [.ref 100], (0, 0), ks ig37 ag37 qg37 rg37)) (by rw [eRrg37_2]) ?_
                  have hJ44 := kG_i hG40 6400 rfl (v := 1) ⟨(oz246 kn1), (oz558 kn1)⟩
                  refine ft_go mi_k44 3 82 [(1, .int l1_27), (0, .ref 98)] [.int (-1)] (ku ig37 6400 1) ag37 qg37 rg37 (by rfl) ?_
                  exact ft_ret mi_k44 (by rfl) (hP (-1) _ _ _ _ hJ44 (oz1330 knm1))
                ·
                  have eRrg37_0 : rg37 0 = 100 := eRrg37_0
                  have eRrg37_2 : rg37 2 = 10 := eRrg37_2
                  refine ko_eq (x1 := (77, [(1, .int l1_27), (0, .ref 98)], [.ref 10], (0, 0), ks ig37 ag37 qg37 rg37)) (by rw [eRrg37_2]) ?_
                  have hJ45 := kG_i hG40 640 rfl (v := 1) ⟨(oz246 kn1), (oz558 kn1)⟩
                  refine ft_go mi_k44 3 82 [(1, .int l1_27), (0, .ref 98)] [.int (-1)] (ku ig37 640 1) ag37 qg37 rg37 (by rfl) ?_
                  exact ft_ret mi_k44 (by rfl) (hP (-1) _ _ _ _ hJ45 (oz1330 knm1))
              ·
                have c46 : (ig37 6274).toInt < (ig37 6273).toInt := kd_leF c; clear c
                refine ft_go mi_k44 2 72 [(1, .int l1_27), (0, .ref 98)] [.int (ig37 6274)] ig37 ag37 qg37 rg37 (by rfl) ?_
                exact ft_ret mi_k44 (by rfl) (hP (ig37 6274) _ _ _ _ hG40 (oz1329 fig37_6274.1))
    exact lp27 _ _ _ _ _ _ (kG_self _ hGg26.I hGg26.R) (oz46 kn0) (Nat.lt_succ_self _)
def w86_0 : kW := ([640, 643, 6273, 6274, 6275, 6400, 6403], [11, 12, 101, 102], [], [0, 2])
set_option maxRecDepth 100000 in
theorem kc86_0 {i : Nat → Int32} {a : Nat → List Int32} {q : Nat → List Int64} {r : Nat → Nat} (hI : kI i a q) (hr : kr r)  : km 57 86 [.ref 0] (ks i a q r) (kVI w86_0 i a q r (fun v i1 a1 q1 r1 => True)) := by
  have hG := kG_self w86_0 hI hr
  refine km_ofI (q := (mi_h86, mi_c86)) rfl (by decide) (Nat.le_of_ble_eq_true rfl) ?_
  intro P hP
  refine ft_go mi_k86 2 4 [(0, .ref 0)] [.ref 98] i a q r (by rfl) ?_
  refine ko_callI mi_k86.1 (pc := 4) (ls := [(0, .ref 0)]) (st := [.ref 98]) (h := ks i a q r) (i := (.invokevirtual 113, 3, 44, 0, 9, 0, 175)) (mi_k86.2 _ _ (by rfl)) (ft_invS mi_pq44 (by rfl)) (cy := mi_c44) mi_pq44 rfl (kc44_98 hG.I hG.R ) (by decide) ?_
  intro vg1 ig1 ag1 qg1 rg1 kg1 hg1
  have hGg1 := kG_call hG kg1 (by decide +kernel)
  have z2 : (vg1.toInt = (-1)) ∨ ((0 : Int) ≤ vg1.toInt) := hg1
  have hJ3 := kG_i hGg1 6273 rfl (v := 0) ⟨(oz46 kn0), (oz1297 kn0)⟩
  refine ft_go mi_k86 6 17 [(1, .int vg1), (0, .ref 0)] [.int vg1] (ku ig1 6273 0) ag1 qg1 rg1 (by rfl) ?_
  refine ft_if mi_k86 (decide (vg1 < 0)) 25 20 [(1, .int vg1), (0, .ref 0)] [] (by rfl) (fun c => ?_) (fun c => ?_)
  ·
    have c4 : vg1.toInt < (0 : Int32).toInt := kd_lt c; clear c
    refine ft_go mi_k86 7 40 [(1, .int vg1), (0, .ref 0)] [.ref (rg1 0), .ref 98, .ref 1] (ku ig1 6273 0) ag1 qg1 rg1 (by rfl) ?_
    rcases hJ3.R.1 with ⟨eRrg1_0, eRrg1_2⟩ | ⟨eRrg1_0, eRrg1_2⟩
    ·
      have eRrg1_0 : rg1 0 = 10 := eRrg1_0
      have eRrg1_2 : rg1 2 = 100 := eRrg1_2
      refine ko_eq (x1 := (40, [(1, .int vg1), (0, .ref 0)], [.ref 10, .ref 98, .ref 1], (0, 0), ks (ku ig1 6273 0) ag1 qg1 rg1)) (by rw [eRrg1_0]) ?_
      refine ko_callP mi_k86.1 (pc := 40) (ls := [(1, .int vg1), (0, .ref 0)]) (st := [.ref 10, .ref 98, .ref 1]) (h := ks (ku ig1 6273 0) ag1 qg1 rg1) (i := (.invokevirtual 121, 3, 43, 0, 9, 0, 205)) (mi_k86.2 _ _ (by rfl)) (ft_invS mi_pq43 (by rfl)) (cy := mi_c43) mi_pq43 rfl (kc43 (ku ig1 6273 0) ag1 qg1 rg1 10) (by decide) ?_
      rintro _ _ ⟨rfl, rfl⟩
      refine ko_eq (x1 := (43, [(1, .int vg1), (0, .ref 0)], [.ref 100, .ref 1], (0, 0), ks (ku ig1 6273 0) ag1 qg1 (ku rg1 2 10))) (by rw [eRrg1_2] <;> rfl) ?_
      have hJ5 := kG_r2 hJ3 2 rfl 0 rfl (v := 10) (v2 := 100) (by first | exact ⟨Or.inl ⟨rfl, rfl⟩, hJ3.R.2⟩ | exact ⟨Or.inr ⟨rfl, rfl⟩, hJ3.R.2⟩)
      refine ko_steps mi_in86 2 _ (47, [(1, .int vg1), (0, .ref 0)], [.int 1], (0, 0), ks (ku ig1 6273 0) ag1 qg1 (ku (ku rg1 2 10) 0 100)) (by rfl) ?_
      exact ft_ret mi_k86 (by rfl) (hP 1 _ _ _ _ hJ5 trivial)
    ·
      have eRrg1_0 : rg1 0 = 100 := eRrg1_0
      have eRrg1_2 : rg1 2 = 10 := eRrg1_2
      refine ko_eq (x1 := (40, [(1, .int vg1), (0, .ref 0)], [.ref 100, .ref 98, .ref 1], (0, 0), ks (ku ig1 6273 0) ag1 qg1 rg1)) (by rw [eRrg1_0]) ?_
      refine ko_callP mi_k86.1 (pc := 40) (ls := [(1, .int vg1), (0, .ref 0)]) (st := [.ref 100, .ref 98, .ref 1]) (h := ks (ku ig1 6273 0) ag1 qg1 rg1) (i := (.invokevirtual 121, 3, 43, 0, 9, 0, 205)) (mi_k86.2 _ _ (by rfl)) (ft_invS mi_pq43 (by rfl)) (cy := mi_c43) mi_pq43 rfl (kc43 (ku ig1 6273 0) ag1 qg1 rg1 100) (by decide) ?_
      rintro _ _ ⟨rfl, rfl⟩
      refine ko_eq (x1 := (43, [(1, .int vg1), (0, .ref 0)], [.ref 10, .ref 1], (0, 0), ks (ku ig1 6273 0) ag1 qg1 (ku rg1 2 100))) (by rw [eRrg1_2] <;> rfl) ?_
      have hJ6 := kG_r2 hJ3 2 rfl 0 rfl (v := 100) (v2 := 10) (by first | exact ⟨Or.inl ⟨rfl, rfl⟩, hJ3.R.2⟩ | exact ⟨Or.inr ⟨rfl, rfl⟩, hJ3.R.2⟩)
      refine ko_steps mi_in86 2 _ (47, [(1, .int vg1), (0, .ref 0)], [.int 1], (0, 0), ks (ku ig1 6273 0) ag1 qg1 (ku (ku rg1 2 100) 0 10)) (by rfl) ?_
      exact ft_ret mi_k86 (by rfl) (hP 1 _ _ _ _ hJ6 trivial)
  ·
    have c7 : (0 : Int32).toInt ≤ vg1.toInt := kd_ltF c; clear c
    have b8 : ((-2147483648 : Int) ≤ vg1.toInt) ∧ (vg1.toInt ≤ 2147483647) := kd_bd vg1
    refine ft_go mi_k86 3 24 [(1, .int vg1), (0, .ref 0)] [.int ((-100) - vg1)] (ku ig1 6273 0) ag1 qg1 rg1 (by rfl) ?_
    exact ft_ret mi_k86 (by rfl) (hP ((-100) - vg1) _ _ _ _ hJ3 trivial)
set_option maxRecDepth 100000 in
theorem kc11_l00_l10 {i : Nat → Int32} {a : Nat → List Int32} {q : Nat → List Int64} {r : Nat → Nat} (hI : kI i a q) (hr : kr r)  : km 1 11 [.int 0, .int 0] (ks i a q r) (kPI (ks i a q r) (fun v => v.toInt = 0)) := by
  have hG := kG_self kW0 hI hr
  refine km_ofPI (q := (mi_h11, mi_c11)) rfl (by decide) (Nat.le_of_ble_eq_true rfl) ?_
  intro P hP
  refine ft_go mi_k11 10 47 [(3, .int 0), (2, .int 0), (0, .int 0), (1, .int 0)] [.int 0] i a q r (by rfl) ?_
  exact ft_ret mi_k11 (by rfl) (hP 0 (oz236 kn0))
def w14_94_l10_K0 : kW := ([], [], [], [])
set_option maxRecDepth 100000 in
theorem kc14_94_l10_K0 {i : Nat → Int32} {a : Nat → List Int32} {q : Nat → List Int64} {r : Nat → Nat} (hI : kI i a q) (hr : kr r) (x1 : Int32) (x3 : Int32) (x4 : Int32) (hp0 : ((0 : Int) ≤ x1.toInt) ∧ (x1.toInt ≤ 49)) (hp1 : ((a 95).getD x1.toNatClampNeg 0).toInt = 0) (hp2 : ((0 : Int) ≤ x4.toInt) ∧ ((x4.toInt + 0) ≤ 39)) (hp3 : ((0 : Int) ≤ (i 6019).toInt) ∧ (((i 6019).toInt + 0) ≤ 900)) : km 1 14 [.ref 94, .int x1, .int 0, .int x3, .int x4] (ks i a q r) (kVI w14_94_l10_K0 i a q r (fun v i1 a1 q1 r1 => (i1 6019).toInt = ((i 6019).toInt + 0))) := by
  have hG := kG_self w14_94_l10_K0 hI hr
  refine km_ofI (q := (mi_h14, mi_c14)) rfl (by decide) (Nat.le_of_ble_eq_true rfl) ?_
  intro P hP
  have r1 : ((0 : Int) ≤ ((a 95).getD x1.toNatClampNeg 0).toInt) ∧ (((a 95).getD x1.toNatClampNeg 0).toInt ≤ 7) := hG.I.2.2.1 95 (x1.toNatClampNeg)
  have fi_6019 : ((0 : Int) ≤ (i 6019).toInt) ∧ ((i 6019).toInt ≤ 1000) := hG.I.1 6019
  refine ft_go mi_k14 3 5 [(0, .ref 94), (1, .int x1), (2, .int 0), (3, .int x3), (4, .int x4)] [.int x1, .ref 95] i a q r (by rfl) ?_
  refine ko_iald3 mi_k14.1 (n := 50) (c := 50) (ax := (0, 0, 0, 0, 0)) (mi_k14.2 _ _ (by rfl)) (by rfl) (ksG95 _ _ _ _) (hG.I.2.1 95) rfl (oz3 hp0.1) (oz1336 hp0.2) ?_
  refine ko_eq (x1 := (6, [(0, .ref 94), (1, .int x1), (2, .int 0), (3, .int x3), (4, .int x4)], [.int 0], (0, 0), ks i a q r)) (by rw [(kj_eq (oz1337 hp1 r1.1) (by decide) : ((a 95).getD x1.toNatClampNeg 0) = 0)]) ?_
  have b2 : ((-2147483648 : Int) ≤ x3.toInt) ∧ (x3.toInt ≤ 2147483647) := kd_bd x3
  have b3 : ((-2147483648 : Int) ≤ x1.toInt) ∧ (x1.toInt ≤ 2147483647) := kd_bd x1
  refine ft_go mi_k14 6 39 [(5, .int 0), (0, .ref 94), (1, .int x1), (2, .int 0), (3, .int x3), (4, .int x4)] [.int (x3 + x1)] i a q r (by rfl) ?_
  exact ft_ret mi_k14 (by rfl) (hP (x3 + x1) _ _ _ _ hG oz1338)
def w13_94_l10_l20_K0 : kW := ([6019], [96], [], [])
set_option maxRecDepth 100000 in
theorem kc13_94_l10_l20_K0 {i : Nat → Int32} {a : Nat → List Int32} {q : Nat → List Int64} {r : Nat → Nat} (hI : kI i a q) (hr : kr r) (x1 : Int32) (x4 : Int32) (x5 : Int32) (hp0 : ((0 : Int) ≤ x1.toInt) ∧ (x1.toInt ≤ 49)) (hp1 : ((a 95).getD x1.toNatClampNeg 0).toInt = 0) (hp2 : ((0 : Int) ≤ x5.toInt) ∧ ((x5.toInt + 1) ≤ 39)) (hp3 : ((0 : Int) ≤ (i 6019).toInt) ∧ (((i 6019).toInt + 1) ≤ 900)) : km 3 13 [.ref 94, .int x1, .int 0, .int 0, .int x4, .int x5] (ks i a q r) (kVI w13_94_l10_l20_K0 i a q r (fun v i1 a1 q1 r1 => (i1 6019).toInt = ((i 6019).toInt + 1))) := by
  have hG := kG_self w13_94_l10_l20_K0 hI hr
  refine km_ofI (q := (mi_h13, mi_c13)) rfl (by decide) (Nat.le_of_ble_eq_true rfl) ?_
  intro P hP
  have r1 : ((0 : Int) ≤ ((a 95).getD x1.toNatClampNeg 0).toInt) ∧ (((a 95).getD x1.toNatClampNeg 0).toInt ≤ 7) := hG.I.2.2.1 95 (x1.toNatClampNeg)
  have fi_6019 : ((0 : Int) ≤ (i 6019).toInt) ∧ ((i 6019).toInt ≤ 1000) := hG.I.1 6019
  refine ft_go mi_k13 2 4 [(0, .ref 94), (1, .int x1), (2, .int 0), (3, .int 0), (4, .int x4), (5, .int x5)] [.int 40, .int x5] i a q r (by rfl) ?_
  refine ft_if mi_k13 (decide (x5 < 40)) 9 7 [(0, .ref 94), (1, .int x1), (2, .int 0), (3, .int 0), (4, .int x4), (5, .int x5)] [] (by rfl) (fun c => ?_) (fun c => ?_)
  ·
    have c2 : x5.toInt < (40 : Int32).toInt := kd_lt c; clear c
    refine ft_go mi_k13 2 11 [(0, .ref 94), (1, .int x1), (2, .int 0), (3, .int 0), (4, .int x4), (5, .int x5)] [.int 0, .int 0] i a q r (by rfl) ?_
    refine ko_callPI mi_k13.1 (pc := 11) (ls := [(0, .ref 94), (1, .int x1), (2, .int 0), (3, .int 0), (4, .int x4), (5, .int x5)]) (st := [.int 0, .int 0]) (h := ks i a q r) (i := (.invokestatic 39, 3, 11, 0, 9, 0, 298)) (mi_k13.2 _ _ (by rfl)) (ft_invS mi_pq11 (by rfl)) (cy := mi_c11) mi_pq11 rfl (kc11_l00_l10 hG.I hG.R ) (by decide) ?_
    intro vg3 hg3
    have z4 : vg3.toInt = 0 := hg3
    have evvg3 := kj_eq (oz236 z4) (by decide : (0 : Int32).toInt = 0)
    subst evvg3
    refine ft_go mi_k13 5 23 [(6, .int 0), (0, .ref 94), (1, .int x1), (2, .int 0), (3, .int 0), (4, .int x4), (5, .int x5)] [.int (0 * 4), .ref (mi_RO + 3)] i a q r (by rfl) ?_
    refine ko_eq (x1 := (23, [(6, .int 0), (0, .ref 94), (1, .int x1), (2, .int 0), (3, .int 0), (4, .int x4), (5, .int x5)], [.int 0, .ref (mi_RO + 3)], (0, 0), ks i a q r)) (by rw [(by decide : (0 * 4 : Int32) = 0)]) ?_
    refine ft_go mi_k13 2 25 [(6, .int 0), (0, .ref 94), (1, .int x1), (2, .int 0), (3, .int 0), (4, .int x4), (5, .int x5)] [.int (0 + 0), .ref (mi_RO + 3)] i a q r (by rfl) ?_
    refine ko_eq (x1 := (25, [(6, .int 0), (0, .ref 94), (1, .int x1), (2, .int 0), (3, .int 0), (4, .int x4), (5, .int x5)], [.int 0, .ref (mi_RO + 3)], (0, 0), ks i a q r)) (by rw [(by decide : (0 + 0 : Int32) = 0)]) ?_
    refine ko_iaro2 mi_k13.1 (l := [1, 10, 11, 2, 20, 0, 0, 0, 0, 30, 0, 0, 0, 41, 40, 0, 0, 0, 50, 0, 0, 0, 0, 60, 70, 0, 0, 0, 0, 80, 0, 81]) (n := 32) (c := 32) (ax := (0, 0, 0, 0, 0)) (mi_k13.2 _ _ (by rfl)) (by rfl) (by rfl) rfl rfl (oz46 kn0) (oz1228 kn0) ?_
    have r5 : ((0 : Int) ≤ (([1, 10, 11, 2, 20, 0, 0, 0, 0, 30, 0, 0, 0, 41, 40, 0, 0, 0, 50, 0, 0, 0, 0, 60, 70, 0, 0, 0, 0, 80, 0, 81] : List Int32).getD (0 : Int32).toNatClampNeg 0).toInt) ∧ ((([1, 10, 11, 2, 20, 0, 0, 0, 0, 30, 0, 0, 0, 41, 40, 0, 0, 0, 50, 0, 0, 0, 0, 60, 70, 0, 0, 0, 0, 80, 0, 81] : List Int32).getD (0 : Int32).toNatClampNeg 0).toInt ≤ 81) := kro_rng (lo := 0) (hi := 81) (by decide) ((0 : Int32).toNatClampNeg)
    refine ko_eq (x1 := (26, [(6, .int 0), (0, .ref 94), (1, .int x1), (2, .int 0), (3, .int 0), (4, .int x4), (5, .int x5)], [.int 1], (0, 0), ks i a q r)) (by rw [(by decide : (([1, 10, 11, 2, 20, 0, 0, 0, 0, 30, 0, 0, 0, 41, 40, 0, 0, 0, 50, 0, 0, 0, 0, 60, 70, 0, 0, 0, 0, 80, 0, 81] : List Int32).getD (0 : Int32).toNatClampNeg 0) = 1)]) ?_
    refine ft_go mi_k13 4 34 [(7, .int 1), (6, .int 0), (0, .ref 94), (1, .int x1), (2, .int 0), (3, .int 0), (4, .int x4), (5, .int x5)] [.int 24, .int (i 6019)] i a q r (by rfl) ?_
    refine ft_if mi_k13 (decide (24 ≤ (i 6019))) 48 37 [(7, .int 1), (6, .int 0), (0, .ref 94), (1, .int x1), (2, .int 0), (3, .int 0), (4, .int x4), (5, .int x5)] [] (by rfl) (fun c => ?_) (fun c => ?_)
    ·
      have c6 : (24 : Int32).toInt ≤ (i 6019).toInt := kd_le c; clear c
      have s7 : ((i 6019) + 1).toInt = (i 6019).toInt + (1 : Int32).toInt := kd_add (oz1332 c6 kn24 kn1) (oz951 fi_6019.2 kn1)
      have hJ8 := kG_i hG 6019 rfl (v := ((i 6019) + 1)) ⟨(oz1333 c6 s7 kn24 kn1), (oz1334 hp3.2 s7 kn1)⟩
      have s9 : (x5 + 1).toInt = x5.toInt + (1 : Int32).toInt := kd_add (oz12 hp2.1 kn1) (oz1335 hp2.2 kn1)
      refine ft_go mi_k13 15 72 [(7, .int 1), (6, .int 0), (0, .ref 94), (1, .int x1), (2, .int 0), (3, .int 0), (4, .int x4), (5, .int x5)] [.int (x5 + 1), .int x4, .int 0, .int x1, .ref 94] (ku i 6019 ((i 6019) + 1)) a q r (by rfl) ?_
      refine ko_callI mi_k13.1 (pc := 72) (ls := [(7, .int 1), (6, .int 0), (0, .ref 94), (1, .int x1), (2, .int 0), (3, .int 0), (4, .int x4), (5, .int x5)]) (st := [.int (x5 + 1), .int x4, .int 0, .int x1, .ref 94]) (h := ks (ku i 6019 ((i 6019) + 1)) a q r) (i := (.invokevirtual 43, 3, 14, 0, 9, 0, 301)) (mi_k13.2 _ _ (by rfl)) (ft_invS mi_pq14 (by rfl)) (cy := mi_c14) mi_pq14 rfl (kc14_94_l10_K0 hJ8.I hJ8.R x1 x4 (x5 + 1) (oz1339 hp0.1 hp0.2) (oz1337 hp1 r1.1) (oz1340 hp2.1 hp2.2 s9 kn1) (oz1341 c6 hp3.2 s7 kn24 kn1)) (by decide) ?_
      intro vg10 ig10 ag10 qg10 rg10 kg10 hg10
      have hGg10 := kG_call hJ8 kg10 (by decide +kernel)
      have fig10_6019 : ((0 : Int) ≤ (ig10 6019).toInt) ∧ ((ig10 6019).toInt ≤ 1000) := hGg10.I.1 6019
      have efig10_6019 : (ig10 6019).toInt = ((i 6019) + 1).toInt := kg10.ti 6019 rfl
      have z11 : (ig10 6019).toInt = (((i 6019) + 1).toInt + 0) := hg10
      exact ft_ret mi_k13 (by rfl) (hP vg10 _ _ _ _ hGg10 (oz1342 efig10_6019 s7 kn1))
    ·
      have c12 : (i 6019).toInt < (24 : Int32).toInt := kd_leF c; clear c
      refine ft_go mi_k13 5 47 [(7, .int 1), (6, .int 0), (0, .ref 94), (1, .int x1), (2, .int 0), (3, .int 0), (4, .int x4), (5, .int x5)] [.int 1, .int (i 6019), .ref 96] i a q r (by rfl) ?_
      refine ko_iast3 mi_k13.1 (n := 24) (c := 24) (ax := (0, 0, 0, 0, 0)) (mi_k13.2 _ _ (by rfl)) (by rfl) (ksG96 _ _ _ _) (ksA96 _ _ _ _) (hG.I.2.1 96) rfl (oz3 fi_6019.1) (oz1343 c12 kn24) ?_
      intro a13 ea13 fa13
      have hJ13 := kG_a3 hG 96 rfl ea13 fa13 (kd_bd _)
      have s14 : ((i 6019) + 1).toInt = (i 6019).toInt + (1 : Int32).toInt := kd_add (oz12 fi_6019.1 kn1) (oz951 fi_6019.2 kn1)
      have hJ15 := kG_i hJ13 6019 rfl (v := ((i 6019) + 1)) ⟨(oz14 fi_6019.1 s14 kn1), (oz1334 hp3.2 s14 kn1)⟩
      have s16 : (x5 + 1).toInt = x5.toInt + (1 : Int32).toInt := kd_add (oz12 hp2.1 kn1) (oz1335 hp2.2 kn1)
      refine ft_go mi_k13 15 72 [(7, .int 1), (6, .int 0), (0, .ref 94), (1, .int x1), (2, .int 0), (3, .int 0), (4, .int x4), (5, .int x5)] [.int (x5 + 1), .int x4, .int 0, .int x1, .ref 94] (ku i 6019 ((i 6019) + 1)) a13 q r (by rfl) ?_
      have r17 : ((0 : Int) ≤ ((a13 95).getD x1.toNatClampNeg 0).toInt) ∧ (((a13 95).getD x1.toNatClampNeg 0).toInt ≤ 7) := hJ15.I.2.2.1 95 (x1.toNatClampNeg)
      have u18 : ((a13 95).getD x1.toNatClampNeg 0).toInt = ((a 95).getD x1.toNatClampNeg 0).toInt := congrArg (fun z : List Int32 => (z.getD x1.toNatClampNeg 0).toInt) (fa13 95 (by decide))
      refine ko_callI mi_k13.1 (pc := 72) (ls := [(7, .int 1), (6, .int 0), (0, .ref 94), (1, .int x1), (2, .int 0), (3, .int 0), (4, .int x4), (5, .int x5)]) (st := [.int (x5 + 1), .int x4, .int 0, .int x1, .ref 94]) (h := ks (ku i 6019 ((i 6019) + 1)) a13 q r) (i := (.invokevirtual 43, 3, 14, 0, 9, 0, 301)) (mi_k13.2 _ _ (by rfl)) (ft_invS mi_pq14 (by rfl)) (cy := mi_c14) mi_pq14 rfl (kc14_94_l10_K0 hJ15.I hJ15.R x1 x4 (x5 + 1) (oz1339 hp0.1 hp0.2) (oz1344 hp1 r17.1 u18) (oz1340 hp2.1 hp2.2 s16 kn1) (oz1345 fi_6019.1 hp3.2 s14 kn1)) (by decide) ?_
      intro vg19 ig19 ag19 qg19 rg19 kg19 hg19
      have hGg19 := kG_call hJ15 kg19 (by decide +kernel)
      have fig19_6019 : ((0 : Int) ≤ (ig19 6019).toInt) ∧ ((ig19 6019).toInt ≤ 1000) := hGg19.I.1 6019
      have efig19_6019 : (ig19 6019).toInt = ((i 6019) + 1).toInt := kg19.ti 6019 rfl
      have z20 : (ig19 6019).toInt = (((i 6019) + 1).toInt + 0) := hg19
      exact ft_ret mi_k13 (by rfl) (hP vg19 _ _ _ _ hGg19 (oz1342 efig19_6019 s14 kn1))
  ·
    have c21 : (40 : Int32).toInt ≤ x5.toInt := kd_ltF c; clear c
    exact (oz1346 c21 hp2.2 kn40).elim
set_option maxRecDepth 100000 in
theorem kc11_l00_l11 {i : Nat → Int32} {a : Nat → List Int32} {q : Nat → List Int64} {r : Nat → Nat} (hI : kI i a q) (hr : kr r)  : km 1 11 [.int 0, .int 1] (ks i a q r) (kPI (ks i a q r) (fun v => v.toInt = 0)) := by
  have hG := kG_self kW0 hI hr
  refine km_ofPI (q := (mi_h11, mi_c11)) rfl (by decide) (Nat.le_of_ble_eq_true rfl) ?_
  intro P hP
  refine ft_go mi_k11 10 47 [(3, .int 0), (2, .int 0), (0, .int 0), (1, .int 1)] [.int 0] i a q r (by rfl) ?_
  exact ft_ret mi_k11 (by rfl) (hP 0 (oz236 kn0))
def w14_94_l11_K0 : kW := ([6019], [96], [], [])
set_option maxRecDepth 100000 in
theorem kc14_94_l11_K0 {i : Nat → Int32} {a : Nat → List Int32} {q : Nat → List Int64} {r : Nat → Nat} (hI : kI i a q) (hr : kr r) (x1 : Int32) (x3 : Int32) (x4 : Int32) (hp0 : ((0 : Int) ≤ x1.toInt) ∧ (x1.toInt ≤ 49)) (hp1 : ((a 95).getD x1.toNatClampNeg 0).toInt = 0) (hp2 : ((0 : Int) ≤ x4.toInt) ∧ ((x4.toInt + 1) ≤ 39)) (hp3 : ((0 : Int) ≤ (i 6019).toInt) ∧ (((i 6019).toInt + 1) ≤ 900)) : km 5 14 [.ref 94, .int x1, .int 1, .int x3, .int x4] (ks i a q r) (kVI w14_94_l11_K0 i a q r (fun v i1 a1 q1 r1 => (i1 6019).toInt = ((i 6019).toInt + 1))) := by
  have hG := kG_self w14_94_l11_K0 hI hr
  refine km_ofI (q := (mi_h14, mi_c14)) rfl (by decide) (Nat.le_of_ble_eq_true rfl) ?_
  intro P hP
  have r1 : ((0 : Int) ≤ ((a 95).getD x1.toNatClampNeg 0).toInt) ∧ (((a 95).getD x1.toNatClampNeg 0).toInt ≤ 7) := hG.I.2.2.1 95 (x1.toNatClampNeg)
  have fi_6019 : ((0 : Int) ≤ (i 6019).toInt) ∧ ((i 6019).toInt ≤ 1000) := hG.I.1 6019
  refine ft_go mi_k14 3 5 [(0, .ref 94), (1, .int x1), (2, .int 1), (3, .int x3), (4, .int x4)] [.int x1, .ref 95] i a q r (by rfl) ?_
  refine ko_iald3 mi_k14.1 (n := 50) (c := 50) (ax := (0, 0, 0, 0, 0)) (mi_k14.2 _ _ (by rfl)) (by rfl) (ksG95 _ _ _ _) (hG.I.2.1 95) rfl (oz3 hp0.1) (oz1336 hp0.2) ?_
  refine ko_eq (x1 := (6, [(0, .ref 94), (1, .int x1), (2, .int 1), (3, .int x3), (4, .int x4)], [.int 0], (0, 0), ks i a q r)) (by rw [(kj_eq (oz1337 hp1 r1.1) (by decide) : ((a 95).getD x1.toNatClampNeg 0) = 0)]) ?_
  refine ft_go mi_k14 9 48 [(5, .int 0), (0, .ref 94), (1, .int x1), (2, .int 1), (3, .int x3), (4, .int x4)] [.int x4, .int x3, .int 0, .int 0, .int x1, .ref 94] i a q r (by rfl) ?_
  refine ko_callI mi_k14.1 (pc := 48) (ls := [(5, .int 0), (0, .ref 94), (1, .int x1), (2, .int 1), (3, .int x3), (4, .int x4)]) (st := [.int x4, .int x3, .int 0, .int 0, .int x1, .ref 94]) (h := ks i a q r) (i := (.invokevirtual 35, 3, 13, 0, 9, 0, 297)) (mi_k14.2 _ _ (by rfl)) (ft_invS mi_pq13 (by rfl)) (cy := mi_c13) mi_pq13 rfl (kc13_94_l10_l20_K0 hG.I hG.R x1 x3 x4 (oz1339 hp0.1 hp0.2) (oz1337 hp1 r1.1) (oz1353 hp2.1 hp2.2) (oz1354 fi_6019.1 hp3.2)) (by decide) ?_
  intro vg2 ig2 ag2 qg2 rg2 kg2 hg2
  have hGg2 := kG_call hG kg2 (by decide +kernel)
  have fig2_6019 : ((0 : Int) ≤ (ig2 6019).toInt) ∧ ((ig2 6019).toInt ≤ 1000) := hGg2.I.1 6019
  have z3 : (ig2 6019).toInt = ((i 6019).toInt + 1) := hg2
  have b4 : ((-2147483648 : Int) ≤ vg2.toInt) ∧ (vg2.toInt ≤ 2147483647) := kd_bd vg2
  refine ft_go mi_k14 2 53 [(5, .int 0), (0, .ref 94), (1, .int x1), (2, .int 1), (3, .int x3), (4, .int x4)] [.int (vg2 * 2)] ig2 ag2 qg2 rg2 (by rfl) ?_
  exact ft_ret mi_k14 (by rfl) (hP (vg2 * 2) _ _ _ _ hGg2 (oz1355 z3))
def w13_94_l10_l21_K0 : kW := ([6019], [96], [], [])
set_option maxRecDepth 100000 in
theorem kc13_94_l10_l21_K0 {i : Nat → Int32} {a : Nat → List Int32} {q : Nat → List Int64} {r : Nat → Nat} (hI : kI i a q) (hr : kr r) (x1 : Int32) (x4 : Int32) (x5 : Int32) (hp0 : ((0 : Int) ≤ x1.toInt) ∧ (x1.toInt ≤ 49)) (hp1 : ((a 95).getD x1.toNatClampNeg 0).toInt = 0) (hp2 : ((0 : Int) ≤ x5.toInt) ∧ ((x5.toInt + 2) ≤ 39)) (hp3 : ((0 : Int) ≤ (i 6019).toInt) ∧ (((i 6019).toInt + 2) ≤ 900)) : km 7 13 [.ref 94, .int x1, .int 0, .int 1, .int x4, .int x5] (ks i a q r) (kVI w13_94_l10_l21_K0 i a q r (fun v i1 a1 q1 r1 => (i1 6019).toInt = ((i 6019).toInt + 2))) := by
  have hG := kG_self w13_94_l10_l21_K0 hI hr
  refine km_ofI (q := (mi_h13, mi_c13)) rfl (by decide) (Nat.le_of_ble_eq_true rfl) ?_
  intro P hP
  have r1 : ((0 : Int) ≤ ((a 95).getD x1.toNatClampNeg 0).toInt) ∧ (((a 95).getD x1.toNatClampNeg 0).toInt ≤ 7) := hG.I.2.2.1 95 (x1.toNatClampNeg)
  have fi_6019 : ((0 : Int) ≤ (i 6019).toInt) ∧ ((i 6019).toInt ≤ 1000) := hG.I.1 6019
  refine ft_go mi_k13 2 4 [(0, .ref 94), (1, .int x1), (2, .int 0), (3, .int 1), (4, .int x4), (5, .int x5)] [.int 40, .int x5] i a q r (by rfl) ?_
  refine ft_if mi_k13 (decide (x5 < 40)) 9 7 [(0, .ref 94), (1, .int x1), (2, .int 0), (3, .int 1), (4, .int x4), (5, .int x5)] [] (by rfl) (fun c => ?_) (fun c => ?_)
  ·
    have c2 : x5.toInt < (40 : Int32).toInt := kd_lt c; clear c
    refine ft_go mi_k13 2 11 [(0, .ref 94), (1, .int x1), (2, .int 0), (3, .int 1), (4, .int x4), (5, .int x5)] [.int 1, .int 0] i a q r (by rfl) ?_
    refine ko_callPI mi_k13.1 (pc := 11) (ls := [(0, .ref 94), (1, .int x1), (2, .int 0), (3, .int 1), (4, .int x4), (5, .int x5)]) (st := [.int 1, .int 0]) (h := ks i a q r) (i := (.invokestatic 39, 3, 11, 0, 9, 0, 298)) (mi_k13.2 _ _ (by rfl)) (ft_invS mi_pq11 (by rfl)) (cy := mi_c11) mi_pq11 rfl (kc11_l00_l11 hG.I hG.R ) (by decide) ?_
    intro vg3 hg3
    have z4 : vg3.toInt = 0 := hg3
    have evvg3 := kj_eq (oz236 z4) (by decide : (0 : Int32).toInt = 0)
    subst evvg3
    refine ft_go mi_k13 5 23 [(6, .int 0), (0, .ref 94), (1, .int x1), (2, .int 0), (3, .int 1), (4, .int x4), (5, .int x5)] [.int (0 * 4), .ref (mi_RO + 3)] i a q r (by rfl) ?_
    refine ko_eq (x1 := (23, [(6, .int 0), (0, .ref 94), (1, .int x1), (2, .int 0), (3, .int 1), (4, .int x4), (5, .int x5)], [.int 0, .ref (mi_RO + 3)], (0, 0), ks i a q r)) (by rw [(by decide : (0 * 4 : Int32) = 0)]) ?_
    refine ft_go mi_k13 2 25 [(6, .int 0), (0, .ref 94), (1, .int x1), (2, .int 0), (3, .int 1), (4, .int x4), (5, .int x5)] [.int (0 + 1), .ref (mi_RO + 3)] i a q r (by rfl) ?_
    refine ko_eq (x1 := (25, [(6, .int 0), (0, .ref 94), (1, .int x1), (2, .int 0), (3, .int 1), (4, .int x4), (5, .int x5)], [.int 1, .ref (mi_RO + 3)], (0, 0), ks i a q r)) (by rw [(by decide : (0 + 1 : Int32) = 1)]) ?_
    refine ko_iaro2 mi_k13.1 (l := [1, 10, 11, 2, 20, 0, 0, 0, 0, 30, 0, 0, 0, 41, 40, 0, 0, 0, 50, 0, 0, 0, 0, 60, 70, 0, 0, 0, 0, 80, 0, 81]) (n := 32) (c := 32) (ax := (0, 0, 0, 0, 0)) (mi_k13.2 _ _ (by rfl)) (by rfl) (by rfl) rfl rfl (oz246 kn1) (oz1229 kn1) ?_
    have r5 : ((0 : Int) ≤ (([1, 10, 11, 2, 20, 0, 0, 0, 0, 30, 0, 0, 0, 41, 40, 0, 0, 0, 50, 0, 0, 0, 0, 60, 70, 0, 0, 0, 0, 80, 0, 81] : List Int32).getD (1 : Int32).toNatClampNeg 0).toInt) ∧ ((([1, 10, 11, 2, 20, 0, 0, 0, 0, 30, 0, 0, 0, 41, 40, 0, 0, 0, 50, 0, 0, 0, 0, 60, 70, 0, 0, 0, 0, 80, 0, 81] : List Int32).getD (1 : Int32).toNatClampNeg 0).toInt ≤ 81) := kro_rng (lo := 0) (hi := 81) (by decide) ((1 : Int32).toNatClampNeg)
    refine ko_eq (x1 := (26, [(6, .int 0), (0, .ref 94), (1, .int x1), (2, .int 0), (3, .int 1), (4, .int x4), (5, .int x5)], [.int 10], (0, 0), ks i a q r)) (by rw [(by decide : (([1, 10, 11, 2, 20, 0, 0, 0, 0, 30, 0, 0, 0, 41, 40, 0, 0, 0, 50, 0, 0, 0, 0, 60, 70, 0, 0, 0, 0, 80, 0, 81] : List Int32).getD (1 : Int32).toNatClampNeg 0) = 10)]) ?_
    refine ft_go mi_k13 4 34 [(7, .int 10), (6, .int 0), (0, .ref 94), (1, .int x1), (2, .int 0), (3, .int 1), (4, .int x4), (5, .int x5)] [.int 24, .int (i 6019)] i a q r (by rfl) ?_
    refine ft_if mi_k13 (decide (24 ≤ (i 6019))) 48 37 [(7, .int 10), (6, .int 0), (0, .ref 94), (1, .int x1), (2, .int 0), (3, .int 1), (4, .int x4), (5, .int x5)] [] (by rfl) (fun c => ?_) (fun c => ?_)
    ·
      have c6 : (24 : Int32).toInt ≤ (i 6019).toInt := kd_le c; clear c
      have s7 : ((i 6019) + 1).toInt = (i 6019).toInt + (1 : Int32).toInt := kd_add (oz1332 c6 kn24 kn1) (oz951 fi_6019.2 kn1)
      have hJ8 := kG_i hG 6019 rfl (v := ((i 6019) + 1)) ⟨(oz1333 c6 s7 kn24 kn1), (oz1351 hp3.2 s7 kn1)⟩
      have s9 : (x5 + 1).toInt = x5.toInt + (1 : Int32).toInt := kd_add (oz12 hp2.1 kn1) (oz1352 hp2.2 kn1)
      refine ft_go mi_k13 15 72 [(7, .int 10), (6, .int 0), (0, .ref 94), (1, .int x1), (2, .int 0), (3, .int 1), (4, .int x4), (5, .int x5)] [.int (x5 + 1), .int x4, .int 1, .int x1, .ref 94] (ku i 6019 ((i 6019) + 1)) a q r (by rfl) ?_
      refine ko_callI mi_k13.1 (pc := 72) (ls := [(7, .int 10), (6, .int 0), (0, .ref 94), (1, .int x1), (2, .int 0), (3, .int 1), (4, .int x4), (5, .int x5)]) (st := [.int (x5 + 1), .int x4, .int 1, .int x1, .ref 94]) (h := ks (ku i 6019 ((i 6019) + 1)) a q r) (i := (.invokevirtual 43, 3, 14, 0, 9, 0, 301)) (mi_k13.2 _ _ (by rfl)) (ft_invS mi_pq14 (by rfl)) (cy := mi_c14) mi_pq14 rfl (kc14_94_l11_K0 hJ8.I hJ8.R x1 x4 (x5 + 1) (oz1339 hp0.1 hp0.2) (oz1337 hp1 r1.1) (oz1356 hp2.1 hp2.2 s9 kn1) (oz1357 c6 hp3.2 s7 kn24 kn1)) (by decide) ?_
      intro vg10 ig10 ag10 qg10 rg10 kg10 hg10
      have hGg10 := kG_call hJ8 kg10 (by decide +kernel)
      have fig10_6019 : ((0 : Int) ≤ (ig10 6019).toInt) ∧ ((ig10 6019).toInt ≤ 1000) := hGg10.I.1 6019
      have z11 : (ig10 6019).toInt = (((i 6019) + 1).toInt + 1) := hg10
      exact ft_ret mi_k13 (by rfl) (hP vg10 _ _ _ _ hGg10 (oz1358 s7 z11 kn1))
    ·
      have c12 : (i 6019).toInt < (24 : Int32).toInt := kd_leF c; clear c
      refine ft_go mi_k13 5 47 [(7, .int 10), (6, .int 0), (0, .ref 94), (1, .int x1), (2, .int 0), (3, .int 1), (4, .int x4), (5, .int x5)] [.int 10, .int (i 6019), .ref 96] i a q r (by rfl) ?_
      refine ko_iast3 mi_k13.1 (n := 24) (c := 24) (ax := (0, 0, 0, 0, 0)) (mi_k13.2 _ _ (by rfl)) (by rfl) (ksG96 _ _ _ _) (ksA96 _ _ _ _) (hG.I.2.1 96) rfl (oz3 fi_6019.1) (oz1343 c12 kn24) ?_
      intro a13 ea13 fa13
      have hJ13 := kG_a3 hG 96 rfl ea13 fa13 (kd_bd _)
      have s14 : ((i 6019) + 1).toInt = (i 6019).toInt + (1 : Int32).toInt := kd_add (oz12 fi_6019.1 kn1) (oz951 fi_6019.2 kn1)
      have hJ15 := kG_i hJ13 6019 rfl (v := ((i 6019) + 1)) ⟨(oz14 fi_6019.1 s14 kn1), (oz1351 hp3.2 s14 kn1)⟩
      have s16 : (x5 + 1).toInt = x5.toInt + (1 : Int32).toInt := kd_add (oz12 hp2.1 kn1) (oz1352 hp2.2 kn1)
      refine ft_go mi_k13 15 72 [(7, .int 10), (6, .int 0), (0, .ref 94), (1, .int x1), (2, .int 0), (3, .int 1), (4, .int x4), (5, .int x5)] [.int (x5 + 1), .int x4, .int 1, .int x1, .ref 94] (ku i 6019 ((i 6019) + 1)) a13 q r (by rfl) ?_
      have r17 : ((0 : Int) ≤ ((a13 95).getD x1.toNatClampNeg 0).toInt) ∧ (((a13 95).getD x1.toNatClampNeg 0).toInt ≤ 7) := hJ15.I.2.2.1 95 (x1.toNatClampNeg)
      have u18 : ((a13 95).getD x1.toNatClampNeg 0).toInt = ((a 95).getD x1.toNatClampNeg 0).toInt := congrArg (fun z : List Int32 => (z.getD x1.toNatClampNeg 0).toInt) (fa13 95 (by decide))
      refine ko_callI mi_k13.1 (pc := 72) (ls := [(7, .int 10), (6, .int 0), (0, .ref 94), (1, .int x1), (2, .int 0), (3, .int 1), (4, .int x4), (5, .int x5)]) (st := [.int (x5 + 1), .int x4, .int 1, .int x1, .ref 94]) (h := ks (ku i 6019 ((i 6019) + 1)) a13 q r) (i := (.invokevirtual 43, 3, 14, 0, 9, 0, 301)) (mi_k13.2 _ _ (by rfl)) (ft_invS mi_pq14 (by rfl)) (cy := mi_c14) mi_pq14 rfl (kc14_94_l11_K0 hJ15.I hJ15.R x1 x4 (x5 + 1) (oz1339 hp0.1 hp0.2) (oz1344 hp1 r17.1 u18) (oz1356 hp2.1 hp2.2 s16 kn1) (oz1359 fi_6019.1 hp3.2 s14 kn1)) (by decide) ?_
      intro vg19 ig19 ag19 qg19 rg19 kg19 hg19
      have hGg19 := kG_call hJ15 kg19 (by decide +kernel)
      have fig19_6019 : ((0 : Int) ≤ (ig19 6019).toInt) ∧ ((ig19 6019).toInt ≤ 1000) := hGg19.I.1 6019
      have z20 : (ig19 6019).toInt = (((i 6019) + 1).toInt + 1) := hg19
      exact ft_ret mi_k13 (by rfl) (hP vg19 _ _ _ _ hGg19 (oz1358 s14 z20 kn1))
  ·
    have c21 : (40 : Int32).toInt ≤ x5.toInt := kd_ltF c; clear c
    exact (oz1360 c21 hp2.2 kn40).elim
set_option maxRecDepth 100000 in
theorem kc11_l00_l12 {i : Nat → Int32} {a : Nat → List Int32} {q : Nat → List Int64} {r : Nat → Nat} (hI : kI i a q) (hr : kr r)  : km 1 11 [.int 0, .int 2] (ks i a q r) (kPI (ks i a q r) (fun v => v.toInt = 0)) := by
  have hG := kG_self kW0 hI hr
  refine km_ofPI (q := (mi_h11, mi_c11)) rfl (by decide) (Nat.le_of_ble_eq_true rfl) ?_
  intro P hP
  refine ft_go mi_k11 10 47 [(3, .int 0), (2, .int 0), (0, .int 0), (1, .int 2)] [.int 0] i a q r (by rfl) ?_
  exact ft_ret mi_k11 (by rfl) (hP 0 (oz236 kn0))
def w14_94_l12_K0 : kW := ([], [], [], [])
set_option maxRecDepth 100000 in
theorem kc14_94_l12_K0 {i : Nat → Int32} {a : Nat → List Int32} {q : Nat → List Int64} {r : Nat → Nat} (hI : kI i a q) (hr : kr r) (x1 : Int32) (x3 : Int32) (x4 : Int32) (hp0 : ((0 : Int) ≤ x1.toInt) ∧ (x1.toInt ≤ 49)) (hp1 : ((a 95).getD x1.toNatClampNeg 0).toInt = 0) (hp2 : ((0 : Int) ≤ x4.toInt) ∧ ((x4.toInt + 0) ≤ 39)) (hp3 : ((0 : Int) ≤ (i 6019).toInt) ∧ (((i 6019).toInt + 0) ≤ 900)) : km 1 14 [.ref 94, .int x1, .int 2, .int x3, .int x4] (ks i a q r) (kVI w14_94_l12_K0 i a q r (fun v i1 a1 q1 r1 => (i1 6019).toInt = ((i 6019).toInt + 0))) := by
  have hG := kG_self w14_94_l12_K0 hI hr
  refine km_ofI (q := (mi_h14, mi_c14)) rfl (by decide) (Nat.le_of_ble_eq_true rfl) ?_
  intro P hP
  have r1 : ((0 : Int) ≤ ((a 95).getD x1.toNatClampNeg 0).toInt) ∧ (((a 95).getD x1.toNatClampNeg 0).toInt ≤ 7) := hG.I.2.2.1 95 (x1.toNatClampNeg)
  have fi_6019 : ((0 : Int) ≤ (i 6019).toInt) ∧ ((i 6019).toInt ≤ 1000) := hG.I.1 6019
  refine ft_go mi_k14 3 5 [(0, .ref 94), (1, .int x1), (2, .int 2), (3, .int x3), (4, .int x4)] [.int x1, .ref 95] i a q r (by rfl) ?_
  refine ko_iald3 mi_k14.1 (n := 50) (c := 50) (ax := (0, 0, 0, 0, 0)) (mi_k14.2 _ _ (by rfl)) (by rfl) (ksG95 _ _ _ _) (hG.I.2.1 95) rfl (oz3 hp0.1) (oz1336 hp0.2) ?_
  refine ko_eq (x1 := (6, [(0, .ref 94), (1, .int x1), (2, .int 2), (3, .int x3), (4, .int x4)], [.int 0], (0, 0), ks i a q r)) (by rw [(kj_eq (oz1337 hp1 r1.1) (by decide) : ((a 95).getD x1.toNatClampNeg 0) = 0)]) ?_
  refine ft_go mi_k14 6 57 [(5, .int 0), (0, .ref 94), (1, .int x1), (2, .int 2), (3, .int x3), (4, .int x4)] [.int (x3 ^^^ x1)] i a q r (by rfl) ?_
  exact ft_ret mi_k14 (by rfl) (hP (x3 ^^^ x1) _ _ _ _ hG oz1338)
def w13_94_l10_l22_K0 : kW := ([6019], [96], [], [])
set_option maxRecDepth 100000 in
theorem kc13_94_l10_l22_K0 {i : Nat → Int32} {a : Nat → List Int32} {q : Nat → List Int64} {r : Nat → Nat} (hI : kI i a q) (hr : kr r) (x1 : Int32) (x4 : Int32) (x5 : Int32) (hp0 : ((0 : Int) ≤ x1.toInt) ∧ (x1.toInt ≤ 49)) (hp1 : ((a 95).getD x1.toNatClampNeg 0).toInt = 0) (hp2 : ((0 : Int) ≤ x5.toInt) ∧ ((x5.toInt + 1) ≤ 39)) (hp3 : ((0 : Int) ≤ (i 6019).toInt) ∧ (((i 6019).toInt + 1) ≤ 900)) : km 3 13 [.ref 94, .int x1, .int 0, .int 2, .int x4, .int x5] (ks i a q r) (kVI w13_94_l10_l22_K0 i a q r (fun v i1 a1 q1 r1 => (i1 6019).toInt = ((i 6019).toInt + 1))) := by
  have hG := kG_self w13_94_l10_l22_K0 hI hr
  refine km_ofI (q := (mi_h13, mi_c13)) rfl (by decide) (Nat.le_of_ble_eq_true rfl) ?_
  intro P hP
  have r1 : ((0 : Int) ≤ ((a 95).getD x1.toNatClampNeg 0).toInt) ∧ (((a 95).getD x1.toNatClampNeg 0).toInt ≤ 7) := hG.I.2.2.1 95 (x1.toNatClampNeg)
  have fi_6019 : ((0 : Int) ≤ (i 6019).toInt) ∧ ((i 6019).toInt ≤ 1000) := hG.I.1 6019
  refine ft_go mi_k13 2 4 [(0, .ref 94), (1, .int x1), (2, .int 0), (3, .int 2), (4, .int x4), (5, .int x5)] [.int 40, .int x5] i a q r (by rfl) ?_
  refine ft_if mi_k13 (decide (x5 < 40)) 9 7 [(0, .ref 94), (1, .int x1), (2, .int 0), (3, .int 2), (4, .int x4), (5, .int x5)] [] (by rfl) (fun c => ?_) (fun c => ?_)
  ·
    have c2 : x5.toInt < (40 : Int32).toInt := kd_lt c; clear c
    refine ft_go mi_k13 2 11 [(0, .ref 94), (1, .int x1), (2, .int 0), (3, .int 2), (4, .int x4), (5, .int x5)] [.int 2, .int 0] i a q r (by rfl) ?_
    refine ko_callPI mi_k13.1 (pc := 11) (ls := [(0, .ref 94), (1, .int x1), (2, .int 0), (3, .int 2), (4, .int x4), (5, .int x5)]) (st := [.int 2, .int 0]) (h := ks i a q r) (i := (.invokestatic 39, 3, 11, 0, 9, 0, 298)) (mi_k13.2 _ _ (by rfl)) (ft_invS mi_pq11 (by rfl)) (cy := mi_c11) mi_pq11 rfl (kc11_l00_l12 hG.I hG.R ) (by decide) ?_
    intro vg3 hg3
    have z4 : vg3.toInt = 0 := hg3
    have evvg3 := kj_eq (oz236 z4) (by decide : (0 : Int32).toInt = 0)
    subst evvg3
    refine ft_go mi_k13 5 23 [(6, .int 0), (0, .ref 94), (1, .int x1), (2, .int 0), (3, .int 2), (4, .int x4), (5, .int x5)] [.int (0 * 4), .ref (mi_RO + 3)] i a q r (by rfl) ?_
    refine ko_eq (x1 := (23, [(6, .int 0), (0, .ref 94), (1, .int x1), (2, .int 0), (3, .int 2), (4, .int x4), (5, .int x5)], [.int 0, .ref (mi_RO + 3)], (0, 0), ks i a q r)) (by rw [(by decide : (0 * 4 : Int32) = 0)]) ?_
    refine ft_go mi_k13 2 25 [(6, .int 0), (0, .ref 94), (1, .int x1), (2, .int 0), (3, .int 2), (4, .int x4), (5, .int x5)] [.int (0 + 2), .ref (mi_RO + 3)] i a q r (by rfl) ?_
    refine ko_eq (x1 := (25, [(6, .int 0), (0, .ref 94), (1, .int x1), (2, .int 0), (3, .int 2), (4, .int x4), (5, .int x5)], [.int 2, .ref (mi_RO + 3)], (0, 0), ks i a q r)) (by rw [(by decide : (0 + 2 : Int32) = 2)]) ?_
    refine ko_iaro2 mi_k13.1 (l := [1, 10, 11, 2, 20, 0, 0, 0, 0, 30, 0, 0, 0, 41, 40, 0, 0, 0, 50, 0, 0, 0, 0, 60, 70, 0, 0, 0, 0, 80, 0, 81]) (n := 32) (c := 32) (ax := (0, 0, 0, 0, 0)) (mi_k13.2 _ _ (by rfl)) (by rfl) (by rfl) rfl rfl (oz256 kn2) (oz1363 kn2) ?_
    have r5 : ((0 : Int) ≤ (([1, 10, 11, 2, 20, 0, 0, 0, 0, 30, 0, 0, 0, 41, 40, 0, 0, 0, 50, 0, 0, 0, 0, 60, 70, 0, 0, 0, 0, 80, 0, 81] : List Int32).getD (2 : Int32).toNatClampNeg 0).toInt) ∧ ((([1, 10, 11, 2, 20, 0, 0, 0, 0, 30, 0, 0, 0, 41, 40, 0, 0, 0, 50, 0, 0, 0, 0, 60, 70, 0, 0, 0, 0, 80, 0, 81] : List Int32).getD (2 : Int32).toNatClampNeg 0).toInt ≤ 81) := kro_rng (lo := 0) (hi := 81) (by decide) ((2 : Int32).toNatClampNeg)
    refine ko_eq (x1 := (26, [(6, .int 0), (0, .ref 94), (1, .int x1), (2, .int 0), (3, .int 2), (4, .int x4), (5, .int x5)], [.int 11], (0, 0), ks i a q r)) (by rw [(by decide : (([1, 10, 11, 2, 20, 0, 0, 0, 0, 30, 0, 0, 0, 41, 40, 0, 0, 0, 50, 0, 0, 0, 0, 60, 70, 0, 0, 0, 0, 80, 0, 81] : List Int32).getD (2 : Int32).toNatClampNeg 0) = 11)]) ?_
    refine ft_go mi_k13 4 34 [(7, .int 11), (6, .int 0), (0, .ref 94), (1, .int x1), (2, .int 0), (3, .int 2), (4, .int x4), (5, .int x5)] [.int 24, .int (i 6019)] i a q r (by rfl) ?_
    refine ft_if mi_k13 (decide (24 ≤ (i 6019))) 48 37 [(7, .int 11), (6, .int 0), (0, .ref 94), (1, .int x1), (2, .int 0), (3, .int 2), (4, .int x4), (5, .int x5)] [] (by rfl) (fun c => ?_) (fun c => ?_)
    ·
      have c6 : (24 : Int32).toInt ≤ (i 6019).toInt := kd_le c; clear c
      have s7 : ((i 6019) + 1).toInt = (i 6019).toInt + (1 : Int32).toInt := kd_add (oz1332 c6 kn24 kn1) (oz951 fi_6019.2 kn1)
      have hJ8 := kG_i hG 6019 rfl (v := ((i 6019) + 1)) ⟨(oz1333 c6 s7 kn24 kn1), (oz1334 hp3.2 s7 kn1)⟩
      have s9 : (x5 + 1).toInt = x5.toInt + (1 : Int32).toInt := kd_add (oz12 hp2.1 kn1) (oz1335 hp2.2 kn1)
      refine ft_go mi_k13 15 72 [(7, .int 11), (6, .int 0), (0, .ref 94), (1, .int x1), (2, .int 0), (3, .int 2), (4, .int x4), (5, .int x5)] [.int (x5 + 1), .int x4, .int 2, .int x1, .ref 94] (ku i 6019 ((i 6019) + 1)) a q r (by rfl) ?_
      refine ko_callI mi_k13.1 (pc := 72) (ls := [(7, .int 11), (6, .int 0), (0, .ref 94), (1, .int x1), (2, .int 0), (3, .int 2), (4, .int x4), (5, .int x5)]) (st := [.int (x5 + 1), .int x4, .int 2, .int x1, .ref 94]) (h := ks (ku i 6019 ((i 6019) + 1)) a q r) (i := (.invokevirtual 43, 3, 14, 0, 9, 0, 301)) (mi_k13.2 _ _ (by rfl)) (ft_invS mi_pq14 (by rfl)) (cy := mi_c14) mi_pq14 rfl (kc14_94_l12_K0 hJ8.I hJ8.R x1 x4 (x5 + 1) (oz1339 hp0.1 hp0.2) (oz1337 hp1 r1.1) (oz1340 hp2.1 hp2.2 s9 kn1) (oz1341 c6 hp3.2 s7 kn24 kn1)) (by decide) ?_
      intro vg10 ig10 ag10 qg10 rg10 kg10 hg10
      have hGg10 := kG_call hJ8 kg10 (by decide +kernel)
      have fig10_6019 : ((0 : Int) ≤ (ig10 6019).toInt) ∧ ((ig10 6019).toInt ≤ 1000) := hGg10.I.1 6019
      have efig10_6019 : (ig10 6019).toInt = ((i 6019) + 1).toInt := kg10.ti 6019 rfl
      have z11 : (ig10 6019).toInt = (((i 6019) + 1).toInt + 0) := hg10
      exact ft_ret mi_k13 (by rfl) (hP vg10 _ _ _ _ hGg10 (oz1342 efig10_6019 s7 kn1))
    ·
      have c12 : (i 6019).toInt < (24 : Int32).toInt := kd_leF c; clear c
      refine ft_go mi_k13 5 47 [(7, .int 11), (6, .int 0), (0, .ref 94), (1, .int x1), (2, .int 0), (3, .int 2), (4, .int x4), (5, .int x5)] [.int 11, .int (i 6019), .ref 96] i a q r (by rfl) ?_
      refine ko_iast3 mi_k13.1 (n := 24) (c := 24) (ax := (0, 0, 0, 0, 0)) (mi_k13.2 _ _ (by rfl)) (by rfl) (ksG96 _ _ _ _) (ksA96 _ _ _ _) (hG.I.2.1 96) rfl (oz3 fi_6019.1) (oz1343 c12 kn24) ?_
      intro a13 ea13 fa13
      have hJ13 := kG_a3 hG 96 rfl ea13 fa13 (kd_bd _)
      have s14 : ((i 6019) + 1).toInt = (i 6019).toInt + (1 : Int32).toInt := kd_add (oz12 fi_6019.1 kn1) (oz951 fi_6019.2 kn1)
      have hJ15 := kG_i hJ13 6019 rfl (v := ((i 6019) + 1)) ⟨(oz14 fi_6019.1 s14 kn1), (oz1334 hp3.2 s14 kn1)⟩
      have s16 : (x5 + 1).toInt = x5.toInt + (1 : Int32).toInt := kd_add (oz12 hp2.1 kn1) (oz1335 hp2.2 kn1)
      refine ft_go mi_k13 15 72 [(7, .int 11), (6, .int 0), (0, .ref 94), (1, .int x1), (2, .int 0), (3, .int 2), (4, .int x4), (5, .int x5)] [.int (x5 + 1), .int x4, .int 2, .int x1, .ref 94] (ku i 6019 ((i 6019) + 1)) a13 q r (by rfl) ?_
      have r17 : ((0 : Int) ≤ ((a13 95).getD x1.toNatClampNeg 0).toInt) ∧ (((a13 95).getD x1.toNatClampNeg 0).toInt ≤ 7) := hJ15.I.2.2.1 95 (x1.toNatClampNeg)
      have u18 : ((a13 95).getD x1.toNatClampNeg 0).toInt = ((a 95).getD x1.toNatClampNeg 0).toInt := congrArg (fun z : List Int32 => (z.getD x1.toNatClampNeg 0).toInt) (fa13 95 (by decide))
      refine ko_callI mi_k13.1 (pc := 72) (ls := [(7, .int 11), (6, .int 0), (0, .ref 94), (1, .int x1), (2, .int 0), (3, .int 2), (4, .int x4), (5, .int x5)]) (st := [.int (x5 + 1), .int x4, .int 2, .int x1, .ref 94]) (h := ks (ku i 6019 ((i 6019) + 1)) a13 q r) (i := (.invokevirtual 43, 3, 14, 0, 9, 0, 301)) (mi_k13.2 _ _ (by rfl)) (ft_invS mi_pq14 (by rfl)) (cy := mi_c14) mi_pq14 rfl (kc14_94_l12_K0 hJ15.I hJ15.R x1 x4 (x5 + 1) (oz1339 hp0.1 hp0.2) (oz1344 hp1 r17.1 u18) (oz1340 hp2.1 hp2.2 s16 kn1) (oz1345 fi_6019.1 hp3.2 s14 kn1)) (by decide) ?_
      intro vg19 ig19 ag19 qg19 rg19 kg19 hg19
      have hGg19 := kG_call hJ15 kg19 (by decide +kernel)
      have fig19_6019 : ((0 : Int) ≤ (ig19 6019).toInt) ∧ ((ig19 6019).toInt ≤ 1000) := hGg19.I.1 6019
      have efig19_6019 : (ig19 6019).toInt = ((i 6019) + 1).toInt := kg19.ti 6019 rfl
      have z20 : (ig19 6019).toInt = (((i 6019) + 1).toInt + 0) := hg19
      exact ft_ret mi_k13 (by rfl) (hP vg19 _ _ _ _ hGg19 (oz1342 efig19_6019 s14 kn1))
  ·
    have c21 : (40 : Int32).toInt ≤ x5.toInt := kd_ltF c; clear c
    exact (oz1346 c21 hp2.2 kn40).elim
set_option maxRecDepth 100000 in
theorem kc11_l00_l13 {i : Nat → Int32} {a : Nat → List Int32} {q : Nat → List Int64} {r : Nat → Nat} (hI : kI i a q) (hr : kr r)  : km 1 11 [.int 0, .int 3] (ks i a q r) (kPI (ks i a q r) (fun v => v.toInt = 0)) := by
  have hG := kG_self kW0 hI hr
  refine km_ofPI (q := (mi_h11, mi_c11)) rfl (by decide) (Nat.le_of_ble_eq_true rfl) ?_
  intro P hP
  refine ft_go mi_k11 10 47 [(3, .int 0), (2, .int 0), (0, .int 0), (1, .int 3)] [.int 0] i a q r (by rfl) ?_
  exact ft_ret mi_k11 (by rfl) (hP 0 (oz236 kn0))
def w14_94_l13_K0 : kW := ([6019], [96], [], [])
set_option maxRecDepth 100000 in
theorem kc14_94_l13_K0 {i : Nat → Int32} {a : Nat → List Int32} {q : Nat → List Int64} {r : Nat → Nat} (hI : kI i a q) (hr : kr r) (x1 : Int32) (x3 : Int32) (x4 : Int32) (hp0 : ((0 : Int) ≤ x1.toInt) ∧ (x1.toInt ≤ 49)) (hp1 : ((a 95).getD x1.toNatClampNeg 0).toInt = 0) (hp2 : ((0 : Int) ≤ x4.toInt) ∧ ((x4.toInt + 2) ≤ 39)) (hp3 : ((0 : Int) ≤ (i 6019).toInt) ∧ (((i 6019).toInt + 3) ≤ 900)) : km 9 14 [.ref 94, .int x1, .int 3, .int x3, .int x4] (ks i a q r) (kVI w14_94_l13_K0 i a q r (fun v i1 a1 q1 r1 => (i1 6019).toInt = ((i 6019).toInt + 3))) := by
  have hG := kG_self w14_94_l13_K0 hI hr
  refine km_ofI (q := (mi_h14, mi_c14)) rfl (by decide) (Nat.le_of_ble_eq_true rfl) ?_
  intro P hP
  have r1 : ((0 : Int) ≤ ((a 95).getD x1.toNatClampNeg 0).toInt) ∧ (((a 95).getD x1.toNatClampNeg 0).toInt ≤ 7) := hG.I.2.2.1 95 (x1.toNatClampNeg)
  have fi_6019 : ((0 : Int) ≤ (i 6019).toInt) ∧ ((i 6019).toInt ≤ 1000) := hG.I.1 6019
  refine ft_go mi_k14 3 5 [(0, .ref 94), (1, .int x1), (2, .int 3), (3, .int x3), (4, .int x4)] [.int x1, .ref 95] i a q r (by rfl) ?_
  refine ko_iald3 mi_k14.1 (n := 50) (c := 50) (ax := (0, 0, 0, 0, 0)) (mi_k14.2 _ _ (by rfl)) (by rfl) (ksG95 _ _ _ _) (hG.I.2.1 95) rfl (oz3 hp0.1) (oz1336 hp0.2) ?_
  refine ko_eq (x1 := (6, [(0, .ref 94), (1, .int x1), (2, .int 3), (3, .int x3), (4, .int x4)], [.int 0], (0, 0), ks i a q r)) (by rw [(kj_eq (oz1337 hp1 r1.1) (by decide) : ((a 95).getD x1.toNatClampNeg 0) = 0)]) ?_
  refine ft_go mi_k14 9 66 [(5, .int 0), (0, .ref 94), (1, .int x1), (2, .int 3), (3, .int x3), (4, .int x4)] [.int x4, .int x3, .int 1, .int 0, .int x1, .ref 94] i a q r (by rfl) ?_
  refine ko_callI mi_k14.1 (pc := 66) (ls := [(5, .int 0), (0, .ref 94), (1, .int x1), (2, .int 3), (3, .int x3), (4, .int x4)]) (st := [.int x4, .int x3, .int 1, .int 0, .int x1, .ref 94]) (h := ks i a q r) (i := (.invokevirtual 35, 3, 13, 0, 9, 0, 297)) (mi_k14.2 _ _ (by rfl)) (ft_invS mi_pq13 (by rfl)) (cy := mi_c13) mi_pq13 rfl (kc13_94_l10_l21_K0 hG.I hG.R x1 x3 x4 (oz1339 hp0.1 hp0.2) (oz1337 hp1 r1.1) (oz1367 hp2.1 hp2.2) (oz1368 fi_6019.1 hp3.2)) (by decide) ?_
  intro vg2 ig2 ag2 qg2 rg2 kg2 hg2
  have hGg2 := kG_call hG kg2 (by decide +kernel)
  have fig2_6019 : ((0 : Int) ≤ (ig2 6019).toInt) ∧ ((ig2 6019).toInt ≤ 1000) := hGg2.I.1 6019
  have z3 : (ig2 6019).toInt = ((i 6019).toInt + 2) := hg2
  refine ft_go mi_k14 8 81 [(6, .int vg2), (5, .int 0), (0, .ref 94), (1, .int x1), (2, .int 3), (3, .int x3), (4, .int x4)] [.int x4, .int 1, .int 2, .int 0, .int x1, .ref 94, .int vg2] ig2 ag2 qg2 rg2 (by rfl) ?_
  have r4 : ((0 : Int) ≤ ((ag2 95).getD x1.toNatClampNeg 0).toInt) ∧ (((ag2 95).getD x1.toNatClampNeg 0).toInt ≤ 7) := hGg2.I.2.2.1 95 (x1.toNatClampNeg)
  have u5 : ((ag2 95).getD x1.toNatClampNeg 0).toInt = ((a 95).getD x1.toNatClampNeg 0).toInt := congrArg (fun z : List Int32 => (z.getD x1.toNatClampNeg 0).toInt) (kg2.fa 95 rfl)
  refine ko_callI mi_k14.1 (pc := 81) (ls := [(6, .int vg2), (5, .int 0), (0, .ref 94), (1, .int x1), (2, .int 3), (3, .int x3), (4, .int x4)]) (st := [.int x4, .int 1, .int 2, .int 0, .int x1, .ref 94, .int vg2]) (h := ks ig2 ag2 qg2 rg2) (i := (.invokevirtual 35, 3, 13, 0, 9, 0, 297)) (mi_k14.2 _ _ (by rfl)) (ft_invS mi_pq13 (by rfl)) (cy := mi_c13) mi_pq13 rfl (kc13_94_l10_l22_K0 hGg2.I hGg2.R x1 1 x4 (oz1339 hp0.1 hp0.2) (oz1344 hp1 r4.1 u5) (oz1369 hp2.1 hp2.2) (oz1370 fig2_6019.1 hp3.2 z3)) (by decide) ?_
  intro vg6 ig6 ag6 qg6 rg6 kg6 hg6
  have hGg6 := kG_call hGg2 kg6 (by decide +kernel)
  have fig6_6019 : ((0 : Int) ≤ (ig6 6019).toInt) ∧ ((ig6 6019).toInt ≤ 1000) := hGg6.I.1 6019
  have z7 : (ig6 6019).toInt = ((ig2 6019).toInt + 1) := hg6
  have b8 : ((-2147483648 : Int) ≤ vg2.toInt) ∧ (vg2.toInt ≤ 2147483647) := kd_bd vg2
  have b9 : ((-2147483648 : Int) ≤ vg6.toInt) ∧ (vg6.toInt ≤ 2147483647) := kd_bd vg6
  refine ft_go mi_k14 1 85 [(6, .int vg2), (5, .int 0), (0, .ref 94), (1, .int x1), (2, .int 3), (3, .int x3), (4, .int x4)] [.int (vg2 - vg6)] ig6 ag6 qg6 rg6 (by rfl) ?_
  exact ft_ret mi_k14 (by rfl) (hP (vg2 - vg6) _ _ _ _ hGg6 (oz1371 z3 z7))
def w13_94_l10_l23_K0 : kW := ([6019], [96], [], [])
set_option maxRecDepth 100000 in
theorem kc13_94_l10_l23_K0 {i : Nat → Int32} {a : Nat → List Int32} {q : Nat → List Int64} {r : Nat → Nat} (hI : kI i a q) (hr : kr r) (x1 : Int32) (x4 : Int32) (x5 : Int32) (hp0 : ((0 : Int) ≤ x1.toInt) ∧ (x1.toInt ≤ 49)) (hp1 : ((a 95).getD x1.toNatClampNeg 0).toInt = 0) (hp2 : ((0 : Int) ≤ x5.toInt) ∧ ((x5.toInt + 3) ≤ 39)) (hp3 : ((0 : Int) ≤ (i 6019).toInt) ∧ (((i 6019).toInt + 4) ≤ 900)) : km 11 13 [.ref 94, .int x1, .int 0, .int 3, .int x4, .int x5] (ks i a q r) (kVI w13_94_l10_l23_K0 i a q r (fun v i1 a1 q1 r1 => (i1 6019).toInt = ((i 6019).toInt + 4))) := by
  have hG := kG_self w13_94_l10_l23_K0 hI hr
  refine km_ofI (q := (mi_h13, mi_c13)) rfl (by decide) (Nat.le_of_ble_eq_true rfl) ?_
  intro P hP
  have r1 : ((0 : Int) ≤ ((a 95).getD x1.toNatClampNeg 0).toInt) ∧ (((a 95).getD x1.toNatClampNeg 0).toInt ≤ 7) := hG.I.2.2.1 95 (x1.toNatClampNeg)
  have fi_6019 : ((0 : Int) ≤ (i 6019).toInt) ∧ ((i 6019).toInt ≤ 1000) := hG.I.1 6019
  refine ft_go mi_k13 2 4 [(0, .ref 94), (1, .int x1), (2, .int 0), (3, .int 3), (4, .int x4), (5, .int x5)] [.int 40, .int x5] i a q r (by rfl) ?_
  refine ft_if mi_k13 (decide (x5 < 40)) 9 7 [(0, .ref 94), (1, .int x1), (2, .int 0), (3, .int 3), (4, .int x4), (5, .int x5)] [] (by rfl) (fun c => ?_) (fun c => ?_)
  ·
    have c2 : x5.toInt < (40 : Int32).toInt := kd_lt c; clear c
    refine ft_go mi_k13 2 11 [(0, .ref 94), (1, .int x1), (2, .int 0), (3, .int 3), (4, .int x4), (5, .int x5)] [.int 3, .int 0] i a q r (by rfl) ?_
    refine ko_callPI mi_k13.1 (pc := 11) (ls := [(0, .ref 94), (1, .int x1), (2, .int 0), (3, .int 3), (4, .int x4), (5, .int x5)]) (st := [.int 3, .int 0]) (h := ks i a q r) (i := (.invokestatic 39, 3, 11, 0, 9, 0, 298)) (mi_k13.2 _ _ (by rfl)) (ft_invS mi_pq11 (by rfl)) (cy := mi_c11) mi_pq11 rfl (kc11_l00_l13 hG.I hG.R ) (by decide) ?_
    intro vg3 hg3
    have z4 : vg3.toInt = 0 := hg3
    have evvg3 := kj_eq (oz236 z4) (by decide : (0 : Int32).toInt = 0)
    subst evvg3
    refine ft_go mi_k13 5 23 [(6, .int 0), (0, .ref 94), (1, .int x1), (2, .int 0), (3, .int 3), (4, .int x4), (5, .int x5)] [.int (0 * 4), .ref (mi_RO + 3)] i a q r (by rfl) ?_
    refine ko_eq (x1 := (23, [(6, .int 0), (0, .ref 94), (1, .int x1), (2, .int 0), (3, .int 3), (4, .int x4), (5, .int x5)], [.int 0, .ref (mi_RO + 3)], (0, 0), ks i a q r)) (by rw [(by decide : (0 * 4 : Int32) = 0)]) ?_
    refine ft_go mi_k13 2 25 [(6, .int 0), (0, .ref 94), (1, .int x1), (2, .int 0), (3, .int 3), (4, .int x4), (5, .int x5)] [.int (0 + 3), .ref (mi_RO + 3)] i a q r (by rfl) ?_
    refine ko_eq (x1 := (25, [(6, .int 0), (0, .ref 94), (1, .int x1), (2, .int 0), (3, .int 3), (4, .int x4), (5, .int x5)], [.int 3, .ref (mi_RO + 3)], (0, 0), ks i a q r)) (by rw [(by decide : (0 + 3 : Int32) = 3)]) ?_
    refine ko_iaro2 mi_k13.1 (l := [1, 10, 11, 2, 20, 0, 0, 0, 0, 30, 0, 0, 0, 41, 40, 0, 0, 0, 50, 0, 0, 0, 0, 60, 70, 0, 0, 0, 0, 80, 0, 81]) (n := 32) (c := 32) (ax := (0, 0, 0, 0, 0)) (mi_k13.2 _ _ (by rfl)) (by rfl) (by rfl) rfl rfl (oz260 kn3) (oz1364 kn3) ?_
    have r5 : ((0 : Int) ≤ (([1, 10, 11, 2, 20, 0, 0, 0, 0, 30, 0, 0, 0, 41, 40, 0, 0, 0, 50, 0, 0, 0, 0, 60, 70, 0, 0, 0, 0, 80, 0, 81] : List Int32).getD (3 : Int32).toNatClampNeg 0).toInt) ∧ ((([1, 10, 11, 2, 20, 0, 0, 0, 0, 30, 0, 0, 0, 41, 40, 0, 0, 0, 50, 0, 0, 0, 0, 60, 70, 0, 0, 0, 0, 80, 0, 81] : List Int32).getD (3 : Int32).toNatClampNeg 0).toInt ≤ 81) := kro_rng (lo := 0) (hi := 81) (by decide) ((3 : Int32).toNatClampNeg)
    refine ko_eq (x1 := (26, [(6, .int 0), (0, .ref 94), (1, .int x1), (2, .int 0), (3, .int 3), (4, .int x4), (5, .int x5)], [.int 2], (0, 0), ks i a q r)) (by rw [(by decide : (([1, 10, 11, 2, 20, 0, 0, 0, 0, 30, 0, 0, 0, 41, 40, 0, 0, 0, 50, 0, 0, 0, 0, 60, 70, 0, 0, 0, 0, 80, 0, 81] : List Int32).getD (3 : Int32).toNatClampNeg 0) = 2)]) ?_
    refine ft_go mi_k13 4 34 [(7, .int 2), (6, .int 0), (0, .ref 94), (1, .int x1), (2, .int 0), (3, .int 3), (4, .int x4), (5, .int x5)] [.int 24, .int (i 6019)] i a q r (by rfl) ?_
    refine ft_if mi_k13 (decide (24 ≤ (i 6019))) 48 37 [(7, .int 2), (6, .int 0), (0, .ref 94), (1, .int x1), (2, .int 0), (3, .int 3), (4, .int x4), (5, .int x5)] [] (by rfl) (fun c => ?_) (fun c => ?_)
    ·
      have c6 : (24 : Int32).toInt ≤ (i 6019).toInt := kd_le c; clear c
      have s7 : ((i 6019) + 1).toInt = (i 6019).toInt + (1 : Int32).toInt := kd_add (oz1332 c6 kn24 kn1) (oz951 fi_6019.2 kn1)
      have hJ8 := kG_i hG 6019 rfl (v := ((i 6019) + 1)) ⟨(oz1333 c6 s7 kn24 kn1), (oz1365 hp3.2 s7 kn1)⟩
      have s9 : (x5 + 1).toInt = x5.toInt + (1 : Int32).toInt := kd_add (oz12 hp2.1 kn1) (oz1366 hp2.2 kn1)
      refine ft_go mi_k13 15 72 [(7, .int 2), (6, .int 0), (0, .ref 94), (1, .int x1), (2, .int 0), (3, .int 3), (4, .int x4), (5, .int x5)] [.int (x5 + 1), .int x4, .int 3, .int x1, .ref 94] (ku i 6019 ((i 6019) + 1)) a q r (by rfl) ?_
      refine ko_callI mi_k13.1 (pc := 72) (ls := [(7, .int 2), (6, .int 0), (0, .ref 94), (1, .int x1), (2, .int 0), (3, .int 3), (4, .int x4), (5, .int x5)]) (st := [.int (x5 + 1), .int x4, .int 3, .int x1, .ref 94]) (h := ks (ku i 6019 ((i 6019) + 1)) a q r) (i := (.invokevirtual 43, 3, 14, 0, 9, 0, 301)) (mi_k13.2 _ _ (by rfl)) (ft_invS mi_pq14 (by rfl)) (cy := mi_c14) mi_pq14 rfl (kc14_94_l13_K0 hJ8.I hJ8.R x1 x4 (x5 + 1) (oz1339 hp0.1 hp0.2) (oz1337 hp1 r1.1) (oz1372 hp2.1 hp2.2 s9 kn1) (oz1373 c6 hp3.2 s7 kn24 kn1)) (by decide) ?_
      intro vg10 ig10 ag10 qg10 rg10 kg10 hg10
      have hGg10 := kG_call hJ8 kg10 (by decide +kernel)
      have fig10_6019 : ((0 : Int) ≤ (ig10 6019).toInt) ∧ ((ig10 6019).toInt ≤ 1000) := hGg10.I.1 6019
      have z11 : (ig10 6019).toInt = (((i 6019) + 1).toInt + 3) := hg10
      exact ft_ret mi_k13 (by rfl) (hP vg10 _ _ _ _ hGg10 (oz1374 s7 z11 kn1))
    ·
      have c12 : (i 6019).toInt < (24 : Int32).toInt := kd_leF c; clear c
      refine ft_go mi_k13 5 47 [(7, .int 2), (6, .int 0), (0, .ref 94), (1, .int x1), (2, .int 0), (3, .int 3), (4, .int x4), (5, .int x5)] [.int 2, .int (i 6019), .ref 96] i a q r (by rfl) ?_
      refine ko_iast3 mi_k13.1 (n := 24) (c := 24) (ax := (0, 0, 0, 0, 0)) (mi_k13.2 _ _ (by rfl)) (by rfl) (ksG96 _ _ _ _) (ksA96 _ _ _ _) (hG.I.2.1 96) rfl (oz3 fi_6019.1) (oz1343 c12 kn24) ?_
      intro a13 ea13 fa13
      have hJ13 := kG_a3 hG 96 rfl ea13 fa13 (kd_bd _)
      have s14 : ((i 6019) + 1).toInt = (i 6019).toInt + (1 : Int32).toInt := kd_add (oz12 fi_6019.1 kn1) (oz951 fi_6019.2 kn1)
      have hJ15 := kG_i hJ13 6019 rfl (v := ((i 6019) + 1)) ⟨(oz14 fi_6019.1 s14 kn1), (oz1365 hp3.2 s14 kn1)⟩
      have s16 : (x5 + 1).toInt = x5.toInt + (1 : Int32).toInt := kd_add (oz12 hp2.1 kn1) (oz1366 hp2.2 kn1)
      refine ft_go mi_k13 15 72 [(7, .int 2), (6, .int 0), (0, .ref 94), (1, .int x1), (2, .int 0), (3, .int 3), (4, .int x4), (5, .int x5)] [.int (x5 + 1), .int x4, .int 3, .int x1, .ref 94] (ku i 6019 ((i 6019) + 1)) a13 q r (by rfl) ?_
      have r17 : ((0 : Int) ≤ ((a13 95).getD x1.toNatClampNeg 0).toInt) ∧ (((a13 95).getD x1.toNatClampNeg 0).toInt ≤ 7) := hJ15.I.2.2.1 95 (x1.toNatClampNeg)
      have u18 : ((a13 95).getD x1.toNatClampNeg 0).toInt = ((a 95).getD x1.toNatClampNeg 0).toInt := congrArg (fun z : List Int32 => (z.getD x1.toNatClampNeg 0).toInt) (fa13 95 (by decide))
      refine ko_callI mi_k13.1 (pc := 72) (ls := [(7, .int 2), (6, .int 0), (0, .ref 94), (1, .int x1), (2, .int 0), (3, .int 3), (4, .int x4), (5, .int x5)]) (st := [.int (x5 + 1), .int x4, .int 3, .int x1, .ref 94]) (h := ks (ku i 6019 ((i 6019) + 1)) a13 q r) (i := (.invokevirtual 43, 3, 14, 0, 9, 0, 301)) (mi_k13.2 _ _ (by rfl)) (ft_invS mi_pq14 (by rfl)) (cy := mi_c14) mi_pq14 rfl (kc14_94_l13_K0 hJ15.I hJ15.R x1 x4 (x5 + 1) (oz1339 hp0.1 hp0.2) (oz1344 hp1 r17.1 u18) (oz1372 hp2.1 hp2.2 s16 kn1) (oz1375 fi_6019.1 hp3.2 s14 kn1)) (by decide) ?_
      intro vg19 ig19 ag19 qg19 rg19 kg19 hg19
      have hGg19 := kG_call hJ15 kg19 (by decide +kernel)
      have fig19_6019 : ((0 : Int) ≤ (ig19 6019).toInt) ∧ ((ig19 6019).toInt ≤ 1000) := hGg19.I.1 6019
      have z20 : (ig19 6019).toInt = (((i 6019) + 1).toInt + 3) := hg19
      exact ft_ret mi_k13 (by rfl) (hP vg19 _ _ _ _ hGg19 (oz1374 s14 z20 kn1))
  ·
    have c21 : (40 : Int32).toInt ≤ x5.toInt := kd_ltF c; clear c
    exact (oz1376 c21 hp2.2 kn40).elim
set_option maxRecDepth 100000 in
theorem kc11_l01_l10 {i : Nat → Int32} {a : Nat → List Int32} {q : Nat → List Int64} {r : Nat → Nat} (hI : kI i a q) (hr : kr r)  : km 1 11 [.int 1, .int 0] (ks i a q r) (kPI (ks i a q r) (fun v => v.toInt = 1)) := by
  have hG := kG_self kW0 hI hr
  refine km_ofPI (q := (mi_h11, mi_c11)) rfl (by decide) (Nat.le_of_ble_eq_true rfl) ?_
  intro P hP
  refine ft_go mi_k11 16 26 [(3, .int 0), (2, .int 1), (0, .int 1), (1, .int 0)] [.int (1 * 4), .ref (mi_RO + 3)] i a q r (by rfl) ?_
  refine ko_eq (x1 := (26, [(3, .int 0), (2, .int 1), (0, .int 1), (1, .int 0)], [.int 4, .ref (mi_RO + 3)], (0, 0), ks i a q r)) (by rw [(by decide : (1 * 4 : Int32) = 4)]) ?_
  refine ft_go mi_k11 2 28 [(3, .int 0), (2, .int 1), (0, .int 1), (1, .int 0)] [.int (4 + 0), .ref (mi_RO + 3)] i a q r (by rfl) ?_
  refine ko_eq (x1 := (28, [(3, .int 0), (2, .int 1), (0, .int 1), (1, .int 0)], [.int 4, .ref (mi_RO + 3)], (0, 0), ks i a q r)) (by rw [(by decide : (4 + 0 : Int32) = 4)]) ?_
  refine ko_iaro2 mi_k11.1 (l := [1, 10, 11, 2, 20, 0, 0, 0, 0, 30, 0, 0, 0, 41, 40, 0, 0, 0, 50, 0, 0, 0, 0, 60, 70, 0, 0, 0, 0, 80, 0, 81]) (n := 32) (c := 32) (ax := (0, 0, 0, 0, 0)) (mi_k11.2 _ _ (by rfl)) (by rfl) (by rfl) rfl rfl (oz262 kn4) (oz1380 kn4) ?_
  have r1 : ((0 : Int) ≤ (([1, 10, 11, 2, 20, 0, 0, 0, 0, 30, 0, 0, 0, 41, 40, 0, 0, 0, 50, 0, 0, 0, 0, 60, 70, 0, 0, 0, 0, 80, 0, 81] : List Int32).getD (4 : Int32).toNatClampNeg 0).toInt) ∧ ((([1, 10, 11, 2, 20, 0, 0, 0, 0, 30, 0, 0, 0, 41, 40, 0, 0, 0, 50, 0, 0, 0, 0, 60, 70, 0, 0, 0, 0, 80, 0, 81] : List Int32).getD (4 : Int32).toNatClampNeg 0).toInt ≤ 81) := kro_rng (lo := 0) (hi := 81) (by decide) ((4 : Int32).toNatClampNeg)
  refine ko_eq (x1 := (29, [(3, .int 0), (2, .int 1), (0, .int 1), (1, .int 0)], [.int 20], (0, 0), ks i a q r)) (by rw [(by decide : (([1, 10, 11, 2, 20, 0, 0, 0, 0, 30, 0, 0, 0, 41, 40, 0, 0, 0, 50, 0, 0, 0, 0, 60, 70, 0, 0, 0, 0, 80, 0, 81] : List Int32).getD (4 : Int32).toNatClampNeg 0) = 20)]) ?_
  refine ft_go mi_k11 2 33 [(3, .int 0), (2, .int 1), (0, .int 1), (1, .int 0)] [.int 1] i a q r (by rfl) ?_
  exact ft_ret mi_k11 (by rfl) (hP 1 (oz1381 kn1))
def w14_94_l10_K1 : kW := ([], [], [], [])
set_option maxRecDepth 100000 in
theorem kc14_94_l10_K1 {i : Nat → Int32} {a : Nat → List Int32} {q : Nat → List Int64} {r : Nat → Nat} (hI : kI i a q) (hr : kr r) (x1 : Int32) (x3 : Int32) (x4 : Int32) (hp0 : ((0 : Int) ≤ x1.toInt) ∧ (x1.toInt ≤ 49)) (hp1 : ((a 95).getD x1.toNatClampNeg 0).toInt = 1) (hp2 : ((0 : Int) ≤ x4.toInt) ∧ ((x4.toInt + 0) ≤ 39)) (hp3 : ((0 : Int) ≤ (i 6019).toInt) ∧ (((i 6019).toInt + 0) ≤ 900)) : km 1 14 [.ref 94, .int x1, .int 0, .int x3, .int x4] (ks i a q r) (kVI w14_94_l10_K1 i a q r (fun v i1 a1 q1 r1 => (i1 6019).toInt = ((i 6019).toInt + 0))) := by
  have hG := kG_self w14_94_l10_K1 hI hr
  refine km_ofI (q := (mi_h14, mi_c14)) rfl (by decide) (Nat.le_of_ble_eq_true rfl) ?_
  intro P hP
  have r1 : ((0 : Int) ≤ ((a 95).getD x1.toNatClampNeg 0).toInt) ∧ (((a 95).getD x1.toNatClampNeg 0).toInt ≤ 7) := hG.I.2.2.1 95 (x1.toNatClampNeg)
  have fi_6019 : ((0 : Int) ≤ (i 6019).toInt) ∧ ((i 6019).toInt ≤ 1000) := hG.I.1 6019
  refine ft_go mi_k14 3 5 [(0, .ref 94), (1, .int x1), (2, .int 0), (3, .int x3), (4, .int x4)] [.int x1, .ref 95] i a q r (by rfl) ?_
  refine ko_iald3 mi_k14.1 (n := 50) (c := 50) (ax := (0, 0, 0, 0, 0)) (mi_k14.2 _ _ (by rfl)) (by rfl) (ksG95 _ _ _ _) (hG.I.2.1 95) rfl (oz3 hp0.1) (oz1336 hp0.2) ?_
  refine ko_eq (x1 := (6, [(0, .ref 94), (1, .int x1), (2, .int 0), (3, .int x3), (4, .int x4)], [.int 1], (0, 0), ks i a q r)) (by rw [(kj_eq (oz1381 hp1) (by decide) : ((a 95).getD x1.toNatClampNeg 0) = 1)]) ?_
  have b2 : ((-2147483648 : Int) ≤ x3.toInt) ∧ (x3.toInt ≤ 2147483647) := kd_bd x3
  have b3 : ((-2147483648 : Int) ≤ x1.toInt) ∧ (x1.toInt ≤ 2147483647) := kd_bd x1
  refine ft_go mi_k14 6 39 [(5, .int 1), (0, .ref 94), (1, .int x1), (2, .int 0), (3, .int x3), (4, .int x4)] [.int (x3 + x1)] i a q r (by rfl) ?_
  exact ft_ret mi_k14 (by rfl) (hP (x3 + x1) _ _ _ _ hG oz1338)
def w13_94_l10_l20_K1 : kW := ([6019], [96], [], [])
set_option maxRecDepth 100000 in
theorem kc13_94_l10_l20_K1 {i : Nat → Int32} {a : Nat → List Int32} {q : Nat → List Int64} {r : Nat → Nat} (hI : kI i a q) (hr : kr r) (x1 : Int32) (x4 : Int32) (x5 : Int32) (hp0 : ((0 : Int) ≤ x1.toInt) ∧ (x1.toInt ≤ 49)) (hp1 : ((a 95).getD x1.toNatClampNeg 0).toInt = 1) (hp2 : ((0 : Int) ≤ x5.toInt) ∧ ((x5.toInt + 1) ≤ 39)) (hp3 : ((0 : Int) ≤ (i 6019).toInt) ∧ (((i 6019).toInt + 1) ≤ 900)) : km 3 13 [.ref 94, .int x1, .int 0, .int 0, .int x4, .int x5] (ks i a q r) (kVI w13_94_l10_l20_K1 i a q r (fun v i1 a1 q1 r1 => (i1 6019).toInt = ((i 6019).toInt + 1))) := by
  have hG := kG_self w13_94_l10_l20_K1 hI hr
  refine km_ofI (q := (mi_h13, mi_c13)) rfl (by decide) (Nat.le_of_ble_eq_true rfl) ?_
  intro P hP
  have r1 : ((0 : Int) ≤ ((a 95).getD x1.toNatClampNeg 0).toInt) ∧ (((a 95).getD x1.toNatClampNeg 0).toInt ≤ 7) := hG.I.2.2.1 95 (x1.toNatClampNeg)
  have fi_6019 : ((0 : Int) ≤ (i 6019).toInt) ∧ ((i 6019).toInt ≤ 1000) := hG.I.1 6019
  refine ft_go mi_k13 2 4 [(0, .ref 94), (1, .int x1), (2, .int 0), (3, .int 0), (4, .int x4), (5, .int x5)] [.int 40, .int x5] i a q r (by rfl) ?_
  refine ft_if mi_k13 (decide (x5 < 40)) 9 7 [(0, .ref 94), (1, .int x1), (2, .int 0), (3, .int 0), (4, .int x4), (5, .int x5)] [] (by rfl) (fun c => ?_) (fun c => ?_)
  ·
    have c2 : x5.toInt < (40 : Int32).toInt := kd_lt c; clear c
    refine ft_go mi_k13 2 11 [(0, .ref 94), (1, .int x1), (2, .int 0), (3, .int 0), (4, .int x4), (5, .int x5)] [.int 0, .int 0] i a q r (by rfl) ?_
    refine ko_callPI mi_k13.1 (pc := 11) (ls := [(0, .ref 94), (1, .int x1), (2, .int 0), (3, .int 0), (4, .int x4), (5, .int x5)]) (st := [.int 0, .int 0]) (h := ks i a q r) (i := (.invokestatic 39, 3, 11, 0, 9, 0, 298)) (mi_k13.2 _ _ (by rfl)) (ft_invS mi_pq11 (by rfl)) (cy := mi_c11) mi_pq11 rfl (kc11_l00_l10 hG.I hG.R ) (by decide) ?_
    intro vg3 hg3
    have z4 : vg3.toInt = 0 := hg3
    have evvg3 := kj_eq (oz236 z4) (by decide : (0 : Int32).toInt = 0)
    subst evvg3
    refine ft_go mi_k13 5 23 [(6, .int 0), (0, .ref 94), (1, .int x1), (2, .int 0), (3, .int 0), (4, .int x4), (5, .int x5)] [.int (0 * 4), .ref (mi_RO + 3)] i a q r (by rfl) ?_
    refine ko_eq (x1 := (23, [(6, .int 0), (0, .ref 94), (1, .int x1), (2, .int 0), (3, .int 0), (4, .int x4), (5, .int x5)], [.int 0, .ref (mi_RO + 3)], (0, 0), ks i a q r)) (by rw [(by decide : (0 * 4 : Int32) = 0)]) ?_
    refine ft_go mi_k13 2 25 [(6, .int 0), (0, .ref 94), (1, .int x1), (2, .int 0), (3, .int 0), (4, .int x4), (5, .int x5)] [.int (0 + 0), .ref (mi_RO + 3)] i a q r (by rfl) ?_
    refine ko_eq (x1 := (25, [(6, .int 0), (0, .ref 94), (1, .int x1), (2, .int 0), (3, .int 0), (4, .int x4), (5, .int x5)], [.int 0, .ref (mi_RO + 3)], (0, 0), ks i a q r)) (by rw [(by decide : (0 + 0 : Int32) = 0)]) ?_
    refine ko_iaro2 mi_k13.1 (l := [1, 10, 11, 2, 20, 0, 0, 0, 0, 30, 0, 0, 0, 41, 40, 0, 0, 0, 50, 0, 0, 0, 0, 60, 70, 0, 0, 0, 0, 80, 0, 81]) (n := 32) (c := 32) (ax := (0, 0, 0, 0, 0)) (mi_k13.2 _ _ (by rfl)) (by rfl) (by rfl) rfl rfl (oz46 kn0) (oz1228 kn0) ?_
    have r5 : ((0 : Int) ≤ (([1, 10, 11, 2, 20, 0, 0, 0, 0, 30, 0, 0, 0, 41, 40, 0, 0, 0, 50, 0, 0, 0, 0, 60, 70, 0, 0, 0, 0, 80, 0, 81] : List Int32).getD (0 : Int32).toNatClampNeg 0).toInt) ∧ ((([1, 10, 11, 2, 20, 0, 0, 0, 0, 30, 0, 0, 0, 41, 40, 0, 0, 0, 50, 0, 0, 0, 0, 60, 70, 0, 0, 0, 0, 80, 0, 81] : List Int32).getD (0 : Int32).toNatClampNeg 0).toInt ≤ 81) := kro_rng (lo := 0) (hi := 81) (by decide) ((0 : Int32).toNatClampNeg)
    refine ko_eq (x1 := (26, [(6, .int 0), (0, .ref 94), (1, .int x1), (2, .int 0), (3, .int 0), (4, .int x4), (5, .int x5)], [.int 1], (0, 0), ks i a q r)) (by rw [(by decide : (([1, 10, 11, 2, 20, 0, 0, 0, 0, 30, 0, 0, 0, 41, 40, 0, 0, 0, 50, 0, 0, 0, 0, 60, 70, 0, 0, 0, 0, 80, 0, 81] : List Int32).getD (0 : Int32).toNatClampNeg 0) = 1)]) ?_
    refine ft_go mi_k13 4 34 [(7, .int 1), (6, .int 0), (0, .ref 94), (1, .int x1), (2, .int 0), (3, .int 0), (4, .int x4), (5, .int x5)] [.int 24, .int (i 6019)] i a q r (by rfl) ?_
    refine ft_if mi_k13 (decide (24 ≤ (i 6019))) 48 37 [(7, .int 1), (6, .int 0), (0, .ref 94), (1, .int x1), (2, .int 0), (3, .int 0), (4, .int x4), (5, .int x5)] [] (by rfl) (fun c => ?_) (fun c => ?_)
    ·
      have c6 : (24 : Int32).toInt ≤ (i 6019).toInt := kd_le c; clear c
      have s7 : ((i 6019) + 1).toInt = (i 6019).toInt + (1 : Int32).toInt := kd_add (oz1332 c6 kn24 kn1) (oz951 fi_6019.2 kn1)
      have hJ8 := kG_i hG 6019 rfl (v := ((i 6019) + 1)) ⟨(oz1333 c6 s7 kn24 kn1), (oz1334 hp3.2 s7 kn1)⟩
      have s9 : (x5 + 1).toInt = x5.toInt + (1 : Int32).toInt := kd_add (oz12 hp2.1 kn1) (oz1335 hp2.2 kn1)
      refine ft_go mi_k13 15 72 [(7, .int 1), (6, .int 0), (0, .ref 94), (1, .int x1), (2, .int 0), (3, .int 0), (4, .int x4), (5, .int x5)] [.int (x5 + 1), .int x4, .int 0, .int x1, .ref 94] (ku i 6019 ((i 6019) + 1)) a q r (by rfl) ?_
      refine ko_callI mi_k13.1 (pc := 72) (ls := [(7, .int 1), (6, .int 0), (0, .ref 94), (1, .int x1), (2, .int 0), (3, .int 0), (4, .int x4), (5, .int x5)]) (st := [.int (x5 + 1), .int x4, .int 0, .int x1, .ref 94]) (h := ks (ku i 6019 ((i 6019) + 1)) a q r) (i := (.invokevirtual 43, 3, 14, 0, 9, 0, 301)) (mi_k13.2 _ _ (by rfl)) (ft_invS mi_pq14 (by rfl)) (cy := mi_c14) mi_pq14 rfl (kc14_94_l10_K1 hJ8.I hJ8.R x1 x4 (x5 + 1) (oz1339 hp0.1 hp0.2) (oz1381 hp1) (oz1340 hp2.1 hp2.2 s9 kn1) (oz1341 c6 hp3.2 s7 kn24 kn1)) (by decide) ?_
      intro vg10 ig10 ag10 qg10 rg10 kg10 hg10
      have hGg10 := kG_call hJ8 kg10 (by decide +kernel)
      have fig10_6019 : ((0 : Int) ≤ (ig10 6019).toInt) ∧ ((ig10 6019).toInt ≤ 1000) := hGg10.I.1 6019
      have efig10_6019 : (ig10 6019).toInt = ((i 6019) + 1).toInt := kg10.ti 6019 rfl
      have z11 : (ig10 6019).toInt = (((i 6019) + 1).toInt + 0) := hg10
      exact ft_ret mi_k13 (by rfl) (hP vg10 _ _ _ _ hGg10 (oz1342 efig10_6019 s7 kn1))
    ·
      have c12 : (i 6019).toInt < (24 : Int32).toInt := kd_leF c; clear c
      refine ft_go mi_k13 5 47 [(7, .int 1), (6, .int 0), (0, .ref 94), (1, .int x1), (2, .int 0), (3, .int 0), (4, .int x4), (5, .int x5)] [.int 1, .int (i 6019), .ref 96] i a q r (by rfl) ?_
      refine ko_iast3 mi_k13.1 (n := 24) (c := 24) (ax := (0, 0, 0, 0, 0)) (mi_k13.2 _ _ (by rfl)) (by rfl) (ksG96 _ _ _ _) (ksA96 _ _ _ _) (hG.I.2.1 96) rfl (oz3 fi_6019.1) (oz1343 c12 kn24) ?_
      intro a13 ea13 fa13
      have hJ13 := kG_a3 hG 96 rfl ea13 fa13 (kd_bd _)
      have s14 : ((i 6019) + 1).toInt = (i 6019).toInt + (1 : Int32).toInt := kd_add (oz12 fi_6019.1 kn1) (oz951 fi_6019.2 kn1)
      have hJ15 := kG_i hJ13 6019 rfl (v := ((i 6019) + 1)) ⟨(oz14 fi_6019.1 s14 kn1), (oz1334 hp3.2 s14 kn1)⟩
      have s16 : (x5 + 1).toInt = x5.toInt + (1 : Int32).toInt := kd_add (oz12 hp2.1 kn1) (oz1335 hp2.2 kn1)
      refine ft_go mi_k13 15 72 [(7, .int 1), (6, .int 0), (0, .ref 94), (1, .int x1), (2, .int 0), (3, .int 0), (4, .int x4), (5, .int x5)] [.int (x5 + 1), .int x4, .int 0, .int x1, .ref 94] (ku i 6019 ((i 6019) + 1)) a13 q r (by rfl) ?_
      have r17 : ((0 : Int) ≤ ((a13 95).getD x1.toNatClampNeg 0).toInt) ∧ (((a13 95).getD x1.toNatClampNeg 0).toInt ≤ 7) := hJ15.I.2.2.1 95 (x1.toNatClampNeg)
      have u18 : ((a13 95).getD x1.toNatClampNeg 0).toInt = ((a 95).getD x1.toNatClampNeg 0).toInt := congrArg (fun z : List Int32 => (z.getD x1.toNatClampNeg 0).toInt) (fa13 95 (by decide))
      refine ko_callI mi_k13.1 (pc := 72) (ls := [(7, .int 1), (6, .int 0), (0, .ref 94), (1, .int x1), (2, .int 0), (3, .int 0), (4, .int x4), (5, .int x5)]) (st := [.int (x5 + 1), .int x4, .int 0, .int x1, .ref 94]) (h := ks (ku i 6019 ((i 6019) + 1)) a13 q r) (i := (.invokevirtual 43, 3, 14, 0, 9, 0, 301)) (mi_k13.2 _ _ (by rfl)) (ft_invS mi_pq14 (by rfl)) (cy := mi_c14) mi_pq14 rfl (kc14_94_l10_K1 hJ15.I hJ15.R x1 x4 (x5 + 1) (oz1339 hp0.1 hp0.2) (oz1383 hp1 u18) (oz1340 hp2.1 hp2.2 s16 kn1) (oz1345 fi_6019.1 hp3.2 s14 kn1)) (by decide) ?_
      intro vg19 ig19 ag19 qg19 rg19 kg19 hg19
      have hGg19 := kG_call hJ15 kg19 (by decide +kernel)
      have fig19_6019 : ((0 : Int) ≤ (ig19 6019).toInt) ∧ ((ig19 6019).toInt ≤ 1000) := hGg19.I.1 6019
      have efig19_6019 : (ig19 6019).toInt = ((i 6019) + 1).toInt := kg19.ti 6019 rfl
      have z20 : (ig19 6019).toInt = (((i 6019) + 1).toInt + 0) := hg19
      exact ft_ret mi_k13 (by rfl) (hP vg19 _ _ _ _ hGg19 (oz1342 efig19_6019 s14 kn1))
  ·
    have c21 : (40 : Int32).toInt ≤ x5.toInt := kd_ltF c; clear c
    exact (oz1346 c21 hp2.2 kn40).elim
def w13_94_l11_l20_K1 : kW := ([6019], [96], [], [])
set_option maxRecDepth 100000 in
theorem kc13_94_l11_l20_K1 {i : Nat → Int32} {a : Nat → List Int32} {q : Nat → List Int64} {r : Nat → Nat} (hI : kI i a q) (hr : kr r) (x1 : Int32) (x4 : Int32) (x5 : Int32) (hp0 : ((0 : Int) ≤ x1.toInt) ∧ (x1.toInt ≤ 49)) (hp1 : ((a 95).getD x1.toNatClampNeg 0).toInt = 1) (hp2 : ((0 : Int) ≤ x5.toInt) ∧ ((x5.toInt + 2) ≤ 39)) (hp3 : ((0 : Int) ≤ (i 6019).toInt) ∧ (((i 6019).toInt + 2) ≤ 900)) : km 5 13 [.ref 94, .int x1, .int 1, .int 0, .int x4, .int x5] (ks i a q r) (kVI w13_94_l11_l20_K1 i a q r (fun v i1 a1 q1 r1 => (i1 6019).toInt = ((i 6019).toInt + 2))) := by
  have hG := kG_self w13_94_l11_l20_K1 hI hr
  refine km_ofI (q := (mi_h13, mi_c13)) rfl (by decide) (Nat.le_of_ble_eq_true rfl) ?_
  intro P hP
  have r1 : ((0 : Int) ≤ ((a 95).getD x1.toNatClampNeg 0).toInt) ∧ (((a 95).getD x1.toNatClampNeg 0).toInt ≤ 7) := hG.I.2.2.1 95 (x1.toNatClampNeg)
  have fi_6019 : ((0 : Int) ≤ (i 6019).toInt) ∧ ((i 6019).toInt ≤ 1000) := hG.I.1 6019
  refine ft_go mi_k13 2 4 [(0, .ref 94), (1, .int x1), (2, .int 1), (3, .int 0), (4, .int x4), (5, .int x5)] [.int 40, .int x5] i a q r (by rfl) ?_
  refine ft_if mi_k13 (decide (x5 < 40)) 9 7 [(0, .ref 94), (1, .int x1), (2, .int 1), (3, .int 0), (4, .int x4), (5, .int x5)] [] (by rfl) (fun c => ?_) (fun c => ?_)
  ·
    have c2 : x5.toInt < (40 : Int32).toInt := kd_lt c; clear c
    refine ft_go mi_k13 2 11 [(0, .ref 94), (1, .int x1), (2, .int 1), (3, .int 0), (4, .int x4), (5, .int x5)] [.int 0, .int 1] i a q r (by rfl) ?_
    refine ko_callPI mi_k13.1 (pc := 11) (ls := [(0, .ref 94), (1, .int x1), (2, .int 1), (3, .int 0), (4, .int x4), (5, .int x5)]) (st := [.int 0, .int 1]) (h := ks i a q r) (i := (.invokestatic 39, 3, 11, 0, 9, 0, 298)) (mi_k13.2 _ _ (by rfl)) (ft_invS mi_pq11 (by rfl)) (cy := mi_c11) mi_pq11 rfl (kc11_l01_l10 hG.I hG.R ) (by decide) ?_
    intro vg3 hg3
    have z4 : vg3.toInt = 1 := hg3
    have evvg3 := kj_eq (oz1381 z4) (by decide : (1 : Int32).toInt = 1)
    subst evvg3
    refine ft_go mi_k13 5 23 [(6, .int 1), (0, .ref 94), (1, .int x1), (2, .int 1), (3, .int 0), (4, .int x4), (5, .int x5)] [.int (1 * 4), .ref (mi_RO + 3)] i a q r (by rfl) ?_
    refine ko_eq (x1 := (23, [(6, .int 1), (0, .ref 94), (1, .int x1), (2, .int 1), (3, .int 0), (4, .int x4), (5, .int x5)], [.int 4, .ref (mi_RO + 3)], (0, 0), ks i a q r)) (by rw [(by decide : (1 * 4 : Int32) = 4)]) ?_
    refine ft_go mi_k13 2 25 [(6, .int 1), (0, .ref 94), (1, .int x1), (2, .int 1), (3, .int 0), (4, .int x4), (5, .int x5)] [.int (4 + 0), .ref (mi_RO + 3)] i a q r (by rfl) ?_
    refine ko_eq (x1 := (25, [(6, .int 1), (0, .ref 94), (1, .int x1), (2, .int 1), (3, .int 0), (4, .int x4), (5, .int x5)], [.int 4, .ref (mi_RO + 3)], (0, 0), ks i a q r)) (by rw [(by decide : (4 + 0 : Int32) = 4)]) ?_
    refine ko_iaro2 mi_k13.1 (l := [1, 10, 11, 2, 20, 0, 0, 0, 0, 30, 0, 0, 0, 41, 40, 0, 0, 0, 50, 0, 0, 0, 0, 60, 70, 0, 0, 0, 0, 80, 0, 81]) (n := 32) (c := 32) (ax := (0, 0, 0, 0, 0)) (mi_k13.2 _ _ (by rfl)) (by rfl) (by rfl) rfl rfl (oz262 kn4) (oz1380 kn4) ?_
    have r5 : ((0 : Int) ≤ (([1, 10, 11, 2, 20, 0, 0, 0, 0, 30, 0, 0, 0, 41, 40, 0, 0, 0, 50, 0, 0, 0, 0, 60, 70, 0, 0, 0, 0, 80, 0, 81] : List Int32).getD (4 : Int32).toNatClampNeg 0).toInt) ∧ ((([1, 10, 11, 2, 20, 0, 0, 0, 0, 30, 0, 0, 0, 41, 40, 0, 0, 0, 50, 0, 0, 0, 0, 60, 70, 0, 0, 0, 0, 80, 0, 81] : List Int32).getD (4 : Int32).toNatClampNeg 0).toInt ≤ 81) := kro_rng (lo := 0) (hi := 81) (by decide) ((4 : Int32).toNatClampNeg)
    refine ko_eq (x1 := (26, [(6, .int 1), (0, .ref 94), (1, .int x1), (2, .int 1), (3, .int 0), (4, .int x4), (5, .int x5)], [.int 20], (0, 0), ks i a q r)) (by rw [(by decide : (([1, 10, 11, 2, 20, 0, 0, 0, 0, 30, 0, 0, 0, 41, 40, 0, 0, 0, 50, 0, 0, 0, 0, 60, 70, 0, 0, 0, 0, 80, 0, 81] : List Int32).getD (4 : Int32).toNatClampNeg 0) = 20)]) ?_
    refine ft_go mi_k13 4 34 [(7, .int 20), (6, .int 1), (0, .ref 94), (1, .int x1), (2, .int 1), (3, .int 0), (4, .int x4), (5, .int x5)] [.int 24, .int (i 6019)] i a q r (by rfl) ?_
    refine ft_if mi_k13 (decide (24 ≤ (i 6019))) 48 37 [(7, .int 20), (6, .int 1), (0, .ref 94), (1, .int x1), (2, .int 1), (3, .int 0), (4, .int x4), (5, .int x5)] [] (by rfl) (fun c => ?_) (fun c => ?_)
    ·
      have c6 : (24 : Int32).toInt ≤ (i 6019).toInt := kd_le c; clear c
      have s7 : ((i 6019) + 1).toInt = (i 6019).toInt + (1 : Int32).toInt := kd_add (oz1332 c6 kn24 kn1) (oz951 fi_6019.2 kn1)
      have hJ8 := kG_i hG 6019 rfl (v := ((i 6019) + 1)) ⟨(oz1333 c6 s7 kn24 kn1), (oz1351 hp3.2 s7 kn1)⟩
      refine ft_go mi_k13 12 83 [(7, .int 20), (6, .int 1), (0, .ref 94), (1, .int x1), (2, .int 1), (3, .int 0), (4, .int x4), (5, .int x5)] [.int 1, .ref (mi_RO + 4), .int x1, .ref 94] (ku i 6019 ((i 6019) + 1)) a q r (by rfl) ?_
      refine ko_iaro2 mi_k13.1 (l := [(-1), 0, 0, 2, 1, 3, 0, 4]) (n := 8) (c := 8) (ax := (0, 0, 0, 0, 0)) (mi_k13.2 _ _ (by rfl)) (by rfl) (by rfl) rfl rfl (oz246 kn1) (oz1382 kn1) ?_
      have r9 : ((-1 : Int) ≤ (([(-1), 0, 0, 2, 1, 3, 0, 4] : List Int32).getD (1 : Int32).toNatClampNeg 0).toInt) ∧ ((([(-1), 0, 0, 2, 1, 3, 0, 4] : List Int32).getD (1 : Int32).toNatClampNeg 0).toInt ≤ 4) := kro_rng (lo := -1) (hi := 4) (by decide) ((1 : Int32).toNatClampNeg)
      refine ko_eq (x1 := (84, [(7, .int 20), (6, .int 1), (0, .ref 94), (1, .int x1), (2, .int 1), (3, .int 0), (4, .int x4), (5, .int x5)], [.int 0, .int x1, .ref 94], (0, 0), ks (ku i 6019 ((i 6019) + 1)) a q r)) (by rw [(by decide : (([(-1), 0, 0, 2, 1, 3, 0, 4] : List Int32).getD (1 : Int32).toNatClampNeg 0) = 0)]) ?_
      have s10 : (x5 + 1).toInt = x5.toInt + (1 : Int32).toInt := kd_add (oz12 hp2.1 kn1) (oz1352 hp2.2 kn1)
      refine ft_go mi_k13 8 105 [(7, .int 20), (6, .int 1), (0, .ref 94), (1, .int x1), (2, .int 1), (3, .int 0), (4, .int x4), (5, .int x5)] [.int (x5 + 1), .int x4, .int 0, .int 0, .int x1, .ref 94] (ku i 6019 ((i 6019) + 1)) a q r (by rfl) ?_
      refine ko_callI mi_k13.1 (pc := 105) (ls := [(7, .int 20), (6, .int 1), (0, .ref 94), (1, .int x1), (2, .int 1), (3, .int 0), (4, .int x4), (5, .int x5)]) (st := [.int (x5 + 1), .int x4, .int 0, .int 0, .int x1, .ref 94]) (h := ks (ku i 6019 ((i 6019) + 1)) a q r) (i := (.invokevirtual 35, 3, 13, 0, 9, 0, 297)) (mi_k13.2 _ _ (by rfl)) (ft_invS mi_pq13 (by rfl)) (cy := mi_c13) mi_pq13 rfl (kc13_94_l10_l20_K1 hJ8.I hJ8.R x1 x4 (x5 + 1) (oz1339 hp0.1 hp0.2) (oz1381 hp1) (oz1356 hp2.1 hp2.2 s10 kn1) (oz1357 c6 hp3.2 s7 kn24 kn1)) (by decide) ?_
      intro vg11 ig11 ag11 qg11 rg11 kg11 hg11
      have hGg11 := kG_call hJ8 kg11 (by decide +kernel)
      have fig11_6019 : ((0 : Int) ≤ (ig11 6019).toInt) ∧ ((ig11 6019).toInt ≤ 1000) := hGg11.I.1 6019
      have z12 : (ig11 6019).toInt = (((i 6019) + 1).toInt + 1) := hg11
      have b13 : ((-2147483648 : Int) ≤ vg11.toInt) ∧ (vg11.toInt ≤ 2147483647) := kd_bd vg11
      refine ft_go mi_k13 6 192 [(8, .int vg11), (7, .int 20), (6, .int 1), (0, .ref 94), (1, .int x1), (2, .int 1), (3, .int 0), (4, .int x4), (5, .int x5)] [.int (vg11 + 3)] ig11 ag11 qg11 rg11 (by rfl) ?_
      exact ft_ret mi_k13 (by rfl) (hP (vg11 + 3) _ _ _ _ hGg11 (oz1358 s7 z12 kn1))
    ·
      have c14 : (i 6019).toInt < (24 : Int32).toInt := kd_leF c; clear c
      refine ft_go mi_k13 5 47 [(7, .int 20), (6, .int 1), (0, .ref 94), (1, .int x1), (2, .int 1), (3, .int 0), (4, .int x4), (5, .int x5)] [.int 20, .int (i 6019), .ref 96] i a q r (by rfl) ?_
      refine ko_iast3 mi_k13.1 (n := 24) (c := 24) (ax := (0, 0, 0, 0, 0)) (mi_k13.2 _ _ (by rfl)) (by rfl) (ksG96 _ _ _ _) (ksA96 _ _ _ _) (hG.I.2.1 96) rfl (oz3 fi_6019.1) (oz1343 c14 kn24) ?_
      intro a15 ea15 fa15
      have hJ15 := kG_a3 hG 96 rfl ea15 fa15 (kd_bd _)
      have s16 : ((i 6019) + 1).toInt = (i 6019).toInt + (1 : Int32).toInt := kd_add (oz12 fi_6019.1 kn1) (oz951 fi_6019.2 kn1)
      have hJ17 := kG_i hJ15 6019 rfl (v := ((i 6019) + 1)) ⟨(oz14 fi_6019.1 s16 kn1), (oz1351 hp3.2 s16 kn1)⟩
      refine ft_go mi_k13 12 83 [(7, .int 20), (6, .int 1), (0, .ref 94), (1, .int x1), (2, .int 1), (3, .int 0), (4, .int x4), (5, .int x5)] [.int 1, .ref (mi_RO + 4), .int x1, .ref 94] (ku i 6019 ((i 6019) + 1)) a15 q r (by rfl) ?_
      refine ko_iaro2 mi_k13.1 (l := [(-1), 0, 0, 2, 1, 3, 0, 4]) (n := 8) (c := 8) (ax := (0, 0, 0, 0, 0)) (mi_k13.2 _ _ (by rfl)) (by rfl) (by rfl) rfl rfl (oz246 kn1) (oz1382 kn1) ?_
      have r18 : ((-1 : Int) ≤ (([(-1), 0, 0, 2, 1, 3, 0, 4] : List Int32).getD (1 : Int32).toNatClampNeg 0).toInt) ∧ ((([(-1), 0, 0, 2, 1, 3, 0, 4] : List Int32).getD (1 : Int32).toNatClampNeg 0).toInt ≤ 4) := kro_rng (lo := -1) (hi := 4) (by decide) ((1 : Int32).toNatClampNeg)
      refine ko_eq (x1 := (84, [(7, .int 20), (6, .int 1), (0, .ref 94), (1, .int x1), (2, .int 1), (3, .int 0), (4, .int x4), (5, .int x5)], [.int 0, .int x1, .ref 94], (0, 0), ks (ku i 6019 ((i 6019) + 1)) a15 q r)) (by rw [(by decide : (([(-1), 0, 0, 2, 1, 3, 0, 4] : List Int32).getD (1 : Int32).toNatClampNeg 0) = 0)]) ?_
      have s19 : (x5 + 1).toInt = x5.toInt + (1 : Int32).toInt := kd_add (oz12 hp2.1 kn1) (oz1352 hp2.2 kn1)
      refine ft_go mi_k13 8 105 [(7, .int 20), (6, .int 1), (0, .ref 94), (1, .int x1), (2, .int 1), (3, .int 0), (4, .int x4), (5, .int x5)] [.int (x5 + 1), .int x4, .int 0, .int 0, .int x1, .ref 94] (ku i 6019 ((i 6019) + 1)) a15 q r (by rfl) ?_
      have r20 : ((0 : Int) ≤ ((a15 95).getD x1.toNatClampNeg 0).toInt) ∧ (((a15 95).getD x1.toNatClampNeg 0).toInt ≤ 7) := hJ17.I.2.2.1 95 (x1.toNatClampNeg)
      have u21 : ((a15 95).getD x1.toNatClampNeg 0).toInt = ((a 95).getD x1.toNatClampNeg 0).toInt := congrArg (fun z : List Int32 => (z.getD x1.toNatClampNeg 0).toInt) (fa15 95 (by decide))
      refine ko_callI mi_k13.1 (pc := 105) (ls := [(7, .int 20), (6, .int 1), (0, .ref 94), (1, .int x1), (2, .int 1), (3, .int 0), (4, .int x4), (5, .int x5)]) (st := [.int (x5 + 1), .int x4, .int 0, .int 0, .int x1, .ref 94]) (h := ks (ku i 6019 ((i 6019) + 1)) a15 q r) (i := (.invokevirtual 35, 3, 13, 0, 9, 0, 297)) (mi_k13.2 _ _ (by rfl)) (ft_invS mi_pq13 (by rfl)) (cy := mi_c13) mi_pq13 rfl (kc13_94_l10_l20_K1 hJ17.I hJ17.R x1 x4 (x5 + 1) (oz1339 hp0.1 hp0.2) (oz1383 hp1 u21) (oz1356 hp2.1 hp2.2 s19 kn1) (oz1359 fi_6019.1 hp3.2 s16 kn1)) (by decide) ?_
      intro vg22 ig22 ag22 qg22 rg22 kg22 hg22
      have hGg22 := kG_call hJ17 kg22 (by decide +kernel)
      have fig22_6019 : ((0 : Int) ≤ (ig22 6019).toInt) ∧ ((ig22 6019).toInt ≤ 1000) := hGg22.I.1 6019
      have z23 : (ig22 6019).toInt = (((i 6019) + 1).toInt + 1) := hg22
      have b24 : ((-2147483648 : Int) ≤ vg22.toInt) ∧ (vg22.toInt ≤ 2147483647) := kd_bd vg22
      refine ft_go mi_k13 6 192 [(8, .int vg22), (7, .int 20), (6, .int 1), (0, .ref 94), (1, .int x1), (2, .int 1), (3, .int 0), (4, .int x4), (5, .int x5)] [.int (vg22 + 3)] ig22 ag22 qg22 rg22 (by rfl) ?_
      exact ft_ret mi_k13 (by rfl) (hP (vg22 + 3) _ _ _ _ hGg22 (oz1358 s16 z23 kn1))
  ·
    have c25 : (40 : Int32).toInt ≤ x5.toInt := kd_ltF c; clear c
    exact (oz1360 c25 hp2.2 kn40).elim
set_option maxRecDepth 100000 in
theorem kc11_l01_l11 {i : Nat → Int32} {a : Nat → List Int32} {q : Nat → List Int64} {r : Nat → Nat} (hI : kI i a q) (hr : kr r)  : km 1 11 [.int 1, .int 1] (ks i a q r) (kPI (ks i a q r) (fun v => v.toInt = 0)) := by
  have hG := kG_self kW0 hI hr
  refine km_ofPI (q := (mi_h11, mi_c11)) rfl (by decide) (Nat.le_of_ble_eq_true rfl) ?_
  intro P hP
  refine ft_go mi_k11 16 26 [(3, .int 0), (2, .int 1), (0, .int 1), (1, .int 1)] [.int (1 * 4), .ref (mi_RO + 3)] i a q r (by rfl) ?_
  refine ko_eq (x1 := (26, [(3, .int 0), (2, .int 1), (0, .int 1), (1, .int 1)], [.int 4, .ref (mi_RO + 3)], (0, 0), ks i a q r)) (by rw [(by decide : (1 * 4 : Int32) = 4)]) ?_
  refine ft_go mi_k11 2 28 [(3, .int 0), (2, .int 1), (0, .int 1), (1, .int 1)] [.int (4 + 1), .ref (mi_RO + 3)] i a q r (by rfl) ?_
  refine ko_eq (x1 := (28, [(3, .int 0), (2, .int 1), (0, .int 1), (1, .int 1)], [.int 5, .ref (mi_RO + 3)], (0, 0), ks i a q r)) (by rw [(by decide : (4 + 1 : Int32) = 5)]) ?_
  refine ko_iaro2 mi_k11.1 (l := [1, 10, 11, 2, 20, 0, 0, 0, 0, 30, 0, 0, 0, 41, 40, 0, 0, 0, 50, 0, 0, 0, 0, 60, 70, 0, 0, 0, 0, 80, 0, 81]) (n := 32) (c := 32) (ax := (0, 0, 0, 0, 0)) (mi_k11.2 _ _ (by rfl)) (by rfl) (by rfl) rfl rfl (oz264 kn5) (oz1384 kn5) ?_
  have r1 : ((0 : Int) ≤ (([1, 10, 11, 2, 20, 0, 0, 0, 0, 30, 0, 0, 0, 41, 40, 0, 0, 0, 50, 0, 0, 0, 0, 60, 70, 0, 0, 0, 0, 80, 0, 81] : List Int32).getD (5 : Int32).toNatClampNeg 0).toInt) ∧ ((([1, 10, 11, 2, 20, 0, 0, 0, 0, 30, 0, 0, 0, 41, 40, 0, 0, 0, 50, 0, 0, 0, 0, 60, 70, 0, 0, 0, 0, 80, 0, 81] : List Int32).getD (5 : Int32).toNatClampNeg 0).toInt ≤ 81) := kro_rng (lo := 0) (hi := 81) (by decide) ((5 : Int32).toNatClampNeg)
  refine ko_eq (x1 := (29, [(3, .int 0), (2, .int 1), (0, .int 1), (1, .int 1)], [.int 0], (0, 0), ks i a q r)) (by rw [(by decide : (([1, 10, 11, 2, 20, 0, 0, 0, 0, 30, 0, 0, 0, 41, 40, 0, 0, 0, 50, 0, 0, 0, 0, 60, 70, 0, 0, 0, 0, 80, 0, 81] : List Int32).getD (5 : Int32).toNatClampNeg 0) = 0)]) ?_
  refine ft_go mi_k11 3 38 [(3, .int 0), (2, .int 1), (0, .int 1), (1, .int 1)] [.int 1, .ref (mi_RO + 4)] i a q r (by rfl) ?_
  refine ko_iaro2 mi_k11.1 (l := [(-1), 0, 0, 2, 1, 3, 0, 4]) (n := 8) (c := 8) (ax := (0, 0, 0, 0, 0)) (mi_k11.2 _ _ (by rfl)) (by rfl) (by rfl) rfl rfl (oz246 kn1) (oz1382 kn1) ?_
  have r2 : ((-1 : Int) ≤ (([(-1), 0, 0, 2, 1, 3, 0, 4] : List Int32).getD (1 : Int32).toNatClampNeg 0).toInt) ∧ ((([(-1), 0, 0, 2, 1, 3, 0, 4] : List Int32).getD (1 : Int32).toNatClampNeg 0).toInt ≤ 4) := kro_rng (lo := -1) (hi := 4) (by decide) ((1 : Int32).toNatClampNeg)
  refine ko_eq (x1 := (39, [(3, .int 0), (2, .int 1), (0, .int 1), (1, .int 1)], [.int 0], (0, 0), ks i a q r)) (by rw [(by decide : (([(-1), 0, 0, 2, 1, 3, 0, 4] : List Int32).getD (1 : Int32).toNatClampNeg 0) = 0)]) ?_
  refine ft_go mi_k11 2 43 [(3, .int (0 + 1)), (2, .int 0), (0, .int 1), (1, .int 1)] [] i a q r (by rfl) ?_
  refine ko_eq (x1 := (43, [(3, .int 1), (2, .int 0), (0, .int 1), (1, .int 1)], [], (0, 0), ks i a q r)) (by rw [(by decide : (0 + 1 : Int32) = 1)]) ?_
  refine ft_go mi_k11 7 47 [(3, .int 1), (2, .int 0), (0, .int 1), (1, .int 1)] [.int 0] i a q r (by rfl) ?_
  exact ft_ret mi_k11 (by rfl) (hP 0 (oz236 kn0))
def w14_94_l11_K1 : kW := ([6019], [96], [], [])
set_option maxRecDepth 100000 in
theorem kc14_94_l11_K1 {i : Nat → Int32} {a : Nat → List Int32} {q : Nat → List Int64} {r : Nat → Nat} (hI : kI i a q) (hr : kr r) (x1 : Int32) (x3 : Int32) (x4 : Int32) (hp0 : ((0 : Int) ≤ x1.toInt) ∧ (x1.toInt ≤ 49)) (hp1 : ((a 95).getD x1.toNatClampNeg 0).toInt = 1) (hp2 : ((0 : Int) ≤ x4.toInt) ∧ ((x4.toInt + 2) ≤ 39)) (hp3 : ((0 : Int) ≤ (i 6019).toInt) ∧ (((i 6019).toInt + 2) ≤ 900)) : km 7 14 [.ref 94, .int x1, .int 1, .int x3, .int x4] (ks i a q r) (kVI w14_94_l11_K1 i a q r (fun v i1 a1 q1 r1 => (i1 6019).toInt = ((i 6019).toInt + 2))) := by
  have hG := kG_self w14_94_l11_K1 hI hr
  refine km_ofI (q := (mi_h14, mi_c14)) rfl (by decide) (Nat.le_of_ble_eq_true rfl) ?_
  intro P hP
  have r1 : ((0 : Int) ≤ ((a 95).getD x1.toNatClampNeg 0).toInt) ∧ (((a 95).getD x1.toNatClampNeg 0).toInt ≤ 7) := hG.I.2.2.1 95 (x1.toNatClampNeg)
  have fi_6019 : ((0 : Int) ≤ (i 6019).toInt) ∧ ((i 6019).toInt ≤ 1000) := hG.I.1 6019
  refine ft_go mi_k14 3 5 [(0, .ref 94), (1, .int x1), (2, .int 1), (3, .int x3), (4, .int x4)] [.int x1, .ref 95] i a q r (by rfl) ?_
  refine ko_iald3 mi_k14.1 (n := 50) (c := 50) (ax := (0, 0, 0, 0, 0)) (mi_k14.2 _ _ (by rfl)) (by rfl) (ksG95 _ _ _ _) (hG.I.2.1 95) rfl (oz3 hp0.1) (oz1336 hp0.2) ?_
  refine ko_eq (x1 := (6, [(0, .ref 94), (1, .int x1), (2, .int 1), (3, .int x3), (4, .int x4)], [.int 1], (0, 0), ks i a q r)) (by rw [(kj_eq (oz1381 hp1) (by decide) : ((a 95).getD x1.toNatClampNeg 0) = 1)]) ?_
  refine ft_go mi_k14 9 48 [(5, .int 1), (0, .ref 94), (1, .int x1), (2, .int 1), (3, .int x3), (4, .int x4)] [.int x4, .int x3, .int 0, .int 1, .int x1, .ref 94] i a q r (by rfl) ?_
  refine ko_callI mi_k14.1 (pc := 48) (ls := [(5, .int 1), (0, .ref 94), (1, .int x1), (2, .int 1), (3, .int x3), (4, .int x4)]) (st := [.int x4, .int x3, .int 0, .int 1, .int x1, .ref 94]) (h := ks i a q r) (i := (.invokevirtual 35, 3, 13, 0, 9, 0, 297)) (mi_k14.2 _ _ (by rfl)) (ft_invS mi_pq13 (by rfl)) (cy := mi_c13) mi_pq13 rfl (kc13_94_l11_l20_K1 hG.I hG.R x1 x3 x4 (oz1339 hp0.1 hp0.2) (oz1381 hp1) (oz1367 hp2.1 hp2.2) (oz1386 fi_6019.1 hp3.2)) (by decide) ?_
  intro vg2 ig2 ag2 qg2 rg2 kg2 hg2
  have hGg2 := kG_call hG kg2 (by decide +kernel)
  have fig2_6019 : ((0 : Int) ≤ (ig2 6019).toInt) ∧ ((ig2 6019).toInt ≤ 1000) := hGg2.I.1 6019
  have z3 : (ig2 6019).toInt = ((i 6019).toInt + 2) := hg2
  have b4 : ((-2147483648 : Int) ≤ vg2.toInt) ∧ (vg2.toInt ≤ 2147483647) := kd_bd vg2
  refine ft_go mi_k14 2 53 [(5, .int 1), (0, .ref 94), (1, .int x1), (2, .int 1), (3, .int x3), (4, .int x4)] [.int (vg2 * 2)] ig2 ag2 qg2 rg2 (by rfl) ?_
  exact ft_ret mi_k14 (by rfl) (hP (vg2 * 2) _ _ _ _ hGg2 (oz1387 z3))
def w13_94_l11_l21_K1 : kW := ([6019], [96], [], [])
set_option maxRecDepth 100000 in
theorem kc13_94_l11_l21_K1 {i : Nat → Int32} {a : Nat → List Int32} {q : Nat → List Int64} {r : Nat → Nat} (hI : kI i a q) (hr : kr r) (x1 : Int32) (x4 : Int32) (x5 : Int32) (hp0 : ((0 : Int) ≤ x1.toInt) ∧ (x1.toInt ≤ 49)) (hp1 : ((a 95).getD x1.toNatClampNeg 0).toInt = 1) (hp2 : ((0 : Int) ≤ x5.toInt) ∧ ((x5.toInt + 3) ≤ 39)) (hp3 : ((0 : Int) ≤ (i 6019).toInt) ∧ (((i 6019).toInt + 3) ≤ 900)) : km 9 13 [.ref 94, .int x1, .int 1, .int 1, .int x4, .int x5] (ks i a q r) (kVI w13_94_l11_l21_K1 i a q r (fun v i1 a1 q1 r1 => (i1 6019).toInt = ((i 6019).toInt + 3))) := by
  have hG := kG_self w13_94_l11_l21_K1 hI hr
  refine km_ofI (q := (mi_h13, mi_c13)) rfl (by decide) (Nat.le_of_ble_eq_true rfl) ?_
  intro P hP
  have r1 : ((0 : Int) ≤ ((a 95).getD x1.toNatClampNeg 0).toInt) ∧ (((a 95).getD x1.toNatClampNeg 0).toInt ≤ 7) := hG.I.2.2.1 95 (x1.toNatClampNeg)
  have fi_6019 : ((0 : Int) ≤ (i 6019).toInt) ∧ ((i 6019).toInt ≤ 1000) := hG.I.1 6019
  refine ft_go mi_k13 2 4 [(0, .ref 94), (1, .int x1), (2, .int 1), (3, .int 1), (4, .int x4), (5, .int x5)] [.int 40, .int x5] i a q r (by rfl) ?_
  refine ft_if mi_k13 (decide (x5 < 40)) 9 7 [(0, .ref 94), (1, .int x1), (2, .int 1), (3, .int 1), (4, .int x4), (5, .int x5)] [] (by rfl) (fun c => ?_) (fun c => ?_)
  ·
    have c2 : x5.toInt < (40 : Int32).toInt := kd_lt c; clear c
    refine ft_go mi_k13 2 11 [(0, .ref 94), (1, .int x1), (2, .int 1), (3, .int 1), (4, .int x4), (5, .int x5)] [.int 1, .int 1] i a q r (by rfl) ?_
    refine ko_callPI mi_k13.1 (pc := 11) (ls := [(0, .ref 94), (1, .int x1), (2, .int 1), (3, .int 1), (4, .int x4), (5, .int x5)]) (st := [.int 1, .int 1]) (h := ks i a q r) (i := (.invokestatic 39, 3, 11, 0, 9, 0, 298)) (mi_k13.2 _ _ (by rfl)) (ft_invS mi_pq11 (by rfl)) (cy := mi_c11) mi_pq11 rfl (kc11_l01_l11 hG.I hG.R ) (by decide) ?_
    intro vg3 hg3
    have z4 : vg3.toInt = 0 := hg3
    have evvg3 := kj_eq (oz236 z4) (by decide : (0 : Int32).toInt = 0)
    subst evvg3
    refine ft_go mi_k13 5 23 [(6, .int 0), (0, .ref 94), (1, .int x1), (2, .int 1), (3, .int 1), (4, .int x4), (5, .int x5)] [.int (0 * 4), .ref (mi_RO + 3)] i a q r (by rfl) ?_
    refine ko_eq (x1 := (23, [(6, .int 0), (0, .ref 94), (1, .int x1), (2, .int 1), (3, .int 1), (4, .int x4), (5, .int x5)], [.int 0, .ref (mi_RO + 3)], (0, 0), ks i a q r)) (by rw [(by decide : (0 * 4 : Int32) = 0)]) ?_
    refine ft_go mi_k13 2 25 [(6, .int 0), (0, .ref 94), (1, .int x1), (2, .int 1), (3, .int 1), (4, .int x4), (5, .int x5)] [.int (0 + 1), .ref (mi_RO + 3)] i a q r (by rfl) ?_
    refine ko_eq (x1 := (25, [(6, .int 0), (0, .ref 94), (1, .int x1), (2, .int 1), (3, .int 1), (4, .int x4), (5, .int x5)], [.int 1, .ref (mi_RO + 3)], (0, 0), ks i a q r)) (by rw [(by decide : (0 + 1 : Int32) = 1)]) ?_
    refine ko_iaro2 mi_k13.1 (l := [1, 10, 11, 2, 20, 0, 0, 0, 0, 30, 0, 0, 0, 41, 40, 0, 0, 0, 50, 0, 0, 0, 0, 60, 70, 0, 0, 0, 0, 80, 0, 81]) (n := 32) (c := 32) (ax := (0, 0, 0, 0, 0)) (mi_k13.2 _ _ (by rfl)) (by rfl) (by rfl) rfl rfl (oz246 kn1) (oz1229 kn1) ?_
    have r5 : ((0 : Int) ≤ (([1, 10, 11, 2, 20, 0, 0, 0, 0, 30, 0, 0, 0, 41, 40, 0, 0, 0, 50, 0, 0, 0, 0, 60, 70, 0, 0, 0, 0, 80, 0, 81] : List Int32).getD (1 : Int32).toNatClampNeg 0).toInt) ∧ ((([1, 10, 11, 2, 20, 0, 0, 0, 0, 30, 0, 0, 0, 41, 40, 0, 0, 0, 50, 0, 0, 0, 0, 60, 70, 0, 0, 0, 0, 80, 0, 81] : List Int32).getD (1 : Int32).toNatClampNeg 0).toInt ≤ 81) := kro_rng (lo := 0) (hi := 81) (by decide) ((1 : Int32).toNatClampNeg)
    refine ko_eq (x1 := (26, [(6, .int 0), (0, .ref 94), (1, .int x1), (2, .int 1), (3, .int 1), (4, .int x4), (5, .int x5)], [.int 10], (0, 0), ks i a q r)) (by rw [(by decide : (([1, 10, 11, 2, 20, 0, 0, 0, 0, 30, 0, 0, 0, 41, 40, 0, 0, 0, 50, 0, 0, 0, 0, 60, 70, 0, 0, 0, 0, 80, 0, 81] : List Int32).getD (1 : Int32).toNatClampNeg 0) = 10)]) ?_
    refine ft_go mi_k13 4 34 [(7, .int 10), (6, .int 0), (0, .ref 94), (1, .int x1), (2, .int 1), (3, .int 1), (4, .int x4), (5, .int x5)] [.int 24, .int (i 6019)] i a q r (by rfl) ?_
    refine ft_if mi_k13 (decide (24 ≤ (i 6019))) 48 37 [(7, .int 10), (6, .int 0), (0, .ref 94), (1, .int x1), (2, .int 1), (3, .int 1), (4, .int x4), (5, .int x5)] [] (by rfl) (fun c => ?_) (fun c => ?_)
    ·
      have c6 : (24 : Int32).toInt ≤ (i 6019).toInt := kd_le c; clear c
      have s7 : ((i 6019) + 1).toInt = (i 6019).toInt + (1 : Int32).toInt := kd_add (oz1332 c6 kn24 kn1) (oz951 fi_6019.2 kn1)
      have hJ8 := kG_i hG 6019 rfl (v := ((i 6019) + 1)) ⟨(oz1333 c6 s7 kn24 kn1), (oz1385 hp3.2 s7 kn1)⟩
      have s9 : (x5 + 1).toInt = x5.toInt + (1 : Int32).toInt := kd_add (oz12 hp2.1 kn1) (oz1366 hp2.2 kn1)
      refine ft_go mi_k13 15 72 [(7, .int 10), (6, .int 0), (0, .ref 94), (1, .int x1), (2, .int 1), (3, .int 1), (4, .int x4), (5, .int x5)] [.int (x5 + 1), .int x4, .int 1, .int x1, .ref 94] (ku i 6019 ((i 6019) + 1)) a q r (by rfl) ?_
      refine ko_callI mi_k13.1 (pc := 72) (ls := [(7, .int 10), (6, .int 0), (0, .ref 94), (1, .int x1), (2, .int 1), (3, .int 1), (4, .int x4), (5, .int x5)]) (st := [.int (x5 + 1), .int x4, .int 1, .int x1, .ref 94]) (h := ks (ku i 6019 ((i 6019) + 1)) a q r) (i := (.invokevirtual 43, 3, 14, 0, 9, 0, 301)) (mi_k13.2 _ _ (by rfl)) (ft_invS mi_pq14 (by rfl)) (cy := mi_c14) mi_pq14 rfl (kc14_94_l11_K1 hJ8.I hJ8.R x1 x4 (x5 + 1) (oz1339 hp0.1 hp0.2) (oz1381 hp1) (oz1372 hp2.1 hp2.2 s9 kn1) (oz1388 c6 hp3.2 s7 kn24 kn1)) (by decide) ?_
      intro vg10 ig10 ag10 qg10 rg10 kg10 hg10
      have hGg10 := kG_call hJ8 kg10 (by decide +kernel)
      have fig10_6019 : ((0 : Int) ≤ (ig10 6019).toInt) ∧ ((ig10 6019).toInt ≤ 1000) := hGg10.I.1 6019
      have z11 : (ig10 6019).toInt = (((i 6019) + 1).toInt + 2) := hg10
      exact ft_ret mi_k13 (by rfl) (hP vg10 _ _ _ _ hGg10 (oz1389 s7 z11 kn1))
    ·
      have c12 : (i 6019).toInt < (24 : Int32).toInt := kd_leF c; clear c
      refine ft_go mi_k13 5 47 [(7, .int 10), (6, .int 0), (0, .ref 94), (1, .int x1), (2, .int 1), (3, .int 1), (4, .int x4), (5, .int x5)] [.int 10, .int (i 6019), .ref 96] i a q r (by rfl) ?_
      refine ko_iast3 mi_k13.1 (n := 24) (c := 24) (ax := (0, 0, 0, 0, 0)) (mi_k13.2 _ _ (by rfl)) (by rfl) (ksG96 _ _ _ _) (ksA96 _ _ _ _) (hG.I.2.1 96) rfl (oz3 fi_6019.1) (oz1343 c12 kn24) ?_
      intro a13 ea13 fa13
      have hJ13 := kG_a3 hG 96 rfl ea13 fa13 (kd_bd _)
      have s14 : ((i 6019) + 1).toInt = (i 6019).toInt + (1 : Int32).toInt := kd_add (oz12 fi_6019.1 kn1) (oz951 fi_6019.2 kn1)
      have hJ15 := kG_i hJ13 6019 rfl (v := ((i 6019) + 1)) ⟨(oz14 fi_6019.1 s14 kn1), (oz1385 hp3.2 s14 kn1)⟩
      have s16 : (x5 + 1).toInt = x5.toInt + (1 : Int32).toInt := kd_add (oz12 hp2.1 kn1) (oz1366 hp2.2 kn1)
      refine ft_go mi_k13 15 72 [(7, .int 10), (6, .int 0), (0, .ref 94), (1, .int x1), (2, .int 1), (3, .int 1), (4, .int x4), (5, .int x5)] [.int (x5 + 1), .int x4, .int 1, .int x1, .ref 94] (ku i 6019 ((i 6019) + 1)) a13 q r (by rfl) ?_
      have r17 : ((0 : Int) ≤ ((a13 95).getD x1.toNatClampNeg 0).toInt) ∧ (((a13 95).getD x1.toNatClampNeg 0).toInt ≤ 7) := hJ15.I.2.2.1 95 (x1.toNatClampNeg)
      have u18 : ((a13 95).getD x1.toNatClampNeg 0).toInt = ((a 95).getD x1.toNatClampNeg 0).toInt := congrArg (fun z : List Int32 => (z.getD x1.toNatClampNeg 0).toInt) (fa13 95 (by decide))
      refine ko_callI mi_k13.1 (pc := 72) (ls := [(7, .int 10), (6, .int 0), (0, .ref 94), (1, .int x1), (2, .int 1), (3, .int 1), (4, .int x4), (5, .int x5)]) (st := [.int (x5 + 1), .int x4, .int 1, .int x1, .ref 94]) (h := ks (ku i 6019 ((i 6019) + 1)) a13 q r) (i := (.invokevirtual 43, 3, 14, 0, 9, 0, 301)) (mi_k13.2 _ _ (by rfl)) (ft_invS mi_pq14 (by rfl)) (cy := mi_c14) mi_pq14 rfl (kc14_94_l11_K1 hJ15.I hJ15.R x1 x4 (x5 + 1) (oz1339 hp0.1 hp0.2) (oz1383 hp1 u18) (oz1372 hp2.1 hp2.2 s16 kn1) (oz1390 fi_6019.1 hp3.2 s14 kn1)) (by decide) ?_
      intro vg19 ig19 ag19 qg19 rg19 kg19 hg19
      have hGg19 := kG_call hJ15 kg19 (by decide +kernel)
      have fig19_6019 : ((0 : Int) ≤ (ig19 6019).toInt) ∧ ((ig19 6019).toInt ≤ 1000) := hGg19.I.1 6019
      have z20 : (ig19 6019).toInt = (((i 6019) + 1).toInt + 2) := hg19
      exact ft_ret mi_k13 (by rfl) (hP vg19 _ _ _ _ hGg19 (oz1389 s14 z20 kn1))
  ·
    have c21 : (40 : Int32).toInt ≤ x5.toInt := kd_ltF c; clear c
    exact (oz1376 c21 hp2.2 kn40).elim
set_option maxRecDepth 100000 in
theorem kc11_l01_l12 {i : Nat → Int32} {a : Nat → List Int32} {q : Nat → List Int64} {r : Nat → Nat} (hI : kI i a q) (hr : kr r)  : km 1 11 [.int 1, .int 2] (ks i a q r) (kPI (ks i a q r) (fun v => v.toInt = 0)) := by
  have hG := kG_self kW0 hI hr
  refine km_ofPI (q := (mi_h11, mi_c11)) rfl (by decide) (Nat.le_of_ble_eq_true rfl) ?_
  intro P hP
  refine ft_go mi_k11 16 26 [(3, .int 0), (2, .int 1), (0, .int 1), (1, .int 2)] [.int (1 * 4), .ref (mi_RO + 3)] i a q r (by rfl) ?_
  refine ko_eq (x1 := (26, [(3, .int 0), (2, .int 1), (0, .int 1), (1, .int 2)], [.int 4, .ref (mi_RO + 3)], (0, 0), ks i a q r)) (by rw [(by decide : (1 * 4 : Int32) = 4)]) ?_
  refine ft_go mi_k11 2 28 [(3, .int 0), (2, .int 1), (0, .int 1), (1, .int 2)] [.int (4 + 2), .ref (mi_RO + 3)] i a q r (by rfl) ?_
  refine ko_eq (x1 := (28, [(3, .int 0), (2, .int 1), (0, .int 1), (1, .int 2)], [.int 6, .ref (mi_RO + 3)], (0, 0), ks i a q r)) (by rw [(by decide : (4 + 2 : Int32) = 6)]) ?_
  refine ko_iaro2 mi_k11.1 (l := [1, 10, 11, 2, 20, 0, 0, 0, 0, 30, 0, 0, 0, 41, 40, 0, 0, 0, 50, 0, 0, 0, 0, 60, 70, 0, 0, 0, 0, 80, 0, 81]) (n := 32) (c := 32) (ax := (0, 0, 0, 0, 0)) (mi_k11.2 _ _ (by rfl)) (by rfl) (by rfl) rfl rfl (oz1130 kn6) (oz1392 kn6) ?_
  have r1 : ((0 : Int) ≤ (([1, 10, 11, 2, 20, 0, 0, 0, 0, 30, 0, 0, 0, 41, 40, 0, 0, 0, 50, 0, 0, 0, 0, 60, 70, 0, 0, 0, 0, 80, 0, 81] : List Int32).getD (6 : Int32).toNatClampNeg 0).toInt) ∧ ((([1, 10, 11, 2, 20, 0, 0, 0, 0, 30, 0, 0, 0, 41, 40, 0, 0, 0, 50, 0, 0, 0, 0, 60, 70, 0, 0, 0, 0, 80, 0, 81] : List Int32).getD (6 : Int32).toNatClampNeg 0).toInt ≤ 81) := kro_rng (lo := 0) (hi := 81) (by decide) ((6 : Int32).toNatClampNeg)
  refine ko_eq (x1 := (29, [(3, .int 0), (2, .int 1), (0, .int 1), (1, .int 2)], [.int 0], (0, 0), ks i a q r)) (by rw [(by decide : (([1, 10, 11, 2, 20, 0, 0, 0, 0, 30, 0, 0, 0, 41, 40, 0, 0, 0, 50, 0, 0, 0, 0, 60, 70, 0, 0, 0, 0, 80, 0, 81] : List Int32).getD (6 : Int32).toNatClampNeg 0) = 0)]) ?_
  refine ft_go mi_k11 3 38 [(3, .int 0), (2, .int 1), (0, .int 1), (1, .int 2)] [.int 1, .ref (mi_RO + 4)] i a q r (by rfl) ?_
  refine ko_iaro2 mi_k11.1 (l := [(-1), 0, 0, 2, 1, 3, 0, 4]) (n := 8) (c := 8) (ax := (0, 0, 0, 0, 0)) (mi_k11.2 _ _ (by rfl)) (by rfl) (by rfl) rfl rfl (oz246 kn1) (oz1382 kn1) ?_
  have r2 : ((-1 : Int) ≤ (([(-1), 0, 0, 2, 1, 3, 0, 4] : List Int32).getD (1 : Int32).toNatClampNeg 0).toInt) ∧ ((([(-1), 0, 0, 2, 1, 3, 0, 4] : List Int32).getD (1 : Int32).toNatClampNeg 0).toInt ≤ 4) := kro_rng (lo := -1) (hi := 4) (by decide) ((1 : Int32).toNatClampNeg)
  refine ko_eq (x1 := (39, [(3, .int 0), (2, .int 1), (0, .int 1), (1, .int 2)], [.int 0], (0, 0), ks i a q r)) (by rw [(by decide : (([(-1), 0, 0, 2, 1, 3, 0, 4] : List Int32).getD (1 : Int32).toNatClampNeg 0) = 0)]) ?_
  refine ft_go mi_k11 2 43 [(3, .int (0 + 1)), (2, .int 0), (0, .int 1), (1, .int 2)] [] i a q r (by rfl) ?_
  refine ko_eq (x1 := (43, [(3, .int 1), (2, .int 0), (0, .int 1), (1, .int 2)], [], (0, 0), ks i a q r)) (by rw [(by decide : (0 + 1 : Int32) = 1)]) ?_
  refine ft_go mi_k11 7 47 [(3, .int 1), (2, .int 0), (0, .int 1), (1, .int 2)] [.int 0] i a q r (by rfl) ?_
  exact ft_ret mi_k11 (by rfl) (hP 0 (oz236 kn0))
def w14_94_l12_K1 : kW := ([], [], [], [])
set_option maxRecDepth 100000 in
theorem kc14_94_l12_K1 {i : Nat → Int32} {a : Nat → List Int32} {q : Nat → List Int64} {r : Nat → Nat} (hI : kI i a q) (hr : kr r) (x1 : Int32) (x3 : Int32) (x4 : Int32) (hp0 : ((0 : Int) ≤ x1.toInt) ∧ (x1.toInt ≤ 49)) (hp1 : ((a 95).getD x1.toNatClampNeg 0).toInt = 1) (hp2 : ((0 : Int) ≤ x4.toInt) ∧ ((x4.toInt + 0) ≤ 39)) (hp3 : ((0 : Int) ≤ (i 6019).toInt) ∧ (((i 6019).toInt + 0) ≤ 900)) : km 1 14 [.ref 94, .int x1, .int 2, .int x3, .int x4] (ks i a q r) (kVI w14_94_l12_K1 i a q r (fun v i1 a1 q1 r1 => (i1 6019).toInt = ((i 6019).toInt + 0))) := by
  have hG := kG_self w14_94_l12_K1 hI hr
  refine km_ofI (q := (mi_h14, mi_c14)) rfl (by decide) (Nat.le_of_ble_eq_true rfl) ?_
  intro P hP
  have r1 : ((0 : Int) ≤ ((a 95).getD x1.toNatClampNeg 0).toInt) ∧ (((a 95).getD x1.toNatClampNeg 0).toInt ≤ 7) := hG.I.2.2.1 95 (x1.toNatClampNeg)
  have fi_6019 : ((0 : Int) ≤ (i 6019).toInt) ∧ ((i 6019).toInt ≤ 1000) := hG.I.1 6019
  refine ft_go mi_k14 3 5 [(0, .ref 94), (1, .int x1), (2, .int 2), (3, .int x3), (4, .int x4)] [.int x1, .ref 95] i a q r (by rfl) ?_
  refine ko_iald3 mi_k14.1 (n := 50) (c := 50) (ax := (0, 0, 0, 0, 0)) (mi_k14.2 _ _ (by rfl)) (by rfl) (ksG95 _ _ _ _) (hG.I.2.1 95) rfl (oz3 hp0.1) (oz1336 hp0.2) ?_
  refine ko_eq (x1 := (6, [(0, .ref 94), (1, .int x1), (2, .int 2), (3, .int x3), (4, .int x4)], [.int 1], (0, 0), ks i a q r)) (by rw [(kj_eq (oz1381 hp1) (by decide) : ((a 95).getD x1.toNatClampNeg 0) = 1)]) ?_
  refine ft_go mi_k14 6 57 [(5, .int 1), (0, .ref 94), (1, .int x1), (2, .int 2), (3, .int x3), (4, .int x4)] [.int (x3 ^^^ x1)] i a q r (by rfl) ?_
  exact ft_ret mi_k14 (by rfl) (hP (x3 ^^^ x1) _ _ _ _ hG oz1338)
def w13_94_l11_l22_K1 : kW := ([6019], [96], [], [])
set_option maxRecDepth 100000 in
theorem kc13_94_l11_l22_K1 {i : Nat → Int32} {a : Nat → List Int32} {q : Nat → List Int64} {r : Nat → Nat} (hI : kI i a q) (hr : kr r) (x1 : Int32) (x4 : Int32) (x5 : Int32) (hp0 : ((0 : Int) ≤ x1.toInt) ∧ (x1.toInt ≤ 49)) (hp1 : ((a 95).getD x1.toNatClampNeg 0).toInt = 1) (hp2 : ((0 : Int) ≤ x5.toInt) ∧ ((x5.toInt + 1) ≤ 39)) (hp3 : ((0 : Int) ≤ (i 6019).toInt) ∧ (((i 6019).toInt + 1) ≤ 900)) : km 3 13 [.ref 94, .int x1, .int 1, .int 2, .int x4, .int x5] (ks i a q r) (kVI w13_94_l11_l22_K1 i a q r (fun v i1 a1 q1 r1 => (i1 6019).toInt = ((i 6019).toInt + 1))) := by
  have hG := kG_self w13_94_l11_l22_K1 hI hr
  refine km_ofI (q := (mi_h13, mi_c13)) rfl (by decide) (Nat.le_of_ble_eq_true rfl) ?_
  intro P hP
  have r1 : ((0 : Int) ≤ ((a 95).getD x1.toNatClampNeg 0).toInt) ∧ (((a 95).getD x1.toNatClampNeg 0).toInt ≤ 7) := hG.I.2.2.1 95 (x1.toNatClampNeg)
  have fi_6019 : ((0 : Int) ≤ (i 6019).toInt) ∧ ((i 6019).toInt ≤ 1000) := hG.I.1 6019
  refine ft_go mi_k13 2 4 [(0, .ref 94), (1, .int x1), (2, .int 1), (3, .int 2), (4, .int x4), (5, .int x5)] [.int 40, .int x5] i a q r (by rfl) ?_
  refine ft_if mi_k13 (decide (x5 < 40)) 9 7 [(0, .ref 94), (1, .int x1), (2, .int 1), (3, .int 2), (4, .int x4), (5, .int x5)] [] (by rfl) (fun c => ?_) (fun c => ?_)
  ·
    have c2 : x5.toInt < (40 : Int32).toInt := kd_lt c; clear c
    refine ft_go mi_k13 2 11 [(0, .ref 94), (1, .int x1), (2, .int 1), (3, .int 2), (4, .int x4), (5, .int x5)] [.int 2, .int 1] i a q r (by rfl) ?_
    refine ko_callPI mi_k13.1 (pc := 11) (ls := [(0, .ref 94), (1, .int x1), (2, .int 1), (3, .int 2), (4, .int x4), (5, .int x5)]) (st := [.int 2, .int 1]) (h := ks i a q r) (i := (.invokestatic 39, 3, 11, 0, 9, 0, 298)) (mi_k13.2 _ _ (by rfl)) (ft_invS mi_pq11 (by rfl)) (cy := mi_c11) mi_pq11 rfl (kc11_l01_l12 hG.I hG.R ) (by decide) ?_
    intro vg3 hg3
    have z4 : vg3.toInt = 0 := hg3
    have evvg3 := kj_eq (oz236 z4) (by decide : (0 : Int32).toInt = 0)
    subst evvg3
    refine ft_go mi_k13 5 23 [(6, .int 0), (0, .ref 94), (1, .int x1), (2, .int 1), (3, .int 2), (4, .int x4), (5, .int x5)] [.int (0 * 4), .ref (mi_RO + 3)] i a q r (by rfl) ?_
    refine ko_eq (x1 := (23, [(6, .int 0), (0, .ref 94), (1, .int x1), (2, .int 1), (3, .int 2), (4, .int x4), (5, .int x5)], [.int 0, .ref (mi_RO + 3)], (0, 0), ks i a q r)) (by rw [(by decide : (0 * 4 : Int32) = 0)]) ?_
    refine ft_go mi_k13 2 25 [(6, .int 0), (0, .ref 94), (1, .int x1), (2, .int 1), (3, .int 2), (4, .int x4), (5, .int x5)] [.int (0 + 2), .ref (mi_RO + 3)] i a q r (by rfl) ?_
    refine ko_eq (x1 := (25, [(6, .int 0), (0, .ref 94), (1, .int x1), (2, .int 1), (3, .int 2), (4, .int x4), (5, .int x5)], [.int 2, .ref (mi_RO + 3)], (0, 0), ks i a q r)) (by rw [(by decide : (0 + 2 : Int32) = 2)]) ?_
    refine ko_iaro2 mi_k13.1 (l := [1, 10, 11, 2, 20, 0, 0, 0, 0, 30, 0, 0, 0, 41, 40, 0, 0, 0, 50, 0, 0, 0, 0, 60, 70, 0, 0, 0, 0, 80, 0, 81]) (n := 32) (c := 32) (ax := (0, 0, 0, 0, 0)) (mi_k13.2 _ _ (by rfl)) (by rfl) (by rfl) rfl rfl (oz256 kn2) (oz1363 kn2) ?_
    have r5 : ((0 : Int) ≤ (([1, 10, 11, 2, 20, 0, 0, 0, 0, 30, 0, 0, 0, 41, 40, 0, 0, 0, 50, 0, 0, 0, 0, 60, 70, 0, 0, 0, 0, 80, 0, 81] : List Int32).getD (2 : Int32).toNatClampNeg 0).toInt) ∧ ((([1, 10, 11, 2, 20, 0, 0, 0, 0, 30, 0, 0, 0, 41, 40, 0, 0, 0, 50, 0, 0, 0, 0, 60, 70, 0, 0, 0, 0, 80, 0, 81] : List Int32).getD (2 : Int32).toNatClampNeg 0).toInt ≤ 81) := kro_rng (lo := 0) (hi := 81) (by decide) ((2 : Int32).toNatClampNeg)
    refine ko_eq (x1 := (26, [(6, .int 0), (0, .ref 94), (1, .int x1), (2, .int 1), (3, .int 2), (4, .int x4), (5, .int x5)], [.int 11], (0, 0), ks i a q r)) (by rw [(by decide : (([1, 10, 11, 2, 20, 0, 0, 0, 0, 30, 0, 0, 0, 41, 40, 0, 0, 0, 50, 0, 0, 0, 0, 60, 70, 0, 0, 0, 0, 80, 0, 81] : List Int32).getD (2 : Int32).toNatClampNeg 0) = 11)]) ?_
    refine ft_go mi_k13 4 34 [(7, .int 11), (6, .int 0), (0, .ref 94), (1, .int x1), (2, .int 1), (3, .int 2), (4, .int x4), (5, .int x5)] [.int 24, .int (i 6019)] i a q r (by rfl) ?_
    refine ft_if mi_k13 (decide (24 ≤ (i 6019))) 48 37 [(7, .int 11), (6, .int 0), (0, .ref 94), (1, .int x1), (2, .int 1), (3, .int 2), (4, .int x4), (5, .int x5)] [] (by rfl) (fun c => ?_) (fun c => ?_)
    ·
      have c6 : (24 : Int32).toInt ≤ (i 6019).toInt := kd_le c; clear c
      have s7 : ((i 6019) + 1).toInt = (i 6019).toInt + (1 : Int32).toInt := kd_add (oz1332 c6 kn24 kn1) (oz951 fi_6019.2 kn1)
      have hJ8 := kG_i hG 6019 rfl (v := ((i 6019) + 1)) ⟨(oz1333 c6 s7 kn24 kn1), (oz1334 hp3.2 s7 kn1)⟩
      have s9 : (x5 + 1).toInt = x5.toInt + (1 : Int32).toInt := kd_add (oz12 hp2.1 kn1) (oz1335 hp2.2 kn1)
      refine ft_go mi_k13 15 72 [(7, .int 11), (6, .int 0), (0, .ref 94), (1, .int x1), (2, .int 1), (3, .int 2), (4, .int x4), (5, .int x5)] [.int (x5 + 1), .int x4, .int 2, .int x1, .ref 94] (ku i 6019 ((i 6019) + 1)) a q r (by rfl) ?_
      refine ko_callI mi_k13.1 (pc := 72) (ls := [(7, .int 11), (6, .int 0), (0, .ref 94), (1, .int x1), (2, .int 1), (3, .int 2), (4, .int x4), (5, .int x5)]) (st := [.int (x5 + 1), .int x4, .int 2, .int x1, .ref 94]) (h := ks (ku i 6019 ((i 6019) + 1)) a q r) (i := (.invokevirtual 43, 3, 14, 0, 9, 0, 301)) (mi_k13.2 _ _ (by rfl)) (ft_invS mi_pq14 (by rfl)) (cy := mi_c14) mi_pq14 rfl (kc14_94_l12_K1 hJ8.I hJ8.R x1 x4 (x5 + 1) (oz1339 hp0.1 hp0.2) (oz1381 hp1) (oz1340 hp2.1 hp2.2 s9 kn1) (oz1341 c6 hp3.2 s7 kn24 kn1)) (by decide) ?_
      intro vg10 ig10 ag10 qg10 rg10 kg10 hg10
      have hGg10 := kG_call hJ8 kg10 (by decide +kernel)
      have fig10_6019 : ((0 : Int) ≤ (ig10 6019).toInt) ∧ ((ig10 6019).toInt ≤ 1000) := hGg10.I.1 6019
      have efig10_6019 : (ig10 6019).toInt = ((i 6019) + 1).toInt := kg10.ti 6019 rfl
      have z11 : (ig10 6019).toInt = (((i 6019) + 1).toInt + 0) := hg10
      exact ft_ret mi_k13 (by rfl) (hP vg10 _ _ _ _ hGg10 (oz1342 efig10_6019 s7 kn1))
    ·
      have c12 : (i 6019).toInt < (24 : Int32).toInt := kd_leF c; clear c
      refine ft_go mi_k13 5 47 [(7, .int 11), (6, .int 0), (0, .ref 94), (1, .int x1), (2, .int 1), (3, .int 2), (4, .int x4), (5, .int x5)] [.int 11, .int (i 6019), .ref 96] i a q r (by rfl) ?_
      refine ko_iast3 mi_k13.1 (n := 24) (c := 24) (ax := (0, 0, 0, 0, 0)) (mi_k13.2 _ _ (by rfl)) (by rfl) (ksG96 _ _ _ _) (ksA96 _ _ _ _) (hG.I.2.1 96) rfl (oz3 fi_6019.1) (oz1343 c12 kn24) ?_
      intro a13 ea13 fa13
      have hJ13 := kG_a3 hG 96 rfl ea13 fa13 (kd_bd _)
      have s14 : ((i 6019) + 1).toInt = (i 6019).toInt + (1 : Int32).toInt := kd_add (oz12 fi_6019.1 kn1) (oz951 fi_6019.2 kn1)
      have hJ15 := kG_i hJ13 6019 rfl (v := ((i 6019) + 1)) ⟨(oz14 fi_6019.1 s14 kn1), (oz1334 hp3.2 s14 kn1)⟩
      have s16 : (x5 + 1).toInt = x5.toInt + (1 : Int32).toInt := kd_add (oz12 hp2.1 kn1) (oz1335 hp2.2 kn1)
      refine ft_go mi_k13 15 72 [(7, .int 11), (6, .int 0), (0, .ref 94), (1, .int x1), (2, .int 1), (3, .int 2), (4, .int x4), (5, .int x5)] [.int (x5 + 1), .int x4, .int 2, .int x1, .ref 94] (ku i 6019 ((i 6019) + 1)) a13 q r (by rfl) ?_
      have r17 : ((0 : Int) ≤ ((a13 95).getD x1.toNatClampNeg 0).toInt) ∧ (((a13 95).getD x1.toNatClampNeg 0).toInt ≤ 7) := hJ15.I.2.2.1 95 (x1.toNatClampNeg)
      have u18 : ((a13 95).getD x1.toNatClampNeg 0).toInt = ((a 95).getD x1.toNatClampNeg 0).toInt := congrArg (fun z : List Int32 => (z.getD x1.toNatClampNeg 0).toInt) (fa13 95 (by decide))
      refine ko_callI mi_k13.1 (pc := 72) (ls := [(7, .int 11), (6, .int 0), (0, .ref 94), (1, .int x1), (2, .int 1), (3, .int 2), (4, .int x4), (5, .int x5)]) (st := [.int (x5 + 1), .int x4, .int 2, .int x1, .ref 94]) (h := ks (ku i 6019 ((i 6019) + 1)) a13 q r) (i := (.invokevirtual 43, 3, 14, 0, 9, 0, 301)) (mi_k13.2 _ _ (by rfl)) (ft_invS mi_pq14 (by rfl)) (cy := mi_c14) mi_pq14 rfl (kc14_94_l12_K1 hJ15.I hJ15.R x1 x4 (x5 + 1) (oz1339 hp0.1 hp0.2) (oz1383 hp1 u18) (oz1340 hp2.1 hp2.2 s16 kn1) (oz1345 fi_6019.1 hp3.2 s14 kn1)) (by decide) ?_
      intro vg19 ig19 ag19 qg19 rg19 kg19 hg19
      have hGg19 := kG_call hJ15 kg19 (by decide +kernel)
      have fig19_6019 : ((0 : Int) ≤ (ig19 6019).toInt) ∧ ((ig19 6019).toInt ≤ 1000) := hGg19.I.1 6019
      have efig19_6019 : (ig19 6019).toInt = ((i 6019) + 1).toInt := kg19.ti 6019 rfl
      have z20 : (ig19 6019).toInt = (((i 6019) + 1).toInt + 0) := hg19
      exact ft_ret mi_k13 (by rfl) (hP vg19 _ _ _ _ hGg19 (oz1342 efig19_6019 s14 kn1))
  ·
    have c21 : (40 : Int32).toInt ≤ x5.toInt := kd_ltF c; clear c
    exact (oz1346 c21 hp2.2 kn40).elim
set_option maxRecDepth 100000 in
theorem kc11_l01_l13 {i : Nat → Int32} {a : Nat → List Int32} {q : Nat → List Int64} {r : Nat → Nat} (hI : kI i a q) (hr : kr r)  : km 1 11 [.int 1, .int 3] (ks i a q r) (kPI (ks i a q r) (fun v => v.toInt = 0)) := by
  have hG := kG_self kW0 hI hr
  refine km_ofPI (q := (mi_h11, mi_c11)) rfl (by decide) (Nat.le_of_ble_eq_true rfl) ?_
  intro P hP
  refine ft_go mi_k11 16 26 [(3, .int 0), (2, .int 1), (0, .int 1), (1, .int 3)] [.int (1 * 4), .ref (mi_RO + 3)] i a q r (by rfl) ?_
  refine ko_eq (x1 := (26, [(3, .int 0), (2, .int 1), (0, .int 1), (1, .int 3)], [.int 4, .ref (mi_RO + 3)], (0, 0), ks i a q r)) (by rw [(by decide : (1 * 4 : Int32) = 4)]) ?_
  refine ft_go mi_k11 2 28 [(3, .int 0), (2, .int 1), (0, .int 1), (1, .int 3)] [.int (4 + 3), .ref (mi_RO + 3)] i a q r (by rfl) ?_
  refine ko_eq (x1 := (28, [(3, .int 0), (2, .int 1), (0, .int 1), (1, .int 3)], [.int 7, .ref (mi_RO + 3)], (0, 0), ks i a q r)) (by rw [(by decide : (4 + 3 : Int32) = 7)]) ?_
  refine ko_iaro2 mi_k11.1 (l := [1, 10, 11, 2, 20, 0, 0, 0, 0, 30, 0, 0, 0, 41, 40, 0, 0, 0, 50, 0, 0, 0, 0, 60, 70, 0, 0, 0, 0, 80, 0, 81]) (n := 32) (c := 32) (ax := (0, 0, 0, 0, 0)) (mi_k11.2 _ _ (by rfl)) (by rfl) (by rfl) rfl rfl (oz1133 kn7) (oz1393 kn7) ?_
  have r1 : ((0 : Int) ≤ (([1, 10, 11, 2, 20, 0, 0, 0, 0, 30, 0, 0, 0, 41, 40, 0, 0, 0, 50, 0, 0, 0, 0, 60, 70, 0, 0, 0, 0, 80, 0, 81] : List Int32).getD (7 : Int32).toNatClampNeg 0).toInt) ∧ ((([1, 10, 11, 2, 20, 0, 0, 0, 0, 30, 0, 0, 0, 41, 40, 0, 0, 0, 50, 0, 0, 0, 0, 60, 70, 0, 0, 0, 0, 80, 0, 81] : List Int32).getD (7 : Int32).toNatClampNeg 0).toInt ≤ 81) := kro_rng (lo := 0) (hi := 81) (by decide) ((7 : Int32).toNatClampNeg)
  refine ko_eq (x1 := (29, [(3, .int 0), (2, .int 1), (0, .int 1), (1, .int 3)], [.int 0], (0, 0), ks i a q r)) (by rw [(by decide : (([1, 10, 11, 2, 20, 0, 0, 0, 0, 30, 0, 0, 0, 41, 40, 0, 0, 0, 50, 0, 0, 0, 0, 60, 70, 0, 0, 0, 0, 80, 0, 81] : List Int32).getD (7 : Int32).toNatClampNeg 0) = 0)]) ?_
  refine ft_go mi_k11 3 38 [(3, .int 0), (2, .int 1), (0, .int 1), (1, .int 3)] [.int 1, .ref (mi_RO + 4)] i a q r (by rfl) ?_
  refine ko_iaro2 mi_k11.1 (l := [(-1), 0, 0, 2, 1, 3, 0, 4]) (n := 8) (c := 8) (ax := (0, 0, 0, 0, 0)) (mi_k11.2 _ _ (by rfl)) (by rfl) (by rfl) rfl rfl (oz246 kn1) (oz1382 kn1) ?_
  have r2 : ((-1 : Int) ≤ (([(-1), 0, 0, 2, 1, 3, 0, 4] : List Int32).getD (1 : Int32).toNatClampNeg 0).toInt) ∧ ((([(-1), 0, 0, 2, 1, 3, 0, 4] : List Int32).getD (1 : Int32).toNatClampNeg 0).toInt ≤ 4) := kro_rng (lo := -1) (hi := 4) (by decide) ((1 : Int32).toNatClampNeg)
  refine ko_eq (x1 := (39, [(3, .int 0), (2, .int 1), (0, .int 1), (1, .int 3)], [.int 0], (0, 0), ks i a q r)) (by rw [(by decide : (([(-1), 0, 0, 2, 1, 3, 0, 4] : List Int32).getD (1 : Int32).toNatClampNeg 0) = 0)]) ?_
  refine ft_go mi_k11 2 43 [(3, .int (0 + 1)), (2, .int 0), (0, .int 1), (1, .int 3)] [] i a q r (by rfl) ?_
  refine ko_eq (x1 := (43, [(3, .int 1), (2, .int 0), (0, .int 1), (1, .int 3)], [], (0, 0), ks i a q r)) (by rw [(by decide : (0 + 1 : Int32) = 1)]) ?_
  refine ft_go mi_k11 7 47 [(3, .int 1), (2, .int 0), (0, .int 1), (1, .int 3)] [.int 0] i a q r (by rfl) ?_
  exact ft_ret mi_k11 (by rfl) (hP 0 (oz236 kn0))
def w14_94_l13_K1 : kW := ([6019], [96], [], [])
set_option maxRecDepth 100000 in
theorem kc14_94_l13_K1 {i : Nat → Int32} {a : Nat → List Int32} {q : Nat → List Int64} {r : Nat → Nat} (hI : kI i a q) (hr : kr r) (x1 : Int32) (x3 : Int32) (x4 : Int32) (hp0 : ((0 : Int) ≤ x1.toInt) ∧ (x1.toInt ≤ 49)) (hp1 : ((a 95).getD x1.toNatClampNeg 0).toInt = 1) (hp2 : ((0 : Int) ≤ x4.toInt) ∧ ((x4.toInt + 3) ≤ 39)) (hp3 : ((0 : Int) ≤ (i 6019).toInt) ∧ (((i 6019).toInt + 4) ≤ 900)) : km 11 14 [.ref 94, .int x1, .int 3, .int x3, .int x4] (ks i a q r) (kVI w14_94_l13_K1 i a q r (fun v i1 a1 q1 r1 => (i1 6019).toInt = ((i 6019).toInt + 4))) := by
  have hG := kG_self w14_94_l13_K1 hI hr
  refine km_ofI (q := (mi_h14, mi_c14)) rfl (by decide) (Nat.le_of_ble_eq_true rfl) ?_
  intro P hP
  have r1 : ((0 : Int) ≤ ((a 95).getD x1.toNatClampNeg 0).toInt) ∧ (((a 95).getD x1.toNatClampNeg 0).toInt ≤ 7) := hG.I.2.2.1 95 (x1.toNatClampNeg)
  have fi_6019 : ((0 : Int) ≤ (i 6019).toInt) ∧ ((i 6019).toInt ≤ 1000) := hG.I.1 6019
  refine ft_go mi_k14 3 5 [(0, .ref 94), (1, .int x1), (2, .int 3), (3, .int x3), (4, .int x4)] [.int x1, .ref 95] i a q r (by rfl) ?_
  refine ko_iald3 mi_k14.1 (n := 50) (c := 50) (ax := (0, 0, 0, 0, 0)) (mi_k14.2 _ _ (by rfl)) (by rfl) (ksG95 _ _ _ _) (hG.I.2.1 95) rfl (oz3 hp0.1) (oz1336 hp0.2) ?_
  refine ko_eq (x1 := (6, [(0, .ref 94), (1, .int x1), (2, .int 3), (3, .int x3), (4, .int x4)], [.int 1], (0, 0), ks i a q r)) (by rw [(kj_eq (oz1381 hp1) (by decide) : ((a 95).getD x1.toNatClampNeg 0) = 1)]) ?_
  refine ft_go mi_k14 9 66 [(5, .int 1), (0, .ref 94), (1, .int x1), (2, .int 3), (3, .int x3), (4, .int x4)] [.int x4, .int x3, .int 1, .int 1, .int x1, .ref 94] i a q r (by rfl) ?_
  refine ko_callI mi_k14.1 (pc := 66) (ls := [(5, .int 1), (0, .ref 94), (1, .int x1), (2, .int 3), (3, .int x3), (4, .int x4)]) (st := [.int x4, .int x3, .int 1, .int 1, .int x1, .ref 94]) (h := ks i a q r) (i := (.invokevirtual 35, 3, 13, 0, 9, 0, 297)) (mi_k14.2 _ _ (by rfl)) (ft_invS mi_pq13 (by rfl)) (cy := mi_c13) mi_pq13 rfl (kc13_94_l11_l21_K1 hG.I hG.R x1 x3 x4 (oz1339 hp0.1 hp0.2) (oz1381 hp1) (oz1396 hp2.1 hp2.2) (oz1397 fi_6019.1 hp3.2)) (by decide) ?_
  intro vg2 ig2 ag2 qg2 rg2 kg2 hg2
  have hGg2 := kG_call hG kg2 (by decide +kernel)
  have fig2_6019 : ((0 : Int) ≤ (ig2 6019).toInt) ∧ ((ig2 6019).toInt ≤ 1000) := hGg2.I.1 6019
  have z3 : (ig2 6019).toInt = ((i 6019).toInt + 3) := hg2
  refine ft_go mi_k14 8 81 [(6, .int vg2), (5, .int 1), (0, .ref 94), (1, .int x1), (2, .int 3), (3, .int x3), (4, .int x4)] [.int x4, .int 1, .int 2, .int 1, .int x1, .ref 94, .int vg2] ig2 ag2 qg2 rg2 (by rfl) ?_
  have r4 : ((0 : Int) ≤ ((ag2 95).getD x1.toNatClampNeg 0).toInt) ∧ (((ag2 95).getD x1.toNatClampNeg 0).toInt ≤ 7) := hGg2.I.2.2.1 95 (x1.toNatClampNeg)
  have u5 : ((ag2 95).getD x1.toNatClampNeg 0).toInt = ((a 95).getD x1.toNatClampNeg 0).toInt := congrArg (fun z : List Int32 => (z.getD x1.toNatClampNeg 0).toInt) (kg2.fa 95 rfl)
  refine ko_callI mi_k14.1 (pc := 81) (ls := [(6, .int vg2), (5, .int 1), (0, .ref 94), (1, .int x1), (2, .int 3), (3, .int x3), (4, .int x4)]) (st := [.int x4, .int 1, .int 2, .int 1, .int x1, .ref 94, .int vg2]) (h := ks ig2 ag2 qg2 rg2) (i := (.invokevirtual 35, 3, 13, 0, 9, 0, 297)) (mi_k14.2 _ _ (by rfl)) (ft_invS mi_pq13 (by rfl)) (cy := mi_c13) mi_pq13 rfl (kc13_94_l11_l22_K1 hGg2.I hGg2.R x1 1 x4 (oz1339 hp0.1 hp0.2) (oz1383 hp1 u5) (oz1398 hp2.1 hp2.2) (oz1399 fig2_6019.1 hp3.2 z3)) (by decide) ?_
  intro vg6 ig6 ag6 qg6 rg6 kg6 hg6
  have hGg6 := kG_call hGg2 kg6 (by decide +kernel)
  have fig6_6019 : ((0 : Int) ≤ (ig6 6019).toInt) ∧ ((ig6 6019).toInt ≤ 1000) := hGg6.I.1 6019
  have z7 : (ig6 6019).toInt = ((ig2 6019).toInt + 1) := hg6
  have b8 : ((-2147483648 : Int) ≤ vg2.toInt) ∧ (vg2.toInt ≤ 2147483647) := kd_bd vg2
  have b9 : ((-2147483648 : Int) ≤ vg6.toInt) ∧ (vg6.toInt ≤ 2147483647) := kd_bd vg6
  refine ft_go mi_k14 1 85 [(6, .int vg2), (5, .int 1), (0, .ref 94), (1, .int x1), (2, .int 3), (3, .int x3), (4, .int x4)] [.int (vg2 - vg6)] ig6 ag6 qg6 rg6 (by rfl) ?_
  exact ft_ret mi_k14 (by rfl) (hP (vg2 - vg6) _ _ _ _ hGg6 (oz1400 z3 z7))
def w13_94_l11_l23_K1 : kW := ([6019], [96], [], [])
set_option maxRecDepth 100000 in
theorem kc13_94_l11_l23_K1 {i : Nat → Int32} {a : Nat → List Int32} {q : Nat → List Int64} {r : Nat → Nat} (hI : kI i a q) (hr : kr r) (x1 : Int32) (x4 : Int32) (x5 : Int32) (hp0 : ((0 : Int) ≤ x1.toInt) ∧ (x1.toInt ≤ 49)) (hp1 : ((a 95).getD x1.toNatClampNeg 0).toInt = 1) (hp2 : ((0 : Int) ≤ x5.toInt) ∧ ((x5.toInt + 4) ≤ 39)) (hp3 : ((0 : Int) ≤ (i 6019).toInt) ∧ (((i 6019).toInt + 5) ≤ 900)) : km 13 13 [.ref 94, .int x1, .int 1, .int 3, .int x4, .int x5] (ks i a q r) (kVI w13_94_l11_l23_K1 i a q r (fun v i1 a1 q1 r1 => (i1 6019).toInt = ((i 6019).toInt + 5))) := by
  have hG := kG_self w13_94_l11_l23_K1 hI hr
  refine km_ofI (q := (mi_h13, mi_c13)) rfl (by decide) (Nat.le_of_ble_eq_true rfl) ?_
  intro P hP
  have r1 : ((0 : Int) ≤ ((a 95).getD x1.toNatClampNeg 0).toInt) ∧ (((a 95).getD x1.toNatClampNeg 0).toInt ≤ 7) := hG.I.2.2.1 95 (x1.toNatClampNeg)
  have fi_6019 : ((0 : Int) ≤ (i 6019).toInt) ∧ ((i 6019).toInt ≤ 1000) := hG.I.1 6019
  refine ft_go mi_k13 2 4 [(0, .ref 94), (1, .int x1), (2, .int 1), (3, .int 3), (4, .int x4), (5, .int x5)] [.int 40, .int x5] i a q r (by rfl) ?_
  refine ft_if mi_k13 (decide (x5 < 40)) 9 7 [(0, .ref 94), (1, .int x1), (2, .int 1), (3, .int 3), (4, .int x4), (5, .int x5)] [] (by rfl) (fun c => ?_) (fun c => ?_)
  ·
    have c2 : x5.toInt < (40 : Int32).toInt := kd_lt c; clear c
    refine ft_go mi_k13 2 11 [(0, .ref 94), (1, .int x1), (2, .int 1), (3, .int 3), (4, .int x4), (5, .int x5)] [.int 3, .int 1] i a q r (by rfl) ?_
    refine ko_callPI mi_k13.1 (pc := 11) (ls := [(0, .ref 94), (1, .int x1), (2, .int 1), (3, .int 3), (4, .int x4), (5, .int x5)]) (st := [.int 3, .int 1]) (h := ks i a q r) (i := (.invokestatic 39, 3, 11, 0, 9, 0, 298)) (mi_k13.2 _ _ (by rfl)) (ft_invS mi_pq11 (by rfl)) (cy := mi_c11) mi_pq11 rfl (kc11_l01_l13 hG.I hG.R ) (by decide) ?_
    intro vg3 hg3
    have z4 : vg3.toInt = 0 := hg3
    have evvg3 := kj_eq (oz236 z4) (by decide : (0 : Int32).toInt = 0)
    subst evvg3
    refine ft_go mi_k13 5 23 [(6, .int 0), (0, .ref 94), (1, .int x1), (2, .int 1), (3, .int 3), (4, .int x4), (5, .int x5)] [.int (0 * 4), .ref (mi_RO + 3)] i a q r (by rfl) ?_
    refine ko_eq (x1 := (23, [(6, .int 0), (0, .ref 94), (1, .int x1), (2, .int 1), (3, .int 3), (4, .int x4), (5, .int x5)], [.int 0, .ref (mi_RO + 3)], (0, 0), ks i a q r)) (by rw [(by decide : (0 * 4 : Int32) = 0)]) ?_
    refine ft_go mi_k13 2 25 [(6, .int 0), (0, .ref 94), (1, .int x1), (2, .int 1), (3, .int 3), (4, .int x4), (5, .int x5)] [.int (0 + 3), .ref (mi_RO + 3)] i a q r (by rfl) ?_
    refine ko_eq (x1 := (25, [(6, .int 0), (0, .ref 94), (1, .int x1), (2, .int 1), (3, .int 3), (4, .int x4), (5, .int x5)], [.int 3, .ref (mi_RO + 3)], (0, 0), ks i a q r)) (by rw [(by decide : (0 + 3 : Int32) = 3)]) ?_
    refine ko_iaro2 mi_k13.1 (l := [1, 10, 11, 2, 20, 0, 0, 0, 0, 30, 0, 0, 0, 41, 40, 0, 0, 0, 50, 0, 0, 0, 0, 60, 70, 0, 0, 0, 0, 80, 0, 81]) (n := 32) (c := 32) (ax := (0, 0, 0, 0, 0)) (mi_k13.2 _ _ (by rfl)) (by rfl) (by rfl) rfl rfl (oz260 kn3) (oz1364 kn3) ?_
    have r5 : ((0 : Int) ≤ (([1, 10, 11, 2, 20, 0, 0, 0, 0, 30, 0, 0, 0, 41, 40, 0, 0, 0, 50, 0, 0, 0, 0, 60, 70, 0, 0, 0, 0, 80, 0, 81] : List Int32).getD (3 : Int32).toNatClampNeg 0).toInt) ∧ ((([1, 10, 11, 2, 20, 0, 0, 0, 0, 30, 0, 0, 0, 41, 40, 0, 0, 0, 50, 0, 0, 0, 0, 60, 70, 0, 0, 0, 0, 80, 0, 81] : List Int32).getD (3 : Int32).toNatClampNeg 0).toInt ≤ 81) := kro_rng (lo := 0) (hi := 81) (by decide) ((3 : Int32).toNatClampNeg)
    refine ko_eq (x1 := (26, [(6, .int 0), (0, .ref 94), (1, .int x1), (2, .int 1), (3, .int 3), (4, .int x4), (5, .int x5)], [.int 2], (0, 0), ks i a q r)) (by rw [(by decide : (([1, 10, 11, 2, 20, 0, 0, 0, 0, 30, 0, 0, 0, 41, 40, 0, 0, 0, 50, 0, 0, 0, 0, 60, 70, 0, 0, 0, 0, 80, 0, 81] : List Int32).getD (3 : Int32).toNatClampNeg 0) = 2)]) ?_
    refine ft_go mi_k13 4 34 [(7, .int 2), (6, .int 0), (0, .ref 94), (1, .int x1), (2, .int 1), (3, .int 3), (4, .int x4), (5, .int x5)] [.int 24, .int (i 6019)] i a q r (by rfl) ?_
    refine ft_if mi_k13 (decide (24 ≤ (i 6019))) 48 37 [(7, .int 2), (6, .int 0), (0, .ref 94), (1, .int x1), (2, .int 1), (3, .int 3), (4, .int x4), (5, .int x5)] [] (by rfl) (fun c => ?_) (fun c => ?_)
    ·
      have c6 : (24 : Int32).toInt ≤ (i 6019).toInt := kd_le c; clear c
      have s7 : ((i 6019) + 1).toInt = (i 6019).toInt + (1 : Int32).toInt := kd_add (oz1332 c6 kn24 kn1) (oz951 fi_6019.2 kn1)
      have hJ8 := kG_i hG 6019 rfl (v := ((i 6019) + 1)) ⟨(oz1333 c6 s7 kn24 kn1), (oz1394 hp3.2 s7 kn1)⟩
      have s9 : (x5 + 1).toInt = x5.toInt + (1 : Int32).toInt := kd_add (oz12 hp2.1 kn1) (oz1395 hp2.2 kn1)
      refine ft_go mi_k13 15 72 [(7, .int 2), (6, .int 0), (0, .ref 94), (1, .int x1), (2, .int 1), (3, .int 3), (4, .int x4), (5, .int x5)] [.int (x5 + 1), .int x4, .int 3, .int x1, .ref 94] (ku i 6019 ((i 6019) + 1)) a q r (by rfl) ?_
      refine ko_callI mi_k13.1 (pc := 72) (ls := [(7, .int 2), (6, .int 0), (0, .ref 94), (1, .int x1), (2, .int 1), (3, .int 3), (4, .int x4), (5, .int x5)]) (st := [.int (x5 + 1), .int x4, .int 3, .int x1, .ref 94]) (h := ks (ku i 6019 ((i 6019) + 1)) a q r) (i := (.invokevirtual 43, 3, 14, 0, 9, 0, 301)) (mi_k13.2 _ _ (by rfl)) (ft_invS mi_pq14 (by rfl)) (cy := mi_c14) mi_pq14 rfl (kc14_94_l13_K1 hJ8.I hJ8.R x1 x4 (x5 + 1) (oz1339 hp0.1 hp0.2) (oz1381 hp1) (oz1401 hp2.1 hp2.2 s9 kn1) (oz1402 c6 hp3.2 s7 kn24 kn1)) (by decide) ?_
      intro vg10 ig10 ag10 qg10 rg10 kg10 hg10
      have hGg10 := kG_call hJ8 kg10 (by decide +kernel)
      have fig10_6019 : ((0 : Int) ≤ (ig10 6019).toInt) ∧ ((ig10 6019).toInt ≤ 1000) := hGg10.I.1 6019
      have z11 : (ig10 6019).toInt = (((i 6019) + 1).toInt + 4) := hg10
      exact ft_ret mi_k13 (by rfl) (hP vg10 _ _ _ _ hGg10 (oz1403 s7 z11 kn1))
    ·
      have c12 : (i 6019).toInt < (24 : Int32).toInt := kd_leF c; clear c
      refine ft_go mi_k13 5 47 [(7, .int 2), (6, .int 0), (0, .ref 94), (1, .int x1), (2, .int 1), (3, .int 3), (4, .int x4), (5, .int x5)] [.int 2, .int (i 6019), .ref 96] i a q r (by rfl) ?_
      refine ko_iast3 mi_k13.1 (n := 24) (c := 24) (ax := (0, 0, 0, 0, 0)) (mi_k13.2 _ _ (by rfl)) (by rfl) (ksG96 _ _ _ _) (ksA96 _ _ _ _) (hG.I.2.1 96) rfl (oz3 fi_6019.1) (oz1343 c12 kn24) ?_
      intro a13 ea13 fa13
      have hJ13 := kG_a3 hG 96 rfl ea13 fa13 (kd_bd _)
      have s14 : ((i 6019) + 1).toInt = (i 6019).toInt + (1 : Int32).toInt := kd_add (oz12 fi_6019.1 kn1) (oz951 fi_6019.2 kn1)
      have hJ15 := kG_i hJ13 6019 rfl (v := ((i 6019) + 1)) ⟨(oz14 fi_6019.1 s14 kn1), (oz1394 hp3.2 s14 kn1)⟩
      have s16 : (x5 + 1).toInt = x5.toInt + (1 : Int32).toInt := kd_add (oz12 hp2.1 kn1) (oz1395 hp2.2 kn1)
      refine ft_go mi_k13 15 72 [(7, .int 2), (6, .int 0), (0, .ref 94), (1, .int x1), (2, .int 1), (3, .int 3), (4, .int x4), (5, .int x5)] [.int (x5 + 1), .int x4, .int 3, .int x1, .ref 94] (ku i 6019 ((i 6019) + 1)) a13 q r (by rfl) ?_
      have r17 : ((0 : Int) ≤ ((a13 95).getD x1.toNatClampNeg 0).toInt) ∧ (((a13 95).getD x1.toNatClampNeg 0).toInt ≤ 7) := hJ15.I.2.2.1 95 (x1.toNatClampNeg)
      have u18 : ((a13 95).getD x1.toNatClampNeg 0).toInt = ((a 95).getD x1.toNatClampNeg 0).toInt := congrArg (fun z : List Int32 => (z.getD x1.toNatClampNeg 0).toInt) (fa13 95 (by decide))
      refine ko_callI mi_k13.1 (pc := 72) (ls := [(7, .int 2), (6, .int 0), (0, .ref 94), (1, .int x1), (2, .int 1), (3, .int 3), (4, .int x4), (5, .int x5)]) (st := [.int (x5 + 1), .int x4, .int 3, .int x1, .ref 94]) (h := ks (ku i 6019 ((i 6019) + 1)) a13 q r) (i := (.invokevirtual 43, 3, 14, 0, 9, 0, 301)) (mi_k13.2 _ _ (by rfl)) (ft_invS mi_pq14 (by rfl)) (cy := mi_c14) mi_pq14 rfl (kc14_94_l13_K1 hJ15.I hJ15.R x1 x4 (x5 + 1) (oz1339 hp0.1 hp0.2) (oz1383 hp1 u18) (oz1401 hp2.1 hp2.2 s16 kn1) (oz1404 fi_6019.1 hp3.2 s14 kn1)) (by decide) ?_
      intro vg19 ig19 ag19 qg19 rg19 kg19 hg19
      have hGg19 := kG_call hJ15 kg19 (by decide +kernel)
      have fig19_6019 : ((0 : Int) ≤ (ig19 6019).toInt) ∧ ((ig19 6019).toInt ≤ 1000) := hGg19.I.1 6019
      have z20 : (ig19 6019).toInt = (((i 6019) + 1).toInt + 4) := hg19
      exact ft_ret mi_k13 (by rfl) (hP vg19 _ _ _ _ hGg19 (oz1403 s14 z20 kn1))
  ·
    have c21 : (40 : Int32).toInt ≤ x5.toInt := kd_ltF c; clear c
    exact (oz1405 c21 hp2.2 kn40).elim
set_option maxRecDepth 100000 in
theorem kc11_l02_l10 {i : Nat → Int32} {a : Nat → List Int32} {q : Nat → List Int64} {r : Nat → Nat} (hI : kI i a q) (hr : kr r)  : km 1 11 [.int 2, .int 0] (ks i a q r) (kPI (ks i a q r) (fun v => v.toInt = 0)) := by
  have hG := kG_self kW0 hI hr
  refine km_ofPI (q := (mi_h11, mi_c11)) rfl (by decide) (Nat.le_of_ble_eq_true rfl) ?_
  intro P hP
  refine ft_go mi_k11 16 26 [(3, .int 0), (2, .int 2), (0, .int 2), (1, .int 0)] [.int (2 * 4), .ref (mi_RO + 3)] i a q r (by rfl) ?_
  refine ko_eq (x1 := (26, [(3, .int 0), (2, .int 2), (0, .int 2), (1, .int 0)], [.int 8, .ref (mi_RO + 3)], (0, 0), ks i a q r)) (by rw [(by decide : (2 * 4 : Int32) = 8)]) ?_
  refine ft_go mi_k11 2 28 [(3, .int 0), (2, .int 2), (0, .int 2), (1, .int 0)] [.int (8 + 0), .ref (mi_RO + 3)] i a q r (by rfl) ?_
  refine ko_eq (x1 := (28, [(3, .int 0), (2, .int 2), (0, .int 2), (1, .int 0)], [.int 8, .ref (mi_RO + 3)], (0, 0), ks i a q r)) (by rw [(by decide : (8 + 0 : Int32) = 8)]) ?_
  refine ko_iaro2 mi_k11.1 (l := [1, 10, 11, 2, 20, 0, 0, 0, 0, 30, 0, 0, 0, 41, 40, 0, 0, 0, 50, 0, 0, 0, 0, 60, 70, 0, 0, 0, 0, 80, 0, 81]) (n := 32) (c := 32) (ax := (0, 0, 0, 0, 0)) (mi_k11.2 _ _ (by rfl)) (by rfl) (by rfl) rfl rfl (oz85 kn8) (oz1409 kn8) ?_
  have r1 : ((0 : Int) ≤ (([1, 10, 11, 2, 20, 0, 0, 0, 0, 30, 0, 0, 0, 41, 40, 0, 0, 0, 50, 0, 0, 0, 0, 60, 70, 0, 0, 0, 0, 80, 0, 81] : List Int32).getD (8 : Int32).toNatClampNeg 0).toInt) ∧ ((([1, 10, 11, 2, 20, 0, 0, 0, 0, 30, 0, 0, 0, 41, 40, 0, 0, 0, 50, 0, 0, 0, 0, 60, 70, 0, 0, 0, 0, 80, 0, 81] : List Int32).getD (8 : Int32).toNatClampNeg 0).toInt ≤ 81) := kro_rng (lo := 0) (hi := 81) (by decide) ((8 : Int32).toNatClampNeg)
  refine ko_eq (x1 := (29, [(3, .int 0), (2, .int 2), (0, .int 2), (1, .int 0)], [.int 0], (0, 0), ks i a q r)) (by rw [(by decide : (([1, 10, 11, 2, 20, 0, 0, 0, 0, 30, 0, 0, 0, 41, 40, 0, 0, 0, 50, 0, 0, 0, 0, 60, 70, 0, 0, 0, 0, 80, 0, 81] : List Int32).getD (8 : Int32).toNatClampNeg 0) = 0)]) ?_
  refine ft_go mi_k11 3 38 [(3, .int 0), (2, .int 2), (0, .int 2), (1, .int 0)] [.int 2, .ref (mi_RO + 4)] i a q r (by rfl) ?_
  refine ko_iaro2 mi_k11.1 (l := [(-1), 0, 0, 2, 1, 3, 0, 4]) (n := 8) (c := 8) (ax := (0, 0, 0, 0, 0)) (mi_k11.2 _ _ (by rfl)) (by rfl) (by rfl) rfl rfl (oz256 kn2) (oz1410 kn2) ?_
  have r2 : ((-1 : Int) ≤ (([(-1), 0, 0, 2, 1, 3, 0, 4] : List Int32).getD (2 : Int32).toNatClampNeg 0).toInt) ∧ ((([(-1), 0, 0, 2, 1, 3, 0, 4] : List Int32).getD (2 : Int32).toNatClampNeg 0).toInt ≤ 4) := kro_rng (lo := -1) (hi := 4) (by decide) ((2 : Int32).toNatClampNeg)
  refine ko_eq (x1 := (39, [(3, .int 0), (2, .int 2), (0, .int 2), (1, .int 0)], [.int 0], (0, 0), ks i a q r)) (by rw [(by decide : (([(-1), 0, 0, 2, 1, 3, 0, 4] : List Int32).getD (2 : Int32).toNatClampNeg 0) = 0)]) ?_
  refine ft_go mi_k11 2 43 [(3, .int (0 + 1)), (2, .int 0), (0, .int 2), (1, .int 0)] [] i a q r (by rfl) ?_
  refine ko_eq (x1 := (43, [(3, .int 1), (2, .int 0), (0, .int 2), (1, .int 0)], [], (0, 0), ks i a q r)) (by rw [(by decide : (0 + 1 : Int32) = 1)]) ?_
  refine ft_go mi_k11 7 47 [(3, .int 1), (2, .int 0), (0, .int 2), (1, .int 0)] [.int 0] i a q r (by rfl) ?_
  exact ft_ret mi_k11 (by rfl) (hP 0 (oz236 kn0))
def w14_94_l10_K2 : kW := ([], [], [], [])
set_option maxRecDepth 100000 in
theorem kc14_94_l10_K2 {i : Nat → Int32} {a : Nat → List Int32} {q : Nat → List Int64} {r : Nat → Nat} (hI : kI i a q) (hr : kr r) (x1 : Int32) (x3 : Int32) (x4 : Int32) (hp0 : ((0 : Int) ≤ x1.toInt) ∧ (x1.toInt ≤ 49)) (hp1 : ((a 95).getD x1.toNatClampNeg 0).toInt = 2) (hp2 : ((0 : Int) ≤ x4.toInt) ∧ ((x4.toInt + 0) ≤ 39)) (hp3 : ((0 : Int) ≤ (i 6019).toInt) ∧ (((i 6019).toInt + 0) ≤ 900)) : km 1 14 [.ref 94, .int x1, .int 0, .int x3, .int x4] (ks i a q r) (kVI w14_94_l10_K2 i a q r (fun v i1 a1 q1 r1 => (i1 6019).toInt = ((i 6019).toInt + 0))) := by
  have hG := kG_self w14_94_l10_K2 hI hr
  refine km_ofI (q := (mi_h14, mi_c14)) rfl (by decide) (Nat.le_of_ble_eq_true rfl) ?_
  intro P hP
  have r1 : ((0 : Int) ≤ ((a 95).getD x1.toNatClampNeg 0).toInt) ∧ (((a 95).getD x1.toNatClampNeg 0).toInt ≤ 7) := hG.I.2.2.1 95 (x1.toNatClampNeg)
  have fi_6019 : ((0 : Int) ≤ (i 6019).toInt) ∧ ((i 6019).toInt ≤ 1000) := hG.I.1 6019
  refine ft_go mi_k14 3 5 [(0, .ref 94), (1, .int x1), (2, .int 0), (3, .int x3), (4, .int x4)] [.int x1, .ref 95] i a q r (by rfl) ?_
  refine ko_iald3 mi_k14.1 (n := 50) (c := 50) (ax := (0, 0, 0, 0, 0)) (mi_k14.2 _ _ (by rfl)) (by rfl) (ksG95 _ _ _ _) (hG.I.2.1 95) rfl (oz3 hp0.1) (oz1336 hp0.2) ?_
  refine ko_eq (x1 := (6, [(0, .ref 94), (1, .int x1), (2, .int 0), (3, .int x3), (4, .int x4)], [.int 2], (0, 0), ks i a q r)) (by rw [(kj_eq (oz1411 hp1) (by decide) : ((a 95).getD x1.toNatClampNeg 0) = 2)]) ?_
  have b2 : ((-2147483648 : Int) ≤ x3.toInt) ∧ (x3.toInt ≤ 2147483647) := kd_bd x3
  have b3 : ((-2147483648 : Int) ≤ x1.toInt) ∧ (x1.toInt ≤ 2147483647) := kd_bd x1
  refine ft_go mi_k14 6 39 [(5, .int 2), (0, .ref 94), (1, .int x1), (2, .int 0), (3, .int x3), (4, .int x4)] [.int (x3 + x1)] i a q r (by rfl) ?_
  exact ft_ret mi_k14 (by rfl) (hP (x3 + x1) _ _ _ _ hG oz1338)
def w13_94_l12_l20_K2 : kW := ([6019], [96], [], [])
set_option maxRecDepth 100000 in
theorem kc13_94_l12_l20_K2 {i : Nat → Int32} {a : Nat → List Int32} {q : Nat → List Int64} {r : Nat → Nat} (hI : kI i a q) (hr : kr r) (x1 : Int32) (x4 : Int32) (x5 : Int32) (hp0 : ((0 : Int) ≤ x1.toInt) ∧ (x1.toInt ≤ 49)) (hp1 : ((a 95).getD x1.toNatClampNeg 0).toInt = 2) (hp2 : ((0 : Int) ≤ x5.toInt) ∧ ((x5.toInt + 1) ≤ 39)) (hp3 : ((0 : Int) ≤ (i 6019).toInt) ∧ (((i 6019).toInt + 1) ≤ 900)) : km 3 13 [.ref 94, .int x1, .int 2, .int 0, .int x4, .int x5] (ks i a q r) (kVI w13_94_l12_l20_K2 i a q r (fun v i1 a1 q1 r1 => (i1 6019).toInt = ((i 6019).toInt + 1))) := by
  have hG := kG_self w13_94_l12_l20_K2 hI hr
  refine km_ofI (q := (mi_h13, mi_c13)) rfl (by decide) (Nat.le_of_ble_eq_true rfl) ?_
  intro P hP
  have r1 : ((0 : Int) ≤ ((a 95).getD x1.toNatClampNeg 0).toInt) ∧ (((a 95).getD x1.toNatClampNeg 0).toInt ≤ 7) := hG.I.2.2.1 95 (x1.toNatClampNeg)
  have fi_6019 : ((0 : Int) ≤ (i 6019).toInt) ∧ ((i 6019).toInt ≤ 1000) := hG.I.1 6019
  refine ft_go mi_k13 2 4 [(0, .ref 94), (1, .int x1), (2, .int 2), (3, .int 0), (4, .int x4), (5, .int x5)] [.int 40, .int x5] i a q r (by rfl) ?_
  refine ft_if mi_k13 (decide (x5 < 40)) 9 7 [(0, .ref 94), (1, .int x1), (2, .int 2), (3, .int 0), (4, .int x4), (5, .int x5)] [] (by rfl) (fun c => ?_) (fun c => ?_)
  ·
    have c2 : x5.toInt < (40 : Int32).toInt := kd_lt c; clear c
    refine ft_go mi_k13 2 11 [(0, .ref 94), (1, .int x1), (2, .int 2), (3, .int 0), (4, .int x4), (5, .int x5)] [.int 0, .int 2] i a q r (by rfl) ?_
    refine ko_callPI mi_k13.1 (pc := 11) (ls := [(0, .ref 94), (1, .int x1), (2, .int 2), (3, .int 0), (4, .int x4), (5, .int x5)]) (st := [.int 0, .int 2]) (h := ks i a q r) (i := (.invokestatic 39, 3, 11, 0, 9, 0, 298)) (mi_k13.2 _ _ (by rfl)) (ft_invS mi_pq11 (by rfl)) (cy := mi_c11) mi_pq11 rfl (kc11_l02_l10 hG.I hG.R ) (by decide) ?_
    intro vg3 hg3
    have z4 : vg3.toInt = 0 := hg3
    have evvg3 := kj_eq (oz236 z4) (by decide : (0 : Int32).toInt = 0)
    subst evvg3
    refine ft_go mi_k13 5 23 [(6, .int 0), (0, .ref 94), (1, .int x1), (2, .int 2), (3, .int 0), (4, .int x4), (5, .int x5)] [.int (0 * 4), .ref (mi_RO + 3)] i a q r (by rfl) ?_
    refine ko_eq (x1 := (23, [(6, .int 0), (0, .ref 94), (1, .int x1), (2, .int 2), (3, .int 0), (4, .int x4), (5, .int x5)], [.int 0, .ref (mi_RO + 3)], (0, 0), ks i a q r)) (by rw [(by decide : (0 * 4 : Int32) = 0)]) ?_
    refine ft_go mi_k13 2 25 [(6, .int 0), (0, .ref 94), (1, .int x1), (2, .int 2), (3, .int 0), (4, .int x4), (5, .int x5)] [.int (0 + 0), .ref (mi_RO + 3)] i a q r (by rfl) ?_
    refine ko_eq (x1 := (25, [(6, .int 0), (0, .ref 94), (1, .int x1), (2, .int 2), (3, .int 0), (4, .int x4), (5, .int x5)], [.int 0, .ref (mi_RO + 3)], (0, 0), ks i a q r)) (by rw [(by decide : (0 + 0 : Int32) = 0)]) ?_
    refine ko_iaro2 mi_k13.1 (l := [1, 10, 11, 2, 20, 0, 0, 0, 0, 30, 0, 0, 0, 41, 40, 0, 0, 0, 50, 0, 0, 0, 0, 60, 70, 0, 0, 0, 0, 80, 0, 81]) (n := 32) (c := 32) (ax := (0, 0, 0, 0, 0)) (mi_k13.2 _ _ (by rfl)) (by rfl) (by rfl) rfl rfl (oz46 kn0) (oz1228 kn0) ?_
    have r5 : ((0 : Int) ≤ (([1, 10, 11, 2, 20, 0, 0, 0, 0, 30, 0, 0, 0, 41, 40, 0, 0, 0, 50, 0, 0, 0, 0, 60, 70, 0, 0, 0, 0, 80, 0, 81] : List Int32).getD (0 : Int32).toNatClampNeg 0).toInt) ∧ ((([1, 10, 11, 2, 20, 0, 0, 0, 0, 30, 0, 0, 0, 41, 40, 0, 0, 0, 50, 0, 0, 0, 0, 60, 70, 0, 0, 0, 0, 80, 0, 81] : List Int32).getD (0 : Int32).toNatClampNeg 0).toInt ≤ 81) := kro_rng (lo := 0) (hi := 81) (by decide) ((0 : Int32).toNatClampNeg)
    refine ko_eq (x1 := (26, [(6, .int 0), (0, .ref 94), (1, .int x1), (2, .int 2), (3, .int 0), (4, .int x4), (5, .int x5)], [.int 1], (0, 0), ks i a q r)) (by rw [(by decide : (([1, 10, 11, 2, 20, 0, 0, 0, 0, 30, 0, 0, 0, 41, 40, 0, 0, 0, 50, 0, 0, 0, 0, 60, 70, 0, 0, 0, 0, 80, 0, 81] : List Int32).getD (0 : Int32).toNatClampNeg 0) = 1)]) ?_
    refine ft_go mi_k13 4 34 [(7, .int 1), (6, .int 0), (0, .ref 94), (1, .int x1), (2, .int 2), (3, .int 0), (4, .int x4), (5, .int x5)] [.int 24, .int (i 6019)] i a q r (by rfl) ?_
    refine ft_if mi_k13 (decide (24 ≤ (i 6019))) 48 37 [(7, .int 1), (6, .int 0), (0, .ref 94), (1, .int x1), (2, .int 2), (3, .int 0), (4, .int x4), (5, .int x5)] [] (by rfl) (fun c => ?_) (fun c => ?_)
    ·
      have c6 : (24 : Int32).toInt ≤ (i 6019).toInt := kd_le c; clear c
      have s7 : ((i 6019) + 1).toInt = (i 6019).toInt + (1 : Int32).toInt := kd_add (oz1332 c6 kn24 kn1) (oz951 fi_6019.2 kn1)
      have hJ8 := kG_i hG 6019 rfl (v := ((i 6019) + 1)) ⟨(oz1333 c6 s7 kn24 kn1), (oz1334 hp3.2 s7 kn1)⟩
      have s9 : (x5 + 1).toInt = x5.toInt + (1 : Int32).toInt := kd_add (oz12 hp2.1 kn1) (oz1335 hp2.2 kn1)
      refine ft_go mi_k13 15 72 [(7, .int 1), (6, .int 0), (0, .ref 94), (1, .int x1), (2, .int 2), (3, .int 0), (4, .int x4), (5, .int x5)] [.int (x5 + 1), .int x4, .int 0, .int x1, .ref 94] (ku i 6019 ((i 6019) + 1)) a q r (by rfl) ?_
      refine ko_callI mi_k13.1 (pc := 72) (ls := [(7, .int 1), (6, .int 0), (0, .ref 94), (1, .int x1), (2, .int 2), (3, .int 0), (4, .int x4), (5, .int x5)]) (st := [.int (x5 + 1), .int x4, .int 0, .int x1, .ref 94]) (h := ks (ku i 6019 ((i 6019) + 1)) a q r) (i := (.invokevirtual 43, 3, 14, 0, 9, 0, 301)) (mi_k13.2 _ _ (by rfl)) (ft_invS mi_pq14 (by rfl)) (cy := mi_c14) mi_pq14 rfl (kc14_94_l10_K2 hJ8.I hJ8.R x1 x4 (x5 + 1) (oz1339 hp0.1 hp0.2) (oz1411 hp1) (oz1340 hp2.1 hp2.2 s9 kn1) (oz1341 c6 hp3.2 s7 kn24 kn1)) (by decide) ?_
      intro vg10 ig10 ag10 qg10 rg10 kg10 hg10
      have hGg10 := kG_call hJ8 kg10 (by decide +kernel)
      have fig10_6019 : ((0 : Int) ≤ (ig10 6019).toInt) ∧ ((ig10 6019).toInt ≤ 1000) := hGg10.I.1 6019
      have efig10_6019 : (ig10 6019).toInt = ((i 6019) + 1).toInt := kg10.ti 6019 rfl
      have z11 : (ig10 6019).toInt = (((i 6019) + 1).toInt + 0) := hg10
      exact ft_ret mi_k13 (by rfl) (hP vg10 _ _ _ _ hGg10 (oz1342 efig10_6019 s7 kn1))
    ·
      have c12 : (i 6019).toInt < (24 : Int32).toInt := kd_leF c; clear c
      refine ft_go mi_k13 5 47 [(7, .int 1), (6, .int 0), (0, .ref 94), (1, .int x1), (2, .int 2), (3, .int 0), (4, .int x4), (5, .int x5)] [.int 1, .int (i 6019), .ref 96] i a q r (by rfl) ?_
      refine ko_iast3 mi_k13.1 (n := 24) (c := 24) (ax := (0, 0, 0, 0, 0)) (mi_k13.2 _ _ (by rfl)) (by rfl) (ksG96 _ _ _ _) (ksA96 _ _ _ _) (hG.I.2.1 96) rfl (oz3 fi_6019.1) (oz1343 c12 kn24) ?_
      intro a13 ea13 fa13
      have hJ13 := kG_a3 hG 96 rfl ea13 fa13 (kd_bd _)
      have s14 : ((i 6019) + 1).toInt = (i 6019).toInt + (1 : Int32).toInt := kd_add (oz12 fi_6019.1 kn1) (oz951 fi_6019.2 kn1)
      have hJ15 := kG_i hJ13 6019 rfl (v := ((i 6019) + 1)) ⟨(oz14 fi_6019.1 s14 kn1), (oz1334 hp3.2 s14 kn1)⟩
      have s16 : (x5 + 1).toInt = x5.toInt + (1 : Int32).toInt := kd_add (oz12 hp2.1 kn1) (oz1335 hp2.2 kn1)
      refine ft_go mi_k13 15 72 [(7, .int 1), (6, .int 0), (0, .ref 94), (1, .int x1), (2, .int 2), (3, .int 0), (4, .int x4), (5, .int x5)] [.int (x5 + 1), .int x4, .int 0, .int x1, .ref 94] (ku i 6019 ((i 6019) + 1)) a13 q r (by rfl) ?_
      have r17 : ((0 : Int) ≤ ((a13 95).getD x1.toNatClampNeg 0).toInt) ∧ (((a13 95).getD x1.toNatClampNeg 0).toInt ≤ 7) := hJ15.I.2.2.1 95 (x1.toNatClampNeg)
      have u18 : ((a13 95).getD x1.toNatClampNeg 0).toInt = ((a 95).getD x1.toNatClampNeg 0).toInt := congrArg (fun z : List Int32 => (z.getD x1.toNatClampNeg 0).toInt) (fa13 95 (by decide))
      refine ko_callI mi_k13.1 (pc := 72) (ls := [(7, .int 1), (6, .int 0), (0, .ref 94), (1, .int x1), (2, .int 2), (3, .int 0), (4, .int x4), (5, .int x5)]) (st := [.int (x5 + 1), .int x4, .int 0, .int x1, .ref 94]) (h := ks (ku i 6019 ((i 6019) + 1)) a13 q r) (i := (.invokevirtual 43, 3, 14, 0, 9, 0, 301)) (mi_k13.2 _ _ (by rfl)) (ft_invS mi_pq14 (by rfl)) (cy := mi_c14) mi_pq14 rfl (kc14_94_l10_K2 hJ15.I hJ15.R x1 x4 (x5 + 1) (oz1339 hp0.1 hp0.2) (oz1412 hp1 u18) (oz1340 hp2.1 hp2.2 s16 kn1) (oz1345 fi_6019.1 hp3.2 s14 kn1)) (by decide) ?_
      intro vg19 ig19 ag19 qg19 rg19 kg19 hg19
      have hGg19 := kG_call hJ15 kg19 (by decide +kernel)
      have fig19_6019 : ((0 : Int) ≤ (ig19 6019).toInt) ∧ ((ig19 6019).toInt ≤ 1000) := hGg19.I.1 6019
      have efig19_6019 : (ig19 6019).toInt = ((i 6019) + 1).toInt := kg19.ti 6019 rfl
      have z20 : (ig19 6019).toInt = (((i 6019) + 1).toInt + 0) := hg19
      exact ft_ret mi_k13 (by rfl) (hP vg19 _ _ _ _ hGg19 (oz1342 efig19_6019 s14 kn1))
  ·
    have c21 : (40 : Int32).toInt ≤ x5.toInt := kd_ltF c; clear c
    exact (oz1346 c21 hp2.2 kn40).elim
set_option maxRecDepth 100000 in
theorem kc11_l02_l11 {i : Nat → Int32} {a : Nat → List Int32} {q : Nat → List Int64} {r : Nat → Nat} (hI : kI i a q) (hr : kr r)  : km 1 11 [.int 2, .int 1] (ks i a q r) (kPI (ks i a q r) (fun v => v.toInt = 2)) := by
  have hG := kG_self kW0 hI hr
  refine km_ofPI (q := (mi_h11, mi_c11)) rfl (by decide) (Nat.le_of_ble_eq_true rfl) ?_
  intro P hP
  refine ft_go mi_k11 16 26 [(3, .int 0), (2, .int 2), (0, .int 2), (1, .int 1)] [.int (2 * 4), .ref (mi_RO + 3)] i a q r (by rfl) ?_
  refine ko_eq (x1 := (26, [(3, .int 0), (2, .int 2), (0, .int 2), (1, .int 1)], [.int 8, .ref (mi_RO + 3)], (0, 0), ks i a q r)) (by rw [(by decide : (2 * 4 : Int32) = 8)]) ?_
  refine ft_go mi_k11 2 28 [(3, .int 0), (2, .int 2), (0, .int 2), (1, .int 1)] [.int (8 + 1), .ref (mi_RO + 3)] i a q r (by rfl) ?_
  refine ko_eq (x1 := (28, [(3, .int 0), (2, .int 2), (0, .int 2), (1, .int 1)], [.int 9, .ref (mi_RO + 3)], (0, 0), ks i a q r)) (by rw [(by decide : (8 + 1 : Int32) = 9)]) ?_
  refine ko_iaro2 mi_k11.1 (l := [1, 10, 11, 2, 20, 0, 0, 0, 0, 30, 0, 0, 0, 41, 40, 0, 0, 0, 50, 0, 0, 0, 0, 60, 70, 0, 0, 0, 0, 80, 0, 81]) (n := 32) (c := 32) (ax := (0, 0, 0, 0, 0)) (mi_k11.2 _ _ (by rfl)) (by rfl) (by rfl) rfl rfl (oz258 kn9) (oz1413 kn9) ?_
  have r1 : ((0 : Int) ≤ (([1, 10, 11, 2, 20, 0, 0, 0, 0, 30, 0, 0, 0, 41, 40, 0, 0, 0, 50, 0, 0, 0, 0, 60, 70, 0, 0, 0, 0, 80, 0, 81] : List Int32).getD (9 : Int32).toNatClampNeg 0).toInt) ∧ ((([1, 10, 11, 2, 20, 0, 0, 0, 0, 30, 0, 0, 0, 41, 40, 0, 0, 0, 50, 0, 0, 0, 0, 60, 70, 0, 0, 0, 0, 80, 0, 81] : List Int32).getD (9 : Int32).toNatClampNeg 0).toInt ≤ 81) := kro_rng (lo := 0) (hi := 81) (by decide) ((9 : Int32).toNatClampNeg)
  refine ko_eq (x1 := (29, [(3, .int 0), (2, .int 2), (0, .int 2), (1, .int 1)], [.int 30], (0, 0), ks i a q r)) (by rw [(by decide : (([1, 10, 11, 2, 20, 0, 0, 0, 0, 30, 0, 0, 0, 41, 40, 0, 0, 0, 50, 0, 0, 0, 0, 60, 70, 0, 0, 0, 0, 80, 0, 81] : List Int32).getD (9 : Int32).toNatClampNeg 0) = 30)]) ?_
  refine ft_go mi_k11 2 33 [(3, .int 0), (2, .int 2), (0, .int 2), (1, .int 1)] [.int 2] i a q r (by rfl) ?_
  exact ft_ret mi_k11 (by rfl) (hP 2 (oz1411 kn2))
def w14_94_l11_K2 : kW := ([6019], [96], [], [])
set_option maxRecDepth 100000 in
theorem kc14_94_l11_K2 {i : Nat → Int32} {a : Nat → List Int32} {q : Nat → List Int64} {r : Nat → Nat} (hI : kI i a q) (hr : kr r) (x1 : Int32) (x3 : Int32) (x4 : Int32) (hp0 : ((0 : Int) ≤ x1.toInt) ∧ (x1.toInt ≤ 49)) (hp1 : ((a 95).getD x1.toNatClampNeg 0).toInt = 2) (hp2 : ((0 : Int) ≤ x4.toInt) ∧ ((x4.toInt + 1) ≤ 39)) (hp3 : ((0 : Int) ≤ (i 6019).toInt) ∧ (((i 6019).toInt + 1) ≤ 900)) : km 5 14 [.ref 94, .int x1, .int 1, .int x3, .int x4] (ks i a q r) (kVI w14_94_l11_K2 i a q r (fun v i1 a1 q1 r1 => (i1 6019).toInt = ((i 6019).toInt + 1))) := by
  have hG := kG_self w14_94_l11_K2 hI hr
  refine km_ofI (q := (mi_h14, mi_c14)) rfl (by decide) (Nat.le_of_ble_eq_true rfl) ?_
  intro P hP
  have r1 : ((0 : Int) ≤ ((a 95).getD x1.toNatClampNeg 0).toInt) ∧ (((a 95).getD x1.toNatClampNeg 0).toInt ≤ 7) := hG.I.2.2.1 95 (x1.toNatClampNeg)
  have fi_6019 : ((0 : Int) ≤ (i 6019).toInt) ∧ ((i 6019).toInt ≤ 1000) := hG.I.1 6019
  refine ft_go mi_k14 3 5 [(0, .ref 94), (1, .int x1), (2, .int 1), (3, .int x3), (4, .int x4)] [.int x1, .ref 95] i a q r (by rfl) ?_
  refine ko_iald3 mi_k14.1 (n := 50) (c := 50) (ax := (0, 0, 0, 0, 0)) (mi_k14.2 _ _ (by rfl)) (by rfl) (ksG95 _ _ _ _) (hG.I.2.1 95) rfl (oz3 hp0.1) (oz1336 hp0.2) ?_
  refine ko_eq (x1 := (6, [(0, .ref 94), (1, .int x1), (2, .int 1), (3, .int x3), (4, .int x4)], [.int 2], (0, 0), ks i a q r)) (by rw [(kj_eq (oz1411 hp1) (by decide) : ((a 95).getD x1.toNatClampNeg 0) = 2)]) ?_
  refine ft_go mi_k14 9 48 [(5, .int 2), (0, .ref 94), (1, .int x1), (2, .int 1), (3, .int x3), (4, .int x4)] [.int x4, .int x3, .int 0, .int 2, .int x1, .ref 94] i a q r (by rfl) ?_
  refine ko_callI mi_k14.1 (pc := 48) (ls := [(5, .int 2), (0, .ref 94), (1, .int x1), (2, .int 1), (3, .int x3), (4, .int x4)]) (st := [.int x4, .int x3, .int 0, .int 2, .int x1, .ref 94]) (h := ks i a q r) (i := (.invokevirtual 35, 3, 13, 0, 9, 0, 297)) (mi_k14.2 _ _ (by rfl)) (ft_invS mi_pq13 (by rfl)) (cy := mi_c13) mi_pq13 rfl (kc13_94_l12_l20_K2 hG.I hG.R x1 x3 x4 (oz1339 hp0.1 hp0.2) (oz1411 hp1) (oz1353 hp2.1 hp2.2) (oz1354 fi_6019.1 hp3.2)) (by decide) ?_
  intro vg2 ig2 ag2 qg2 rg2 kg2 hg2
  have hGg2 := kG_call hG kg2 (by decide +kernel)
  have fig2_6019 : ((0 : Int) ≤ (ig2 6019).toInt) ∧ ((ig2 6019).toInt ≤ 1000) := hGg2.I.1 6019
  have z3 : (ig2 6019).toInt = ((i 6019).toInt + 1) := hg2
  have b4 : ((-2147483648 : Int) ≤ vg2.toInt) ∧ (vg2.toInt ≤ 2147483647) := kd_bd vg2
  refine ft_go mi_k14 2 53 [(5, .int 2), (0, .ref 94), (1, .int x1), (2, .int 1), (3, .int x3), (4, .int x4)] [.int (vg2 * 2)] ig2 ag2 qg2 rg2 (by rfl) ?_
  exact ft_ret mi_k14 (by rfl) (hP (vg2 * 2) _ _ _ _ hGg2 (oz1355 z3))
def w13_94_l10_l21_K2 : kW := ([6019], [96], [], [])
set_option maxRecDepth 100000 in
theorem kc13_94_l10_l21_K2 {i : Nat → Int32} {a : Nat → List Int32} {q : Nat → List Int64} {r : Nat → Nat} (hI : kI i a q) (hr : kr r) (x1 : Int32) (x4 : Int32) (x5 : Int32) (hp0 : ((0 : Int) ≤ x1.toInt) ∧ (x1.toInt ≤ 49)) (hp1 : ((a 95).getD x1.toNatClampNeg 0).toInt = 2) (hp2 : ((0 : Int) ≤ x5.toInt) ∧ ((x5.toInt + 2) ≤ 39)) (hp3 : ((0 : Int) ≤ (i 6019).toInt) ∧ (((i 6019).toInt + 2) ≤ 900)) : km 7 13 [.ref 94, .int x1, .int 0, .int 1, .int x4, .int x5] (ks i a q r) (kVI w13_94_l10_l21_K2 i a q r (fun v i1 a1 q1 r1 => (i1 6019).toInt = ((i 6019).toInt + 2))) := by
  have hG := kG_self w13_94_l10_l21_K2 hI hr
  refine km_ofI (q := (mi_h13, mi_c13)) rfl (by decide) (Nat.le_of_ble_eq_true rfl) ?_
  intro P hP
  have r1 : ((0 : Int) ≤ ((a 95).getD x1.toNatClampNeg 0).toInt) ∧ (((a 95).getD x1.toNatClampNeg 0).toInt ≤ 7) := hG.I.2.2.1 95 (x1.toNatClampNeg)
  have fi_6019 : ((0 : Int) ≤ (i 6019).toInt) ∧ ((i 6019).toInt ≤ 1000) := hG.I.1 6019
  refine ft_go mi_k13 2 4 [(0, .ref 94), (1, .int x1), (2, .int 0), (3, .int 1), (4, .int x4), (5, .int x5)] [.int 40, .int x5] i a q r (by rfl) ?_
  refine ft_if mi_k13 (decide (x5 < 40)) 9 7 [(0, .ref 94), (1, .int x1), (2, .int 0), (3, .int 1), (4, .int x4), (5, .int x5)] [] (by rfl) (fun c => ?_) (fun c => ?_)
  ·
    have c2 : x5.toInt < (40 : Int32).toInt := kd_lt c; clear c
    refine ft_go mi_k13 2 11 [(0, .ref 94), (1, .int x1), (2, .int 0), (3, .int 1), (4, .int x4), (5, .int x5)] [.int 1, .int 0] i a q r (by rfl) ?_
    refine ko_callPI mi_k13.1 (pc := 11) (ls := [(0, .ref 94), (1, .int x1), (2, .int 0), (3, .int 1), (4, .int x4), (5, .int x5)]) (st := [.int 1, .int 0]) (h := ks i a q r) (i := (.invokestatic 39, 3, 11, 0, 9, 0, 298)) (mi_k13.2 _ _ (by rfl)) (ft_invS mi_pq11 (by rfl)) (cy := mi_c11) mi_pq11 rfl (kc11_l00_l11 hG.I hG.R ) (by decide) ?_
    intro vg3 hg3
    have z4 : vg3.toInt = 0 := hg3
    have evvg3 := kj_eq (oz236 z4) (by decide : (0 : Int32).toInt = 0)
    subst evvg3
    refine ft_go mi_k13 5 23 [(6, .int 0), (0, .ref 94), (1, .int x1), (2, .int 0), (3, .int 1), (4, .int x4), (5, .int x5)] [.int (0 * 4), .ref (mi_RO + 3)] i a q r (by rfl) ?_
    refine ko_eq (x1 := (23, [(6, .int 0), (0, .ref 94), (1, .int x1), (2, .int 0), (3, .int 1), (4, .int x4), (5, .int x5)], [.int 0, .ref (mi_RO + 3)], (0, 0), ks i a q r)) (by rw [(by decide : (0 * 4 : Int32) = 0)]) ?_
    refine ft_go mi_k13 2 25 [(6, .int 0), (0, .ref 94), (1, .int x1), (2, .int 0), (3, .int 1), (4, .int x4), (5, .int x5)] [.int (0 + 1), .ref (mi_RO + 3)] i a q r (by rfl) ?_
    refine ko_eq (x1 := (25, [(6, .int 0), (0, .ref 94), (1, .int x1), (2, .int 0), (3, .int 1), (4, .int x4), (5, .int x5)], [.int 1, .ref (mi_RO + 3)], (0, 0), ks i a q r)) (by rw [(by decide : (0 + 1 : Int32) = 1)]) ?_
    refine ko_iaro2 mi_k13.1 (l := [1, 10, 11, 2, 20, 0, 0, 0, 0, 30, 0, 0, 0, 41, 40, 0, 0, 0, 50, 0, 0, 0, 0, 60, 70, 0, 0, 0, 0, 80, 0, 81]) (n := 32) (c := 32) (ax := (0, 0, 0, 0, 0)) (mi_k13.2 _ _ (by rfl)) (by rfl) (by rfl) rfl rfl (oz246 kn1) (oz1229 kn1) ?_
    have r5 : ((0 : Int) ≤ (([1, 10, 11, 2, 20, 0, 0, 0, 0, 30, 0, 0, 0, 41, 40, 0, 0, 0, 50, 0, 0, 0, 0, 60, 70, 0, 0, 0, 0, 80, 0, 81] : List Int32).getD (1 : Int32).toNatClampNeg 0).toInt) ∧ ((([1, 10, 11, 2, 20, 0, 0, 0, 0, 30, 0, 0, 0, 41, 40, 0, 0, 0, 50, 0, 0, 0, 0, 60, 70, 0, 0, 0, 0, 80, 0, 81] : List Int32).getD (1 : Int32).toNatClampNeg 0).toInt ≤ 81) := kro_rng (lo := 0) (hi := 81) (by decide) ((1 : Int32).toNatClampNeg)
    refine ko_eq (x1 := (26, [(6, .int 0), (0, .ref 94), (1, .int x1), (2, .int 0), (3, .int 1), (4, .int x4), (5, .int x5)], [.int 10], (0, 0), ks i a q r)) (by rw [(by decide : (([1, 10, 11, 2, 20, 0, 0, 0, 0, 30, 0, 0, 0, 41, 40, 0, 0, 0, 50, 0, 0, 0, 0, 60, 70, 0, 0, 0, 0, 80, 0, 81] : List Int32).getD (1 : Int32).toNatClampNeg 0) = 10)]) ?_
    refine ft_go mi_k13 4 34 [(7, .int 10), (6, .int 0), (0, .ref 94), (1, .int x1), (2, .int 0), (3, .int 1), (4, .int x4), (5, .int x5)] [.int 24, .int (i 6019)] i a q r (by rfl) ?_
    refine ft_if mi_k13 (decide (24 ≤ (i 6019))) 48 37 [(7, .int 10), (6, .int 0), (0, .ref 94), (1, .int x1), (2, .int 0), (3, .int 1), (4, .int x4), (5, .int x5)] [] (by rfl) (fun c => ?_) (fun c => ?_)
    ·
      have c6 : (24 : Int32).toInt ≤ (i 6019).toInt := kd_le c; clear c
      have s7 : ((i 6019) + 1).toInt = (i 6019).toInt + (1 : Int32).toInt := kd_add (oz1332 c6 kn24 kn1) (oz951 fi_6019.2 kn1)
      have hJ8 := kG_i hG 6019 rfl (v := ((i 6019) + 1)) ⟨(oz1333 c6 s7 kn24 kn1), (oz1351 hp3.2 s7 kn1)⟩
      have s9 : (x5 + 1).toInt = x5.toInt + (1 : Int32).toInt := kd_add (oz12 hp2.1 kn1) (oz1352 hp2.2 kn1)
      refine ft_go mi_k13 15 72 [(7, .int 10), (6, .int 0), (0, .ref 94), (1, .int x1), (2, .int 0), (3, .int 1), (4, .int x4), (5, .int x5)] [.int (x5 + 1), .int x4, .int 1, .int x1, .ref 94] (ku i 6019 ((i 6019) + 1)) a q r (by rfl) ?_
      refine ko_callI mi_k13.1 (pc := 72) (ls := [(7, .int 10), (6, .int 0), (0, .ref 94), (1, .int x1), (2, .int 0), (3, .int 1), (4, .int x4), (5, .int x5)]) (st := [.int (x5 + 1), .int x4, .int 1, .int x1, .ref 94]) (h := ks (ku i 6019 ((i 6019) + 1)) a q r) (i := (.invokevirtual 43, 3, 14, 0, 9, 0, 301)) (mi_k13.2 _ _ (by rfl)) (ft_invS mi_pq14 (by rfl)) (cy := mi_c14) mi_pq14 rfl (kc14_94_l11_K2 hJ8.I hJ8.R x1 x4 (x5 + 1) (oz1339 hp0.1 hp0.2) (oz1411 hp1) (oz1356 hp2.1 hp2.2 s9 kn1) (oz1357 c6 hp3.2 s7 kn24 kn1)) (by decide) ?_
      intro vg10 ig10 ag10 qg10 rg10 kg10 hg10
      have hGg10 := kG_call hJ8 kg10 (by decide +kernel)
      have fig10_6019 : ((0 : Int) ≤ (ig10 6019).toInt) ∧ ((ig10 6019).toInt ≤ 1000) := hGg10.I.1 6019
      have z11 : (ig10 6019).toInt = (((i 6019) + 1).toInt + 1) := hg10
      exact ft_ret mi_k13 (by rfl) (hP vg10 _ _ _ _ hGg10 (oz1358 s7 z11 kn1))
    ·
      have c12 : (i 6019).toInt < (24 : Int32).toInt := kd_leF c; clear c
      refine ft_go mi_k13 5 47 [(7, .int 10), (6, .int 0), (0, .ref 94), (1, .int x1), (2, .int 0), (3, .int 1), (4, .int x4), (5, .int x5)] [.int 10, .int (i 6019), .ref 96] i a q r (by rfl) ?_
      refine ko_iast3 mi_k13.1 (n := 24) (c := 24) (ax := (0, 0, 0, 0, 0)) (mi_k13.2 _ _ (by rfl)) (by rfl) (ksG96 _ _ _ _) (ksA96 _ _ _ _) (hG.I.2.1 96) rfl (oz3 fi_6019.1) (oz1343 c12 kn24) ?_
      intro a13 ea13 fa13
      have hJ13 := kG_a3 hG 96 rfl ea13 fa13 (kd_bd _)
      have s14 : ((i 6019) + 1).toInt = (i 6019).toInt + (1 : Int32).toInt := kd_add (oz12 fi_6019.1 kn1) (oz951 fi_6019.2 kn1)
      have hJ15 := kG_i hJ13 6019 rfl (v := ((i 6019) + 1)) ⟨(oz14 fi_6019.1 s14 kn1), (oz1351 hp3.2 s14 kn1)⟩
      have s16 : (x5 + 1).toInt = x5.toInt + (1 : Int32).toInt := kd_add (oz12 hp2.1 kn1) (oz1352 hp2.2 kn1)
      refine ft_go mi_k13 15 72 [(7, .int 10), (6, .int 0), (0, .ref 94), (1, .int x1), (2, .int 0), (3, .int 1), (4, .int x4), (5, .int x5)] [.int (x5 + 1), .int x4, .int 1, .int x1, .ref 94] (ku i 6019 ((i 6019) + 1)) a13 q r (by rfl) ?_
      have r17 : ((0 : Int) ≤ ((a13 95).getD x1.toNatClampNeg 0).toInt) ∧ (((a13 95).getD x1.toNatClampNeg 0).toInt ≤ 7) := hJ15.I.2.2.1 95 (x1.toNatClampNeg)
      have u18 : ((a13 95).getD x1.toNatClampNeg 0).toInt = ((a 95).getD x1.toNatClampNeg 0).toInt := congrArg (fun z : List Int32 => (z.getD x1.toNatClampNeg 0).toInt) (fa13 95 (by decide))
      refine ko_callI mi_k13.1 (pc := 72) (ls := [(7, .int 10), (6, .int 0), (0, .ref 94), (1, .int x1), (2, .int 0), (3, .int 1), (4, .int x4), (5, .int x5)]) (st := [.int (x5 + 1), .int x4, .int 1, .int x1, .ref 94]) (h := ks (ku i 6019 ((i 6019) + 1)) a13 q r) (i := (.invokevirtual 43, 3, 14, 0, 9, 0, 301)) (mi_k13.2 _ _ (by rfl)) (ft_invS mi_pq14 (by rfl)) (cy := mi_c14) mi_pq14 rfl (kc14_94_l11_K2 hJ15.I hJ15.R x1 x4 (x5 + 1) (oz1339 hp0.1 hp0.2) (oz1412 hp1 u18) (oz1356 hp2.1 hp2.2 s16 kn1) (oz1359 fi_6019.1 hp3.2 s14 kn1)) (by decide) ?_
      intro vg19 ig19 ag19 qg19 rg19 kg19 hg19
      have hGg19 := kG_call hJ15 kg19 (by decide +kernel)
      have fig19_6019 : ((0 : Int) ≤ (ig19 6019).toInt) ∧ ((ig19 6019).toInt ≤ 1000) := hGg19.I.1 6019
      have z20 : (ig19 6019).toInt = (((i 6019) + 1).toInt + 1) := hg19
      exact ft_ret mi_k13 (by rfl) (hP vg19 _ _ _ _ hGg19 (oz1358 s14 z20 kn1))
  ·
    have c21 : (40 : Int32).toInt ≤ x5.toInt := kd_ltF c; clear c
    exact (oz1360 c21 hp2.2 kn40).elim
def w13_94_l12_l21_K2 : kW := ([6019], [96], [], [])
set_option maxRecDepth 100000 in
theorem kc13_94_l12_l21_K2 {i : Nat → Int32} {a : Nat → List Int32} {q : Nat → List Int64} {r : Nat → Nat} (hI : kI i a q) (hr : kr r) (x1 : Int32) (x4 : Int32) (x5 : Int32) (hp0 : ((0 : Int) ≤ x1.toInt) ∧ (x1.toInt ≤ 49)) (hp1 : ((a 95).getD x1.toNatClampNeg 0).toInt = 2) (hp2 : ((0 : Int) ≤ x5.toInt) ∧ ((x5.toInt + 3) ≤ 39)) (hp3 : ((0 : Int) ≤ (i 6019).toInt) ∧ (((i 6019).toInt + 3) ≤ 900)) : km 9 13 [.ref 94, .int x1, .int 2, .int 1, .int x4, .int x5] (ks i a q r) (kVI w13_94_l12_l21_K2 i a q r (fun v i1 a1 q1 r1 => (i1 6019).toInt = ((i 6019).toInt + 3))) := by
  have hG := kG_self w13_94_l12_l21_K2 hI hr
  refine km_ofI (q := (mi_h13, mi_c13)) rfl (by decide) (Nat.le_of_ble_eq_true rfl) ?_
  intro P hP
  have r1 : ((0 : Int) ≤ ((a 95).getD x1.toNatClampNeg 0).toInt) ∧ (((a 95).getD x1.toNatClampNeg 0).toInt ≤ 7) := hG.I.2.2.1 95 (x1.toNatClampNeg)
  have fi_6019 : ((0 : Int) ≤ (i 6019).toInt) ∧ ((i 6019).toInt ≤ 1000) := hG.I.1 6019
  refine ft_go mi_k13 2 4 [(0, .ref 94), (1, .int x1), (2, .int 2), (3, .int 1), (4, .int x4), (5, .int x5)] [.int 40, .int x5] i a q r (by rfl) ?_
  refine ft_if mi_k13 (decide (x5 < 40)) 9 7 [(0, .ref 94), (1, .int x1), (2, .int 2), (3, .int 1), (4, .int x4), (5, .int x5)] [] (by rfl) (fun c => ?_) (fun c => ?_)
  ·
    have c2 : x5.toInt < (40 : Int32).toInt := kd_lt c; clear c
    refine ft_go mi_k13 2 11 [(0, .ref 94), (1, .int x1), (2, .int 2), (3, .int 1), (4, .int x4), (5, .int x5)] [.int 1, .int 2] i a q r (by rfl) ?_
    refine ko_callPI mi_k13.1 (pc := 11) (ls := [(0, .ref 94), (1, .int x1), (2, .int 2), (3, .int 1), (4, .int x4), (5, .int x5)]) (st := [.int 1, .int 2]) (h := ks i a q r) (i := (.invokestatic 39, 3, 11, 0, 9, 0, 298)) (mi_k13.2 _ _ (by rfl)) (ft_invS mi_pq11 (by rfl)) (cy := mi_c11) mi_pq11 rfl (kc11_l02_l11 hG.I hG.R ) (by decide) ?_
    intro vg3 hg3
    have z4 : vg3.toInt = 2 := hg3
    have evvg3 := kj_eq (oz1411 z4) (by decide : (2 : Int32).toInt = 2)
    subst evvg3
    refine ft_go mi_k13 5 23 [(6, .int 2), (0, .ref 94), (1, .int x1), (2, .int 2), (3, .int 1), (4, .int x4), (5, .int x5)] [.int (2 * 4), .ref (mi_RO + 3)] i a q r (by rfl) ?_
    refine ko_eq (x1 := (23, [(6, .int 2), (0, .ref 94), (1, .int x1), (2, .int 2), (3, .int 1), (4, .int x4), (5, .int x5)], [.int 8, .ref (mi_RO + 3)], (0, 0), ks i a q r)) (by rw [(by decide : (2 * 4 : Int32) = 8)]) ?_
    refine ft_go mi_k13 2 25 [(6, .int 2), (0, .ref 94), (1, .int x1), (2, .int 2), (3, .int 1), (4, .int x4), (5, .int x5)] [.int (8 + 1), .ref (mi_RO + 3)] i a q r (by rfl) ?_
    refine ko_eq (x1 := (25, [(6, .int 2), (0, .ref 94), (1, .int x1), (2, .int 2), (3, .int 1), (4, .int x4), (5, .int x5)], [.int 9, .ref (mi_RO + 3)], (0, 0), ks i a q r)) (by rw [(by decide : (8 + 1 : Int32) = 9)]) ?_
    refine ko_iaro2 mi_k13.1 (l := [1, 10, 11, 2, 20, 0, 0, 0, 0, 30, 0, 0, 0, 41, 40, 0, 0, 0, 50, 0, 0, 0, 0, 60, 70, 0, 0, 0, 0, 80, 0, 81]) (n := 32) (c := 32) (ax := (0, 0, 0, 0, 0)) (mi_k13.2 _ _ (by rfl)) (by rfl) (by rfl) rfl rfl (oz258 kn9) (oz1413 kn9) ?_
    have r5 : ((0 : Int) ≤ (([1, 10, 11, 2, 20, 0, 0, 0, 0, 30, 0, 0, 0, 41, 40, 0, 0, 0, 50, 0, 0, 0, 0, 60, 70, 0, 0, 0, 0, 80, 0, 81] : List Int32).getD (9 : Int32).toNatClampNeg 0).toInt) ∧ ((([1, 10, 11, 2, 20, 0, 0, 0, 0, 30, 0, 0, 0, 41, 40, 0, 0, 0, 50, 0, 0, 0, 0, 60, 70, 0, 0, 0, 0, 80, 0, 81] : List Int32).getD (9 : Int32).toNatClampNeg 0).toInt ≤ 81) := kro_rng (lo := 0) (hi := 81) (by decide) ((9 : Int32).toNatClampNeg)
    refine ko_eq (x1 := (26, [(6, .int 2), (0, .ref 94), (1, .int x1), (2, .int 2), (3, .int 1), (4, .int x4), (5, .int x5)], [.int 30], (0, 0), ks i a q r)) (by rw [(by decide : (([1, 10, 11, 2, 20, 0, 0, 0, 0, 30, 0, 0, 0, 41, 40, 0, 0, 0, 50, 0, 0, 0, 0, 60, 70, 0, 0, 0, 0, 80, 0, 81] : List Int32).getD (9 : Int32).toNatClampNeg 0) = 30)]) ?_
    refine ft_go mi_k13 4 34 [(7, .int 30), (6, .int 2), (0, .ref 94), (1, .int x1), (2, .int 2), (3, .int 1), (4, .int x4), (5, .int x5)] [.int 24, .int (i 6019)] i a q r (by rfl) ?_
    refine ft_if mi_k13 (decide (24 ≤ (i 6019))) 48 37 [(7, .int 30), (6, .int 2), (0, .ref 94), (1, .int x1), (2, .int 2), (3, .int 1), (4, .int x4), (5, .int x5)] [] (by rfl) (fun c => ?_) (fun c => ?_)
    ·
      have c6 : (24 : Int32).toInt ≤ (i 6019).toInt := kd_le c; clear c
      have s7 : ((i 6019) + 1).toInt = (i 6019).toInt + (1 : Int32).toInt := kd_add (oz1332 c6 kn24 kn1) (oz951 fi_6019.2 kn1)
      have hJ8 := kG_i hG 6019 rfl (v := ((i 6019) + 1)) ⟨(oz1333 c6 s7 kn24 kn1), (oz1385 hp3.2 s7 kn1)⟩
      refine ft_go mi_k13 12 83 [(7, .int 30), (6, .int 2), (0, .ref 94), (1, .int x1), (2, .int 2), (3, .int 1), (4, .int x4), (5, .int x5)] [.int 2, .ref (mi_RO + 4), .int x1, .ref 94] (ku i 6019 ((i 6019) + 1)) a q r (by rfl) ?_
      refine ko_iaro2 mi_k13.1 (l := [(-1), 0, 0, 2, 1, 3, 0, 4]) (n := 8) (c := 8) (ax := (0, 0, 0, 0, 0)) (mi_k13.2 _ _ (by rfl)) (by rfl) (by rfl) rfl rfl (oz256 kn2) (oz1410 kn2) ?_
      have r9 : ((-1 : Int) ≤ (([(-1), 0, 0, 2, 1, 3, 0, 4] : List Int32).getD (2 : Int32).toNatClampNeg 0).toInt) ∧ ((([(-1), 0, 0, 2, 1, 3, 0, 4] : List Int32).getD (2 : Int32).toNatClampNeg 0).toInt ≤ 4) := kro_rng (lo := -1) (hi := 4) (by decide) ((2 : Int32).toNatClampNeg)
      refine ko_eq (x1 := (84, [(7, .int 30), (6, .int 2), (0, .ref 94), (1, .int x1), (2, .int 2), (3, .int 1), (4, .int x4), (5, .int x5)], [.int 0, .int x1, .ref 94], (0, 0), ks (ku i 6019 ((i 6019) + 1)) a q r)) (by rw [(by decide : (([(-1), 0, 0, 2, 1, 3, 0, 4] : List Int32).getD (2 : Int32).toNatClampNeg 0) = 0)]) ?_
      have s10 : (x5 + 1).toInt = x5.toInt + (1 : Int32).toInt := kd_add (oz12 hp2.1 kn1) (oz1366 hp2.2 kn1)
      refine ft_go mi_k13 8 105 [(7, .int 30), (6, .int 2), (0, .ref 94), (1, .int x1), (2, .int 2), (3, .int 1), (4, .int x4), (5, .int x5)] [.int (x5 + 1), .int x4, .int 1, .int 0, .int x1, .ref 94] (ku i 6019 ((i 6019) + 1)) a q r (by rfl) ?_
      refine ko_callI mi_k13.1 (pc := 105) (ls := [(7, .int 30), (6, .int 2), (0, .ref 94), (1, .int x1), (2, .int 2), (3, .int 1), (4, .int x4), (5, .int x5)]) (st := [.int (x5 + 1), .int x4, .int 1, .int 0, .int x1, .ref 94]) (h := ks (ku i 6019 ((i 6019) + 1)) a q r) (i := (.invokevirtual 35, 3, 13, 0, 9, 0, 297)) (mi_k13.2 _ _ (by rfl)) (ft_invS mi_pq13 (by rfl)) (cy := mi_c13) mi_pq13 rfl (kc13_94_l10_l21_K2 hJ8.I hJ8.R x1 x4 (x5 + 1) (oz1339 hp0.1 hp0.2) (oz1411 hp1) (oz1372 hp2.1 hp2.2 s10 kn1) (oz1388 c6 hp3.2 s7 kn24 kn1)) (by decide) ?_
      intro vg11 ig11 ag11 qg11 rg11 kg11 hg11
      have hGg11 := kG_call hJ8 kg11 (by decide +kernel)
      have fig11_6019 : ((0 : Int) ≤ (ig11 6019).toInt) ∧ ((ig11 6019).toInt ≤ 1000) := hGg11.I.1 6019
      have z12 : (ig11 6019).toInt = (((i 6019) + 1).toInt + 2) := hg11
      refine ft_go mi_k13 5 196 [(8, .int vg11), (7, .int 30), (6, .int 2), (0, .ref 94), (1, .int x1), (2, .int 2), (3, .int 1), (4, .int x4), (5, .int x5)] [.int (-vg11)] ig11 ag11 qg11 rg11 (by rfl) ?_
      exact ft_ret mi_k13 (by rfl) (hP (-vg11) _ _ _ _ hGg11 (oz1389 s7 z12 kn1))
    ·
      have c13 : (i 6019).toInt < (24 : Int32).toInt := kd_leF c; clear c
      refine ft_go mi_k13 5 47 [(7, .int 30), (6, .int 2), (0, .ref 94), (1, .int x1), (2, .int 2), (3, .int 1), (4, .int x4), (5, .int x5)] [.int 30, .int (i 6019), .ref 96] i a q r (by rfl) ?_
      refine ko_iast3 mi_k13.1 (n := 24) (c := 24) (ax := (0, 0, 0, 0, 0)) (mi_k13.2 _ _ (by rfl)) (by rfl) (ksG96 _ _ _ _) (ksA96 _ _ _ _) (hG.I.2.1 96) rfl (oz3 fi_6019.1) (oz1343 c13 kn24) ?_
      intro a14 ea14 fa14
      have hJ14 := kG_a3 hG 96 rfl ea14 fa14 (kd_bd _)
      have s15 : ((i 6019) + 1).toInt = (i 6019).toInt + (1 : Int32).toInt := kd_add (oz12 fi_6019.1 kn1) (oz951 fi_6019.2 kn1)
      have hJ16 := kG_i hJ14 6019 rfl (v := ((i 6019) + 1)) ⟨(oz14 fi_6019.1 s15 kn1), (oz1385 hp3.2 s15 kn1)⟩
      refine ft_go mi_k13 12 83 [(7, .int 30), (6, .int 2), (0, .ref 94), (1, .int x1), (2, .int 2), (3, .int 1), (4, .int x4), (5, .int x5)] [.int 2, .ref (mi_RO + 4), .int x1, .ref 94] (ku i 6019 ((i 6019) + 1)) a14 q r (by rfl) ?_
      refine ko_iaro2 mi_k13.1 (l := [(-1), 0, 0, 2, 1, 3, 0, 4]) (n := 8) (c := 8) (ax := (0, 0, 0, 0, 0)) (mi_k13.2 _ _ (by rfl)) (by rfl) (by rfl) rfl rfl (oz256 kn2) (oz1410 kn2) ?_
      have r17 : ((-1 : Int) ≤ (([(-1), 0, 0, 2, 1, 3, 0, 4] : List Int32).getD (2 : Int32).toNatClampNeg 0).toInt) ∧ ((([(-1), 0, 0, 2, 1, 3, 0, 4] : List Int32).getD (2 : Int32).toNatClampNeg 0).toInt ≤ 4) := kro_rng (lo := -1) (hi := 4) (by decide) ((2 : Int32).toNatClampNeg)
      refine ko_eq (x1 := (84, [(7, .int 30), (6, .int 2), (0, .ref 94), (1, .int x1), (2, .int 2), (3, .int 1), (4, .int x4), (5, .int x5)], [.int 0, .int x1, .ref 94], (0, 0), ks (ku i 6019 ((i 6019) + 1)) a14 q r)) (by rw [(by decide : (([(-1), 0, 0, 2, 1, 3, 0, 4] : List Int32).getD (2 : Int32).toNatClampNeg 0) = 0)]) ?_
      have s18 : (x5 + 1).toInt = x5.toInt + (1 : Int32).toInt := kd_add (oz12 hp2.1 kn1) (oz1366 hp2.2 kn1)
      refine ft_go mi_k13 8 105 [(7, .int 30), (6, .int 2), (0, .ref 94), (1, .int x1), (2, .int 2), (3, .int 1), (4, .int x4), (5, .int x5)] [.int (x5 + 1), .int x4, .int 1, .int 0, .int x1, .ref 94] (ku i 6019 ((i 6019) + 1)) a14 q r (by rfl) ?_
      have r19 : ((0 : Int) ≤ ((a14 95).getD x1.toNatClampNeg 0).toInt) ∧ (((a14 95).getD x1.toNatClampNeg 0).toInt ≤ 7) := hJ16.I.2.2.1 95 (x1.toNatClampNeg)
      have u20 : ((a14 95).getD x1.toNatClampNeg 0).toInt = ((a 95).getD x1.toNatClampNeg 0).toInt := congrArg (fun z : List Int32 => (z.getD x1.toNatClampNeg 0).toInt) (fa14 95 (by decide))
      refine ko_callI mi_k13.1 (pc := 105) (ls := [(7, .int 30), (6, .int 2), (0, .ref 94), (1, .int x1), (2, .int 2), (3, .int 1), (4, .int x4), (5, .int x5)]) (st := [.int (x5 + 1), .int x4, .int 1, .int 0, .int x1, .ref 94]) (h := ks (ku i 6019 ((i 6019) + 1)) a14 q r) (i := (.invokevirtual 35, 3, 13, 0, 9, 0, 297)) (mi_k13.2 _ _ (by rfl)) (ft_invS mi_pq13 (by rfl)) (cy := mi_c13) mi_pq13 rfl (kc13_94_l10_l21_K2 hJ16.I hJ16.R x1 x4 (x5 + 1) (oz1339 hp0.1 hp0.2) (oz1412 hp1 u20) (oz1372 hp2.1 hp2.2 s18 kn1) (oz1390 fi_6019.1 hp3.2 s15 kn1)) (by decide) ?_
      intro vg21 ig21 ag21 qg21 rg21 kg21 hg21
      have hGg21 := kG_call hJ16 kg21 (by decide +kernel)
      have fig21_6019 : ((0 : Int) ≤ (ig21 6019).toInt) ∧ ((ig21 6019).toInt ≤ 1000) := hGg21.I.1 6019
      have z22 : (ig21 6019).toInt = (((i 6019) + 1).toInt + 2) := hg21
      refine ft_go mi_k13 5 196 [(8, .int vg21), (7, .int 30), (6, .int 2), (0, .ref 94), (1, .int x1), (2, .int 2), (3, .int 1), (4, .int x4), (5, .int x5)] [.int (-vg21)] ig21 ag21 qg21 rg21 (by rfl) ?_
      exact ft_ret mi_k13 (by rfl) (hP (-vg21) _ _ _ _ hGg21 (oz1389 s15 z22 kn1))
  ·
    have c23 : (40 : Int32).toInt ≤ x5.toInt := kd_ltF c; clear c
    exact (oz1376 c23 hp2.2 kn40).elim

