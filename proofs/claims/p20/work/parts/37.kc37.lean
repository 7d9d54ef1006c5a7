theorem kn63 : (63 : Int32).toInt = 63 := by decide
theorem oz1283 {a0 a1 : Int} (h0 : a0 ≤ 50) (h1 : a1 < a0) : a1 < 50 := by omega
theorem oz1284 {a0 a1 : Int} (h0 : a0 ≤ 120) (h1 : (2 * a1) ≤ a0) : a1 < 61 := by omega
theorem oz1285 {a0 a1 a2 : Int} (h0 : a0 = a1) (h1 : a2 ≤ 120) (h2 : (2 * a1) ≤ a2) : a0 < 61 := by omega
theorem oz1286 {a0 : Int} (h0 : a0 = 63) : (0 : Int) ≤ a0 := by omega
theorem oz1287 {a0 a1 a2 a3 : Int} (h0 : a0 = a1) (h1 : a2 = a0) (h2 : a3 ≤ 120) (h3 : (2 * a1) ≤ a3) : a2 < 61 := by omega
theorem oz1288 {a0 a1 : Int} (h0 : a0 ≤ 61) (h1 : a1 = 1) : a0 + a1 ≤ 2147483647 := by omega
theorem oz1293 {a0 : Int} (h0 : a0 ≤ 200) : a0 ≤ 200 := by omega
theorem oz1294 {a0 a1 a2 a3 a4 a5 : Int} (h0 : a0 = a1) (h1 : a2 = a0) (h2 : a3 ≤ 120) (h3 : (2 * a1) ≤ a3) (h4 : a4 = a2 + a5) (h5 : a5 = 1) : a4 ≤ 61 := by omega
theorem oz1297 {a0 : Int} (h0 : a0 = 0) : a0 ≤ 120 := by omega
theorem oz1298 {a0 : Int} (h0 : a0 = 0) : a0 ≤ 200 := by omega
theorem oz1299 {a0 : Int} (h0 : a0 = 0) : a0 ≤ 61 := by omega
theorem oz1300 {a0 a1 : Int} (h0 : (0 : Int) ≤ a0) (h1 : a1 = 0) : (a1 = 0) ∧ (a1 ≤ a1) ∧ (a1 ≤ a0) := by omega
theorem oz1301 {a0 : Int} (h0 : a0 = 0) : (2 * a0) ≤ a0 := by omega
theorem oz1302 {a0 a1 : Int} (h0 : a0 ≤ 120) (h1 : a1 = (-100)) : (-2147483648 : Int) ≤ a1 - a0 := by omega
theorem oz1304 {a0 : Int} (h0 : a0 = 59) : (0 : Int) ≤ a0 := by omega
theorem oz1318 {a0 a1 a2 : Int} (h0 : a0 ≤ a1) (h1 : a0 = a2) : a2 ≤ a1 := by omega
theorem oz1319 {a0 a1 a2 a3 : Int} (h0 : a0 ≤ a1) (h1 : a2 = a3) (h2 : a0 = a2) : a3 ≤ a1 := by omega
theorem oz1320 {a0 a1 a2 a3 : Int} (h0 : a0 < a1) (h1 : (0 : Int) ≤ a0) (h2 : a2 = a0 + a3) (h3 : a3 = 1) : ((0 : Int) ≤ a2) ∧ (a2 ≤ a1) := by omega
theorem oz1321 {a0 a1 : Int} (h0 : (0 : Int) ≤ a0) (h1 : a1 = 0) : ((0 : Int) ≤ a1) ∧ (a1 ≤ a0) := by omega
theorem oz1322 {a0 a1 : Int} (h0 : a0 < a1) (h1 : a1 ≤ 60) : a0 < 61 := by omega
theorem oz1324 {a0 a1 : Int} (h0 : (0 : Int) ≤ a0) (h1 : a1 = (-100)) : a1 - a0 ≤ 2147483647 := by omega
theorem oz1327 {a0 a1 a2 a3 a4 a5 a6 a7 : Int} (h0 : a0 ≠ a1) (h1 : a2 = a3) (h2 : a4 ≤ 120) (h3 : (0 : Int) ≤ a0) (h4 : a0 ≤ 1) (h5 : ((a0 = 1) → ((a5 = 0) ∧ (a6 ≤ a4) ∧ (a4 ≤ a7) ∧ ((2 * a3) ≤ (a4 + 1))))) (h6 : a1 = 0) : a2 ≤ 60 := by omega
theorem oz1328 {a0 : Int} (h0 : a0 = 0) : a0 ≤ 1 := by omega
theorem oz1329 {a0 : Int} (h0 : (0 : Int) ≤ a0) : (a0 = (-1)) ∨ ((0 : Int) ≤ a0) := by omega
theorem oz1330 {a0 : Int} (h0 : a0 = (-1)) : (a0 = (-1)) ∨ ((0 : Int) ≤ a0) := by omega
theorem oz1331 {a0 : Int} (h0 : a0 = 0) : a0 ≤ 1000 := by omega
theorem oz1332 {a0 a1 a2 : Int} (h0 : a0 ≤ a1) (h1 : a0 = 24) (h2 : a2 = 1) : (-2147483648 : Int) ≤ a1 + a2 := by omega
theorem oz1333 {a0 a1 a2 a3 : Int} (h0 : a0 ≤ a1) (h1 : a2 = a1 + a3) (h2 : a0 = 24) (h3 : a3 = 1) : (0 : Int) ≤ a2 := by omega
theorem oz1334 {a0 a1 a2 : Int} (h0 : (a0 + 1) ≤ 900) (h1 : a1 = a0 + a2) (h2 : a2 = 1) : a1 ≤ 1000 := by omega
theorem oz1335 {a0 a1 : Int} (h0 : (a0 + 1) ≤ 39) (h1 : a1 = 1) : a0 + a1 ≤ 2147483647 := by omega
theorem oz1336 {a0 : Int} (h0 : a0 ≤ 49) : a0 < 50 := by omega
theorem oz1337 {a0 : Int} (h0 : a0 = 0) (h1 : (0 : Int) ≤ a0) : a0 = 0 := by omega
theorem oz1338 {a0 : Int}  : a0 = (a0 + 0) := by omega
theorem oz1339 {a0 : Int} (h0 : (0 : Int) ≤ a0) (h1 : a0 ≤ 49) : ((0 : Int) ≤ a0) ∧ (a0 ≤ 49) := by omega
theorem oz1340 {a0 a1 a2 : Int} (h0 : (0 : Int) ≤ a0) (h1 : (a0 + 1) ≤ 39) (h2 : a1 = a0 + a2) (h3 : a2 = 1) : ((0 : Int) ≤ a1) ∧ ((a1 + 0) ≤ 39) := by omega
theorem oz1341 {a0 a1 a2 a3 : Int} (h0 : a0 ≤ a1) (h1 : (a1 + 1) ≤ 900) (h2 : a2 = a1 + a3) (h3 : a0 = 24) (h4 : a3 = 1) : ((0 : Int) ≤ a2) ∧ ((a2 + 0) ≤ 900) := by omega
theorem oz1342 {a0 a1 a2 a3 : Int} (h0 : a0 = a1) (h1 : a1 = a2 + a3) (h2 : a3 = 1) : a0 = (a2 + 1) := by omega
theorem oz1343 {a0 a1 : Int} (h0 : a0 < a1) (h1 : a1 = 24) : a0 < 24 := by omega
theorem oz1344 {a0 a1 : Int} (h0 : a0 = 0) (h1 : (0 : Int) ≤ a1) (h2 : a1 = a0) : a1 = 0 := by omega
theorem oz1345 {a0 a1 a2 : Int} (h0 : (0 : Int) ≤ a0) (h1 : (a0 + 1) ≤ 900) (h2 : a1 = a0 + a2) (h3 : a2 = 1) : ((0 : Int) ≤ a1) ∧ ((a1 + 0) ≤ 900) := by omega
theorem oz1346 {a0 a1 : Int} (h0 : a0 ≤ a1) (h1 : (a1 + 1) ≤ 39) (h2 : a0 = 40) : False := by omega
theorem oz1347 {a0 a1 : Int} (h0 : a0 ≤ 50) (h1 : (0 : Int) ≤ a1) (h2 : a1 < a0) : ((0 : Int) ≤ a1) ∧ (a1 ≤ 49) := by omega
theorem oz1348 {a0 : Int} (h0 : (0 : Int) ≤ a0) (h1 : a0 = 0) : a0 = 0 := by omega
theorem oz1349 {a0 : Int} (h0 : a0 = 0) : ((0 : Int) ≤ a0) ∧ ((a0 + 1) ≤ 39) := by omega
theorem oz1350 {a0 : Int} (h0 : a0 = 0) : ((0 : Int) ≤ a0) ∧ ((a0 + 1) ≤ 900) := by omega
theorem oz1351 {a0 a1 a2 : Int} (h0 : (a0 + 2) ≤ 900) (h1 : a1 = a0 + a2) (h2 : a2 = 1) : a1 ≤ 1000 := by omega
theorem oz1352 {a0 a1 : Int} (h0 : (a0 + 2) ≤ 39) (h1 : a1 = 1) : a0 + a1 ≤ 2147483647 := by omega
theorem oz1353 {a0 : Int} (h0 : (0 : Int) ≤ a0) (h1 : (a0 + 1) ≤ 39) : ((0 : Int) ≤ a0) ∧ ((a0 + 1) ≤ 39) := by omega
theorem oz1354 {a0 : Int} (h0 : (0 : Int) ≤ a0) (h1 : (a0 + 1) ≤ 900) : ((0 : Int) ≤ a0) ∧ ((a0 + 1) ≤ 900) := by omega
theorem oz1355 {a0 a1 : Int} (h0 : a0 = (a1 + 1)) : a0 = (a1 + 1) := by omega
theorem oz1356 {a0 a1 a2 : Int} (h0 : (0 : Int) ≤ a0) (h1 : (a0 + 2) ≤ 39) (h2 : a1 = a0 + a2) (h3 : a2 = 1) : ((0 : Int) ≤ a1) ∧ ((a1 + 1) ≤ 39) := by omega
theorem oz1357 {a0 a1 a2 a3 : Int} (h0 : a0 ≤ a1) (h1 : (a1 + 2) ≤ 900) (h2 : a2 = a1 + a3) (h3 : a0 = 24) (h4 : a3 = 1) : ((0 : Int) ≤ a2) ∧ ((a2 + 1) ≤ 900) := by omega
theorem oz1358 {a0 a1 a2 a3 : Int} (h0 : a0 = a1 + a2) (h1 : a3 = (a0 + 1)) (h2 : a2 = 1) : a3 = (a1 + 2) := by omega
theorem oz1359 {a0 a1 a2 : Int} (h0 : (0 : Int) ≤ a0) (h1 : (a0 + 2) ≤ 900) (h2 : a1 = a0 + a2) (h3 : a2 = 1) : ((0 : Int) ≤ a1) ∧ ((a1 + 1) ≤ 900) := by omega
theorem oz1360 {a0 a1 : Int} (h0 : a0 ≤ a1) (h1 : (a1 + 2) ≤ 39) (h2 : a0 = 40) : False := by omega
theorem oz1361 {a0 : Int} (h0 : a0 = 0) : ((0 : Int) ≤ a0) ∧ ((a0 + 2) ≤ 39) := by omega
theorem oz1362 {a0 : Int} (h0 : a0 = 0) : ((0 : Int) ≤ a0) ∧ ((a0 + 2) ≤ 900) := by omega
theorem oz1363 {a0 : Int} (h0 : a0 = 2) : a0 < 32 := by omega
theorem oz1364 {a0 : Int} (h0 : a0 = 3) : a0 < 32 := by omega
theorem oz1365 {a0 a1 a2 : Int} (h0 : (a0 + 4) ≤ 900) (h1 : a1 = a0 + a2) (h2 : a2 = 1) : a1 ≤ 1000 := by omega
theorem oz1366 {a0 a1 : Int} (h0 : (a0 + 3) ≤ 39) (h1 : a1 = 1) : a0 + a1 ≤ 2147483647 := by omega
theorem oz1367 {a0 : Int} (h0 : (0 : Int) ≤ a0) (h1 : (a0 + 2) ≤ 39) : ((0 : Int) ≤ a0) ∧ ((a0 + 2) ≤ 39) := by omega
theorem oz1368 {a0 : Int} (h0 : (0 : Int) ≤ a0) (h1 : (a0 + 3) ≤ 900) : ((0 : Int) ≤ a0) ∧ ((a0 + 2) ≤ 900) := by omega
theorem oz1369 {a0 : Int} (h0 : (0 : Int) ≤ a0) (h1 : (a0 + 2) ≤ 39) : ((0 : Int) ≤ a0) ∧ ((a0 + 1) ≤ 39) := by omega
theorem oz1370 {a0 a1 : Int} (h0 : (0 : Int) ≤ a0) (h1 : (a1 + 3) ≤ 900) (h2 : a0 = (a1 + 2)) : ((0 : Int) ≤ a0) ∧ ((a0 + 1) ≤ 900) := by omega
theorem oz1371 {a0 a1 a2 : Int} (h0 : a0 = (a1 + 2)) (h1 : a2 = (a0 + 1)) : a2 = (a1 + 3) := by omega
theorem oz1372 {a0 a1 a2 : Int} (h0 : (0 : Int) ≤ a0) (h1 : (a0 + 3) ≤ 39) (h2 : a1 = a0 + a2) (h3 : a2 = 1) : ((0 : Int) ≤ a1) ∧ ((a1 + 2) ≤ 39) := by omega
theorem oz1373 {a0 a1 a2 a3 : Int} (h0 : a0 ≤ a1) (h1 : (a1 + 4) ≤ 900) (h2 : a2 = a1 + a3) (h3 : a0 = 24) (h4 : a3 = 1) : ((0 : Int) ≤ a2) ∧ ((a2 + 3) ≤ 900) := by omega
theorem oz1374 {a0 a1 a2 a3 : Int} (h0 : a0 = a1 + a2) (h1 : a3 = (a0 + 3)) (h2 : a2 = 1) : a3 = (a1 + 4) := by omega
theorem oz1375 {a0 a1 a2 : Int} (h0 : (0 : Int) ≤ a0) (h1 : (a0 + 4) ≤ 900) (h2 : a1 = a0 + a2) (h3 : a2 = 1) : ((0 : Int) ≤ a1) ∧ ((a1 + 3) ≤ 900) := by omega
theorem oz1376 {a0 a1 : Int} (h0 : a0 ≤ a1) (h1 : (a1 + 3) ≤ 39) (h2 : a0 = 40) : False := by omega
theorem oz1377 {a0 : Int} (h0 : a0 = 0) : ((0 : Int) ≤ a0) ∧ ((a0 + 3) ≤ 39) := by omega
theorem oz1378 {a0 : Int} (h0 : a0 = 0) : ((0 : Int) ≤ a0) ∧ ((a0 + 4) ≤ 900) := by omega
theorem oz1379 {a0 a1 a2 : Int} (h0 : a0 ≤ a1) (h1 : a1 < a2) (h2 : ¬ (a1 = 1)) (h3 : ¬ (a1 = 2)) (h4 : ¬ (a1 = 3)) (h5 : ¬ (a1 = 0)) (h6 : a0 = 0) (h7 : a2 = 4) : False := by omega
theorem oz1380 {a0 : Int} (h0 : a0 = 4) : a0 < 32 := by omega
theorem oz1381 {a0 : Int} (h0 : a0 = 1) : a0 = 1 := by omega
theorem oz1382 {a0 : Int} (h0 : a0 = 1) : a0 < 8 := by omega
theorem oz1383 {a0 a1 : Int} (h0 : a0 = 1) (h1 : a1 = a0) : a1 = 1 := by omega
theorem oz1384 {a0 : Int} (h0 : a0 = 5) : a0 < 32 := by omega
theorem oz1385 {a0 a1 a2 : Int} (h0 : (a0 + 3) ≤ 900) (h1 : a1 = a0 + a2) (h2 : a2 = 1) : a1 ≤ 1000 := by omega
theorem oz1386 {a0 : Int} (h0 : (0 : Int) ≤ a0) (h1 : (a0 + 2) ≤ 900) : ((0 : Int) ≤ a0) ∧ ((a0 + 2) ≤ 900) := by omega
theorem oz1387 {a0 a1 : Int} (h0 : a0 = (a1 + 2)) : a0 = (a1 + 2) := by omega
theorem oz1388 {a0 a1 a2 a3 : Int} (h0 : a0 ≤ a1) (h1 : (a1 + 3) ≤ 900) (h2 : a2 = a1 + a3) (h3 : a0 = 24) (h4 : a3 = 1) : ((0 : Int) ≤ a2) ∧ ((a2 + 2) ≤ 900) := by omega
theorem oz1389 {a0 a1 a2 a3 : Int} (h0 : a0 = a1 + a2) (h1 : a3 = (a0 + 2)) (h2 : a2 = 1) : a3 = (a1 + 3) := by omega
theorem oz1390 {a0 a1 a2 : Int} (h0 : (0 : Int) ≤ a0) (h1 : (a0 + 3) ≤ 900) (h2 : a1 = a0 + a2) (h3 : a2 = 1) : ((0 : Int) ≤ a1) ∧ ((a1 + 2) ≤ 900) := by omega
theorem oz1391 {a0 : Int} (h0 : a0 = 0) : ((0 : Int) ≤ a0) ∧ ((a0 + 3) ≤ 900) := by omega
theorem oz1392 {a0 : Int} (h0 : a0 = 6) : a0 < 32 := by omega
theorem oz1393 {a0 : Int} (h0 : a0 = 7) : a0 < 32 := by omega
theorem oz1394 {a0 a1 a2 : Int} (h0 : (a0 + 5) ≤ 900) (h1 : a1 = a0 + a2) (h2 : a2 = 1) : a1 ≤ 1000 := by omega
theorem oz1395 {a0 a1 : Int} (h0 : (a0 + 4) ≤ 39) (h1 : a1 = 1) : a0 + a1 ≤ 2147483647 := by omega
theorem oz1396 {a0 : Int} (h0 : (0 : Int) ≤ a0) (h1 : (a0 + 3) ≤ 39) : ((0 : Int) ≤ a0) ∧ ((a0 + 3) ≤ 39) := by omega
theorem oz1397 {a0 : Int} (h0 : (0 : Int) ≤ a0) (h1 : (a0 + 4) ≤ 900) : ((0 : Int) ≤ a0) ∧ ((a0 + 3) ≤ 900) := by omega
theorem oz1398 {a0 : Int} (h0 : (0 : Int) ≤ a0) (h1 : (a0 + 3) ≤ 39) : ((0 : Int) ≤ a0) ∧ ((a0 + 1) ≤ 39) := by omega
theorem oz1399 {a0 a1 : Int} (h0 : (0 : Int) ≤ a0) (h1 : (a1 + 4) ≤ 900) (h2 : a0 = (a1 + 3)) : ((0 : Int) ≤ a0) ∧ ((a0 + 1) ≤ 900) := by omega
theorem oz1400 {a0 a1 a2 : Int} (h0 : a0 = (a1 + 3)) (h1 : a2 = (a0 + 1)) : a2 = (a1 + 4) := by omega
theorem oz1401 {a0 a1 a2 : Int} (h0 : (0 : Int) ≤ a0) (h1 : (a0 + 4) ≤ 39) (h2 : a1 = a0 + a2) (h3 : a2 = 1) : ((0 : Int) ≤ a1) ∧ ((a1 + 3) ≤ 39) := by omega
theorem oz1402 {a0 a1 a2 a3 : Int} (h0 : a0 ≤ a1) (h1 : (a1 + 5) ≤ 900) (h2 : a2 = a1 + a3) (h3 : a0 = 24) (h4 : a3 = 1) : ((0 : Int) ≤ a2) ∧ ((a2 + 4) ≤ 900) := by omega
theorem oz1403 {a0 a1 a2 a3 : Int} (h0 : a0 = a1 + a2) (h1 : a3 = (a0 + 4)) (h2 : a2 = 1) : a3 = (a1 + 5) := by omega
theorem oz1404 {a0 a1 a2 : Int} (h0 : (0 : Int) ≤ a0) (h1 : (a0 + 5) ≤ 900) (h2 : a1 = a0 + a2) (h3 : a2 = 1) : ((0 : Int) ≤ a1) ∧ ((a1 + 4) ≤ 900) := by omega
theorem oz1405 {a0 a1 : Int} (h0 : a0 ≤ a1) (h1 : (a1 + 4) ≤ 39) (h2 : a0 = 40) : False := by omega
theorem oz1406 {a0 : Int} (h0 : a0 = 0) : ((0 : Int) ≤ a0) ∧ ((a0 + 4) ≤ 39) := by omega
theorem oz1407 {a0 : Int} (h0 : a0 = 0) : ((0 : Int) ≤ a0) ∧ ((a0 + 5) ≤ 900) := by omega
theorem oz1408 {a0 a1 a2 : Int} (h0 : a0 ≤ a1) (h1 : a1 < a2) (h2 : ¬ (a1 = 0)) (h3 : ¬ (a1 = 1)) (h4 : ¬ (a1 = 2)) (h5 : ¬ (a1 = 3)) (h6 : a0 = 0) (h7 : a2 = 4) : False := by omega
theorem oz1409 {a0 : Int} (h0 : a0 = 8) : a0 < 32 := by omega
theorem oz1410 {a0 : Int} (h0 : a0 = 2) : a0 < 8 := by omega
theorem oz1411 {a0 : Int} (h0 : a0 = 2) : a0 = 2 := by omega
theorem oz1412 {a0 a1 : Int} (h0 : a0 = 2) (h1 : a1 = a0) : a1 = 2 := by omega
theorem oz1413 {a0 : Int} (h0 : a0 = 9) : a0 < 32 := by omega
set_option maxRecDepth 100000 in
theorem kc10 {i : Nat → Int32} {a : Nat → List Int32} {q : Nat → List Int64} {r : Nat → Nat} (hI : kI i a q) (hr : kr r) (x1 : Int32) (x2 : Int32) : km 1 10 [.int x1, .int x2] (ks i a q r) (kPI (ks i a q r) (fun v => (v = 1 ∧ (True)) ∨ (v = 0 ∧ (True)))) := by
  have hG := kG_self kW0 hI hr
  refine km_ofPI (q := (mi_h10, mi_c10)) rfl (by decide) (Nat.le_of_ble_eq_true rfl) ?_
  intro P hP
  refine ft_go mi_k10 4 4 [(3, .int 0), (2, .int x1), (0, .int x1), (1, .int x2)] [] i a q r (by rfl) ?_
  have lp1 : ∀ (nz : Nat) (l3_1 : Int32) (l2_1 : Int32), (0 : Int) ≤ l3_1.toInt → ((8 - l3_1.toInt)).toNat < nz → ko 1 (mi_h10, mi_c10) P (4, [(3, .int l3_1), (2, .int l2_1), (0, .int x1), (1, .int x2)], [], (0, 0), ks i a q r) := by
    intro nz
    induction nz with
    | zero =>
      intro _ _ _ hm
      exact absurd hm (Nat.not_lt_zero _)
    | succ nz ih1 =>
      intro l3_1 l2_1 p1_0 hm1
      refine ft_go mi_k10 2 7 [(3, .int l3_1), (2, .int l2_1), (0, .int x1), (1, .int x2)] [.int 8, .int l3_1] i a q r (by rfl) ?_
      refine ft_if mi_k10 (decide (8 ≤ l3_1)) 39 10 [(3, .int l3_1), (2, .int l2_1), (0, .int x1), (1, .int x2)] [] (by rfl) (fun c => ?_) (fun c => ?_)
      ·
        have c2 : (8 : Int32).toInt ≤ l3_1.toInt := kd_le c; clear c
        refine ft_go mi_k10 1 40 [(3, .int l3_1), (2, .int l2_1), (0, .int x1), (1, .int x2)] [.int 0] i a q r (by rfl) ?_
        exact ft_ret mi_k10 (by rfl) (hP 0 (Or.inr ⟨rfl, trivial⟩))
      ·
        have c3 : l3_1.toInt < (8 : Int32).toInt := kd_leF c; clear c
        refine ft_go mi_k10 1 11 [(3, .int l3_1), (2, .int l2_1), (0, .int x1), (1, .int x2)] [.int l2_1] i a q r (by rfl) ?_
        refine ft_if mi_k10 (decide (l2_1 < 0)) 39 14 [(3, .int l3_1), (2, .int l2_1), (0, .int x1), (1, .int x2)] [] (by rfl) (fun c => ?_) (fun c => ?_)
        ·
          have c4 : l2_1.toInt < (0 : Int32).toInt := kd_lt c; clear c
          refine ft_go mi_k10 1 40 [(3, .int l3_1), (2, .int l2_1), (0, .int x1), (1, .int x2)] [.int 0] i a q r (by rfl) ?_
          exact ft_ret mi_k10 (by rfl) (hP 0 (Or.inr ⟨rfl, trivial⟩))
        ·
          have c5 : (0 : Int32).toInt ≤ l2_1.toInt := kd_ltF c; clear c
          refine ft_go mi_k10 2 17 [(3, .int l3_1), (2, .int l2_1), (0, .int x1), (1, .int x2)] [.int 8, .int l2_1] i a q r (by rfl) ?_
          refine ft_if mi_k10 (decide (8 ≤ l2_1)) 39 20 [(3, .int l3_1), (2, .int l2_1), (0, .int x1), (1, .int x2)] [] (by rfl) (fun c => ?_) (fun c => ?_)
          ·
            have c6 : (8 : Int32).toInt ≤ l2_1.toInt := kd_le c; clear c
            refine ft_go mi_k10 1 40 [(3, .int l3_1), (2, .int l2_1), (0, .int x1), (1, .int x2)] [.int 0] i a q r (by rfl) ?_
            exact ft_ret mi_k10 (by rfl) (hP 0 (Or.inr ⟨rfl, trivial⟩))
          ·
            have c7 : l2_1.toInt < (8 : Int32).toInt := kd_leF c; clear c
            refine ft_go mi_k10 2 22 [(3, .int l3_1), (2, .int l2_1), (0, .int x1), (1, .int x2)] [.int x2, .int l2_1] i a q r (by rfl) ?_
            refine ft_if mi_k10 (l2_1 != x2) 27 25 [(3, .int l3_1), (2, .int l2_1), (0, .int x1), (1, .int x2)] [] (by rfl) (fun c => ?_) (fun c => ?_)
            ·
              have c8 : l2_1.toInt ≠ x2.toInt := kd_ne c; clear c
              refine ft_go mi_k10 2 31 [(3, .int l3_1), (2, .int l2_1), (0, .int x1), (1, .int x2)] [.int l2_1, .ref (mi_RO + 4)] i a q r (by rfl) ?_
              refine ko_iaro2 mi_k10.1 (l := [(-1), 0, 0, 2, 1, 3, 0, 4]) (n := 8) (c := 8) (ax := (0, 0, 0, 0, 0)) (mi_k10.2 _ _ (by rfl)) (by rfl) (by rfl) rfl rfl (oz389 c5 kn0) (oz936 c7 kn8) ?_
              have r9 : ((-1 : Int) ≤ (([(-1), 0, 0, 2, 1, 3, 0, 4] : List Int32).getD l2_1.toNatClampNeg 0).toInt) ∧ ((([(-1), 0, 0, 2, 1, 3, 0, 4] : List Int32).getD l2_1.toNatClampNeg 0).toInt ≤ 4) := kro_rng (lo := -1) (hi := 4) (by decide) (l2_1.toNatClampNeg)
              have s10 : (l3_1 + 1).toInt = l3_1.toInt + (1 : Int32).toInt := kd_add (oz12 p1_0 kn1) (oz474 c3 kn8 kn1)
              refine ft_go mi_k10 3 4 [(3, .int (l3_1 + 1)), (2, .int (([(-1), 0, 0, 2, 1, 3, 0, 4] : List Int32).getD l2_1.toNatClampNeg 0)), (0, .int x1), (1, .int x2)] [] i a q r (by rfl) ?_
              exact ih1 _ _ (oz14 p1_0 s10 kn1) (kj_meas (oz475 s10 kn1) (oz476 c3 kn8) hm1)
            ·
              have c11 : l2_1.toInt = x2.toInt := kd_neF c; clear c
              refine ft_go mi_k10 1 26 [(3, .int l3_1), (2, .int l2_1), (0, .int x1), (1, .int x2)] [.int 1] i a q r (by rfl) ?_
              exact ft_ret mi_k10 (by rfl) (hP 1 (Or.inl ⟨rfl, trivial⟩))
  exact lp1 _ _ _ (oz46 kn0) (Nat.lt_succ_self _)
set_option maxRecDepth 100000 in
theorem kc118_0 {i : Nat → Int32} {a : Nat → List Int32} {q : Nat → List Int64} {r : Nat → Nat} (hI : kI i a q) (hr : kr r) (x1 : Int32) (x2 : Int32) : km 5 118 [.ref 0, .int x1, .int x2] (ks i a q r) (kPI (ks i a q r) (fun v => True)) := by
  have hG := kG_self kW0 hI hr
  refine km_ofPI (q := (mi_h118, mi_c118)) rfl (by decide) (Nat.le_of_ble_eq_true rfl) ?_
  intro P hP
  first | refine ft_go mi_k118 1 1 [(0, .ref 0), (1, .int x1), (2, .int x2)] [.int x1] i a q r (by rfl) ?_ | refine ko_steps mi_in118 1 _ (1, [(0, .ref 0), (1, .int x1), (2, .int x2)], [.int x1], (0, 0), ks i a q r) (by rfl) ?_
  refine ko_callPI mi_k118.1 (pc := 1) (ls := [(0, .ref 0), (1, .int x1), (2, .int x2)]) (st := [.int x1]) (h := ks i a q r) (i := (.invokestatic 70, 3, 121, 0, 9, 0, 157)) (mi_k118.2 _ _ (by rfl)) (ft_invS mi_pq121 (by rfl)) (cy := mi_c121) mi_pq121 rfl (kc121 hG.I hG.R x1) (by decide) ?_
  intro vg1 hg1
  rcases hg1 with ⟨eg1, hg1⟩ | ⟨eg1, hg1⟩
  ·
    subst eg1
    have z2 : ((0 : Int) ≤ x1.toInt) ∧ (x1.toInt ≤ 5) := hg1
    first | refine ft_go mi_k118 4 11 [(0, .ref 0), (1, .int x1), (2, .int x2)] [.int 7, .int 0, .int x2] i a q r (by rfl) ?_ | refine ko_steps mi_in118 4 _ (11, [(0, .ref 0), (1, .int x1), (2, .int x2)], [.int 7, .int 0, .int x2], (0, 0), ks i a q r) (by rfl) ?_
    refine ko_callPI mi_k118.1 (pc := 11) (ls := [(0, .ref 0), (1, .int x1), (2, .int x2)]) (st := [.int 7, .int 0, .int x2]) (h := ks i a q r) (i := (.invokestatic 74, 3, 120, 0, 9, 0, 152)) (mi_k118.2 _ _ (by rfl)) (ft_invS mi_pq120 (by rfl)) (cy := mi_c120) mi_pq120 rfl (kc120 hG.I hG.R x2 0 7) (by decide) ?_
    intro vg3 hg3
    rcases hg3 with ⟨eg3, hg3⟩ | ⟨eg3, hg3⟩
    ·
      subst eg3
      first | refine ft_go mi_k118 4 24 [(0, .ref 0), (1, .int x1), (2, .int x2)] [.int x1, .ref 97] i a q r (by rfl) ?_ | refine ko_steps mi_in118 4 _ (24, [(0, .ref 0), (1, .int x1), (2, .int x2)], [.int x1, .ref 97], (0, 0), ks i a q r) (by rfl) ?_
      by_cases w5 : x1.toInt = 0
      ·
        refine ko_eq (x1 := (24, [(0, .ref 0), (1, .int x1), (2, .int x2)], [.int 0, .ref 97], (0, 0), ks i a q r)) (by rw [(kj_eq w5 (by decide) : x1 = 0)]) ?_
        first | refine ft_go mi_k118 4 30 [(3, .ref 104), (0, .ref 0), (1, .int x1), (2, .int x2)] [.int (i 6656)] i a q r (by rfl) ?_ | refine ko_steps mi_in118 4 _ (30, [(3, .ref 104), (0, .ref 0), (1, .int x1), (2, .int x2)], [.int (i 6656)], (0, 0), ks i a q r) (by rfl) ?_
        refine ft_if mi_k118 ((i 6656) != 0) 36 33 [(3, .ref 104), (0, .ref 0), (1, .int x1), (2, .int x2)] [] (by rfl) (fun c => ?_) (fun c => ?_)
        ·
          have c6 : (i 6656).toInt ≠ (0 : Int32).toInt := kd_ne c; clear c
          first | refine ft_go mi_k118 3 41 [(3, .ref 104), (0, .ref 0), (1, .int x1), (2, .int x2)] [.int 1, .int (i 6656)] i a q r (by rfl) ?_ | refine ko_steps mi_in118 3 _ (41, [(3, .ref 104), (0, .ref 0), (1, .int x1), (2, .int x2)], [.int 1, .int (i 6656)], (0, 0), ks i a q r) (by rfl) ?_
          refine ft_if mi_k118 ((i 6656) != 1) 58 44 [(3, .ref 104), (0, .ref 0), (1, .int x1), (2, .int x2)] [] (by rfl) (fun c => ?_) (fun c => ?_)
          ·
            have c7 : (i 6656).toInt ≠ (1 : Int32).toInt := kd_ne c; clear c
            first | refine ft_go mi_k118 1 60 [(3, .ref 104), (0, .ref 0), (1, .int x1), (2, .int x2)] [.int (-12)] i a q r (by rfl) ?_ | refine ko_steps mi_in118 1 _ (60, [(3, .ref 104), (0, .ref 0), (1, .int x1), (2, .int x2)], [.int (-12)], (0, 0), ks i a q r) (by rfl) ?_
            exact ft_ret mi_k118 (by rfl) (hP (-12) trivial)
          ·
            have c8 : (i 6656).toInt = (1 : Int32).toInt := kd_neF c; clear c
            first | refine ft_go mi_k118 4 52 [(3, .ref 104), (0, .ref 0), (1, .int x1), (2, .int x2)] [.int (i 6657), .ref 94] i a q r (by rfl) ?_ | refine ko_steps mi_in118 4 _ (52, [(3, .ref 104), (0, .ref 0), (1, .int x1), (2, .int x2)], [.int (i 6657), .ref 94], (0, 0), ks i a q r) (by rfl) ?_
            refine ko_callPI mi_k118.1 (pc := 52) (ls := [(3, .ref 104), (0, .ref 0), (1, .int x1), (2, .int x2)]) (st := [.int (i 6657), .ref 94]) (h := ks i a q r) (i := (.invokevirtual 301, 3, 8, 0, 9, 0, 304)) (mi_k118.2 _ _ (by rfl)) (ft_invS mi_pq8 (by rfl)) (cy := mi_c8) mi_pq8 rfl (kc8_94 hG.I hG.R (i 6657)) (by decide) ?_
            intro vg9 hg9
            rcases hg9 with ⟨eg9, hg9⟩ | ⟨eg9, hg9⟩
            ·
              subst eg9
              have fi_6017 : ((0 : Int) ≤ (i 6017).toInt) ∧ ((i 6017).toInt ≤ 50) := hG.I.1 6017
              have z10 : ((0 : Int) ≤ (i 6657).toInt) ∧ ((i 6657).toInt < (i 6017).toInt) := hg9
              first | refine ft_go mi_k118 6 72 [(3, .ref 104), (0, .ref 0), (1, .int x1), (2, .int x2)] [.int (i 6657), .ref 95] i a q r (by rfl) ?_ | refine ko_steps mi_in118 6 _ (72, [(3, .ref 104), (0, .ref 0), (1, .int x1), (2, .int x2)], [.int (i 6657), .ref 95], (0, 0), ks i a q r) (by rfl) ?_
              refine ko_iald3 mi_k118.1 (n := 50) (c := 50) (ax := (0, 0, 0, 0, 0)) (mi_k118.2 _ _ (by rfl)) (by rfl) (ksG95 _ _ _ _) (hG.I.2.1 95) rfl (oz3 z10.1) (oz1283 fi_6017.2 z10.2) ?_
              have r11 : ((0 : Int) ≤ ((a 95).getD (i 6657).toNatClampNeg 0).toInt) ∧ (((a 95).getD (i 6657).toNatClampNeg 0).toInt ≤ 7) := hG.I.2.2.1 95 ((i 6657).toNatClampNeg)
              first | refine ft_go mi_k118 3 78 [(4, .int ((a 95).getD (i 6657).toNatClampNeg 0)), (3, .ref 104), (0, .ref 0), (1, .int x1), (2, .int x2)] [.int x2, .int ((a 95).getD (i 6657).toNatClampNeg 0)] i a q r (by rfl) ?_ | refine ko_steps mi_in118 3 _ (78, [(4, .int ((a 95).getD (i 6657).toNatClampNeg 0)), (3, .ref 104), (0, .ref 0), (1, .int x1), (2, .int x2)], [.int x2, .int ((a 95).getD (i 6657).toNatClampNeg 0)], (0, 0), ks i a q r) (by rfl) ?_
              refine ko_callPI mi_k118.1 (pc := 78) (ls := [(4, .int ((a 95).getD (i 6657).toNatClampNeg 0)), (3, .ref 104), (0, .ref 0), (1, .int x1), (2, .int x2)]) (st := [.int x2, .int ((a 95).getD (i 6657).toNatClampNeg 0)]) (h := ks i a q r) (i := (.invokestatic 339, 3, 10, 0, 9, 0, 319)) (mi_k118.2 _ _ (by rfl)) (ft_invS mi_pq10 (by rfl)) (cy := mi_c10) mi_pq10 rfl (kc10 hG.I hG.R ((a 95).getD (i 6657).toNatClampNeg 0) x2) (by decide) ?_
              intro vg12 hg12
              rcases hg12 with ⟨eg12, hg12⟩ | ⟨eg12, hg12⟩
              ·
                subst eg12
                first | refine ft_go mi_k118 3 91 [(4, .int ((a 95).getD (i 6657).toNatClampNeg 0)), (3, .ref 104), (0, .ref 0), (1, .int x1), (2, .int x2)] [.int ((a 95).getD (i 6657).toNatClampNeg 0)] i a q r (by rfl) ?_ | refine ko_steps mi_in118 3 _ (91, [(4, .int ((a 95).getD (i 6657).toNatClampNeg 0)), (3, .ref 104), (0, .ref 0), (1, .int x1), (2, .int x2)], [.int ((a 95).getD (i 6657).toNatClampNeg 0)], (0, 0), ks i a q r) (by rfl) ?_
                exact ft_ret mi_k118 (by rfl) (hP ((a 95).getD (i 6657).toNatClampNeg 0) trivial)
              ·
                subst eg12
                first | refine ft_go mi_k118 2 91 [(4, .int ((a 95).getD (i 6657).toNatClampNeg 0)), (3, .ref 104), (0, .ref 0), (1, .int x1), (2, .int x2)] [.int (-12)] i a q r (by rfl) ?_ | refine ko_steps mi_in118 2 _ (91, [(4, .int ((a 95).getD (i 6657).toNatClampNeg 0)), (3, .ref 104), (0, .ref 0), (1, .int x1), (2, .int x2)], [.int (-12)], (0, 0), ks i a q r) (by rfl) ?_
                exact ft_ret mi_k118 (by rfl) (hP (-12) trivial)
            ·
              subst eg9
              first | refine ft_go mi_k118 2 60 [(3, .ref 104), (0, .ref 0), (1, .int x1), (2, .int x2)] [.int (-12)] i a q r (by rfl) ?_ | refine ko_steps mi_in118 2 _ (60, [(3, .ref 104), (0, .ref 0), (1, .int x1), (2, .int x2)], [.int (-12)], (0, 0), ks i a q r) (by rfl) ?_
              exact ft_ret mi_k118 (by rfl) (hP (-12) trivial)
        ·
          have c14 : (i 6656).toInt = (0 : Int32).toInt := kd_neF c; clear c
          first | refine ft_go mi_k118 1 35 [(3, .ref 104), (0, .ref 0), (1, .int x1), (2, .int x2)] [.int (-11)] i a q r (by rfl) ?_ | refine ko_steps mi_in118 1 _ (35, [(3, .ref 104), (0, .ref 0), (1, .int x1), (2, .int x2)], [.int (-11)], (0, 0), ks i a q r) (by rfl) ?_
          exact ft_ret mi_k118 (by rfl) (hP (-11) trivial)
      by_cases w15 : x1.toInt = 1
      ·
        refine ko_eq (x1 := (24, [(0, .ref 0), (1, .int x1), (2, .int x2)], [.int 1, .ref 97], (0, 0), ks i a q r)) (by rw [(kj_eq w15 (by decide) : x1 = 1)]) ?_
        first | refine ft_go mi_k118 4 30 [(3, .ref 106), (0, .ref 0), (1, .int x1), (2, .int x2)] [.int (i 6784)] i a q r (by rfl) ?_ | refine ko_steps mi_in118 4 _ (30, [(3, .ref 106), (0, .ref 0), (1, .int x1), (2, .int x2)], [.int (i 6784)], (0, 0), ks i a q r) (by rfl) ?_
        refine ft_if mi_k118 ((i 6784) != 0) 36 33 [(3, .ref 106), (0, .ref 0), (1, .int x1), (2, .int x2)] [] (by rfl) (fun c => ?_) (fun c => ?_)
        ·
          have c16 : (i 6784).toInt ≠ (0 : Int32).toInt := kd_ne c; clear c
          first | refine ft_go mi_k118 3 41 [(3, .ref 106), (0, .ref 0), (1, .int x1), (2, .int x2)] [.int 1, .int (i 6784)] i a q r (by rfl) ?_ | refine ko_steps mi_in118 3 _ (41, [(3, .ref 106), (0, .ref 0), (1, .int x1), (2, .int x2)], [.int 1, .int (i 6784)], (0, 0), ks i a q r) (by rfl) ?_
          refine ft_if mi_k118 ((i 6784) != 1) 58 44 [(3, .ref 106), (0, .ref 0), (1, .int x1), (2, .int x2)] [] (by rfl) (fun c => ?_) (fun c => ?_)
          ·
            have c17 : (i 6784).toInt ≠ (1 : Int32).toInt := kd_ne c; clear c
            first | refine ft_go mi_k118 1 60 [(3, .ref 106), (0, .ref 0), (1, .int x1), (2, .int x2)] [.int (-12)] i a q r (by rfl) ?_ | refine ko_steps mi_in118 1 _ (60, [(3, .ref 106), (0, .ref 0), (1, .int x1), (2, .int x2)], [.int (-12)], (0, 0), ks i a q r) (by rfl) ?_
            exact ft_ret mi_k118 (by rfl) (hP (-12) trivial)
          ·
            have c18 : (i 6784).toInt = (1 : Int32).toInt := kd_neF c; clear c
            first | refine ft_go mi_k118 4 52 [(3, .ref 106), (0, .ref 0), (1, .int x1), (2, .int x2)] [.int (i 6785), .ref 94] i a q r (by rfl) ?_ | refine ko_steps mi_in118 4 _ (52, [(3, .ref 106), (0, .ref 0), (1, .int x1), (2, .int x2)], [.int (i 6785), .ref 94], (0, 0), ks i a q r) (by rfl) ?_
            refine ko_callPI mi_k118.1 (pc := 52) (ls := [(3, .ref 106), (0, .ref 0), (1, .int x1), (2, .int x2)]) (st := [.int (i 6785), .ref 94]) (h := ks i a q r) (i := (.invokevirtual 301, 3, 8, 0, 9, 0, 304)) (mi_k118.2 _ _ (by rfl)) (ft_invS mi_pq8 (by rfl)) (cy := mi_c8) mi_pq8 rfl (kc8_94 hG.I hG.R (i 6785)) (by decide) ?_
            intro vg19 hg19
            rcases hg19 with ⟨eg19, hg19⟩ | ⟨eg19, hg19⟩
            ·
              subst eg19
              have fi_6017 : ((0 : Int) ≤ (i 6017).toInt) ∧ ((i 6017).toInt ≤ 50) := hG.I.1 6017
              have z20 : ((0 : Int) ≤ (i 6785).toInt) ∧ ((i 6785).toInt < (i 6017).toInt) := hg19
              first | refine ft_go mi_k118 6 72 [(3, .ref 106), (0, .ref 0), (1, .int x1), (2, .int x2)] [.int (i 6785), .ref 95] i a q r (by rfl) ?_ | refine ko_steps mi_in118 6 _ (72, [(3, .ref 106), (0, .ref 0), (1, .int x1), (2, .int x2)], [.int (i 6785), .ref 95], (0, 0), ks i a q r) (by rfl) ?_
              refine ko_iald3 mi_k118.1 (n := 50) (c := 50) (ax := (0, 0, 0, 0, 0)) (mi_k118.2 _ _ (by rfl)) (by rfl) (ksG95 _ _ _ _) (hG.I.2.1 95) rfl (oz3 z20.1) (oz1283 fi_6017.2 z20.2) ?_
              have r21 : ((0 : Int) ≤ ((a 95).getD (i 6785).toNatClampNeg 0).toInt) ∧ (((a 95).getD (i 6785).toNatClampNeg 0).toInt ≤ 7) := hG.I.2.2.1 95 ((i 6785).toNatClampNeg)
              first | refine ft_go mi_k118 3 78 [(4, .int ((a 95).getD (i 6785).toNatClampNeg 0)), (3, .ref 106), (0, .ref 0), (1, .int x1), (2, .int x2)] [.int x2, .int ((a 95).getD (i 6785).toNatClampNeg 0)] i a q r (by rfl) ?_ | refine ko_steps mi_in118 3 _ (78, [(4, .int ((a 95).getD (i 6785).toNatClampNeg 0)), (3, .ref 106), (0, .ref 0), (1, .int x1), (2, .int x2)], [.int x2, .int ((a 95).getD (i 6785).toNatClampNeg 0)], (0, 0), ks i a q r) (by rfl) ?_
              refine ko_callPI mi_k118.1 (pc := 78) (ls := [(4, .int ((a 95).getD (i 6785).toNatClampNeg 0)), (3, .ref 106), (0, .ref 0), (1, .int x1), (2, .int x2)]) (st := [.int x2, .int ((a 95).getD (i 6785).toNatClampNeg 0)]) (h := ks i a q r) (i := (.invokestatic 339, 3, 10, 0, 9, 0, 319)) (mi_k118.2 _ _ (by rfl)) (ft_invS mi_pq10 (by rfl)) (cy := mi_c10) mi_pq10 rfl (kc10 hG.I hG.R ((a 95).getD (i 6785).toNatClampNeg 0) x2) (by decide) ?_
              intro vg22 hg22
              rcases hg22 with ⟨eg22, hg22⟩ | ⟨eg22, hg22⟩
              ·
                subst eg22
                first | refine ft_go mi_k118 3 91 [(4, .int ((a 95).getD (i 6785).toNatClampNeg 0)), (3, .ref 106), (0, .ref 0), (1, .int x1), (2, .int x2)] [.int ((a 95).getD (i 6785).toNatClampNeg 0)] i a q r (by rfl) ?_ | refine ko_steps mi_in118 3 _ (91, [(4, .int ((a 95).getD (i 6785).toNatClampNeg 0)), (3, .ref 106), (0, .ref 0), (1, .int x1), (2, .int x2)], [.int ((a 95).getD (i 6785).toNatClampNeg 0)], (0, 0), ks i a q r) (by rfl) ?_
                exact ft_ret mi_k118 (by rfl) (hP ((a 95).getD (i 6785).toNatClampNeg 0) trivial)
              ·
                subst eg22
                first | refine ft_go mi_k118 2 91 [(4, .int ((a 95).getD (i 6785).toNatClampNeg 0)), (3, .ref 106), (0, .ref 0), (1, .int x1), (2, .int x2)] [.int (-12)] i a q r (by rfl) ?_ | refine ko_steps mi_in118 2 _ (91, [(4, .int ((a 95).getD (i 6785).toNatClampNeg 0)), (3, .ref 106), (0, .ref 0), (1, .int x1), (2, .int x2)], [.int (-12)], (0, 0), ks i a q r) (by rfl) ?_
                exact ft_ret mi_k118 (by rfl) (hP (-12) trivial)
            ·
              subst eg19
              first | refine ft_go mi_k118 2 60 [(3, .ref 106), (0, .ref 0), (1, .int x1), (2, .int x2)] [.int (-12)] i a q r (by rfl) ?_ | refine ko_steps mi_in118 2 _ (60, [(3, .ref 106), (0, .ref 0), (1, .int x1), (2, .int x2)], [.int (-12)], (0, 0), ks i a q r) (by rfl) ?_
              exact ft_ret mi_k118 (by rfl) (hP (-12) trivial)
        ·
          have c24 : (i 6784).toInt = (0 : Int32).toInt := kd_neF c; clear c
          first | refine ft_go mi_k118 1 35 [(3, .ref 106), (0, .ref 0), (1, .int x1), (2, .int x2)] [.int (-11)] i a q r (by rfl) ?_ | refine ko_steps mi_in118 1 _ (35, [(3, .ref 106), (0, .ref 0), (1, .int x1), (2, .int x2)], [.int (-11)], (0, 0), ks i a q r) (by rfl) ?_
          exact ft_ret mi_k118 (by rfl) (hP (-11) trivial)
      by_cases w25 : x1.toInt = 2
      ·
        refine ko_eq (x1 := (24, [(0, .ref 0), (1, .int x1), (2, .int x2)], [.int 2, .ref 97], (0, 0), ks i a q r)) (by rw [(kj_eq w25 (by decide) : x1 = 2)]) ?_
        first | refine ft_go mi_k118 4 30 [(3, .ref 108), (0, .ref 0), (1, .int x1), (2, .int x2)] [.int (i 6912)] i a q r (by rfl) ?_ | refine ko_steps mi_in118 4 _ (30, [(3, .ref 108), (0, .ref 0), (1, .int x1), (2, .int x2)], [.int (i 6912)], (0, 0), ks i a q r) (by rfl) ?_
        refine ft_if mi_k118 ((i 6912) != 0) 36 33 [(3, .ref 108), (0, .ref 0), (1, .int x1), (2, .int x2)] [] (by rfl) (fun c => ?_) (fun c => ?_)
        ·
          have c26 : (i 6912).toInt ≠ (0 : Int32).toInt := kd_ne c; clear c
          first | refine ft_go mi_k118 3 41 [(3, .ref 108), (0, .ref 0), (1, .int x1), (2, .int x2)] [.int 1, .int (i 6912)] i a q r (by rfl) ?_ | refine ko_steps mi_in118 3 _ (41, [(3, .ref 108), (0, .ref 0), (1, .int x1), (2, .int x2)], [.int 1, .int (i 6912)], (0, 0), ks i a q r) (by rfl) ?_
          refine ft_if mi_k118 ((i 6912) != 1) 58 44 [(3, .ref 108), (0, .ref 0), (1, .int x1), (2, .int x2)] [] (by rfl) (fun c => ?_) (fun c => ?_)
          ·
            have c27 : (i 6912).toInt ≠ (1 : Int32).toInt := kd_ne c; clear c
            first | refine ft_go mi_k118 1 60 [(3, .ref 108), (0, .ref 0), (1, .int x1), (2, .int x2)] [.int (-12)] i a q r (by rfl) ?_ | refine ko_steps mi_in118 1 _ (60, [(3, .ref 108), (0, .ref 0), (1, .int x1), (2, .int x2)], [.int (-12)], (0, 0), ks i a q r) (by rfl) ?_
            exact ft_ret mi_k118 (by rfl) (hP (-12) trivial)
          ·
            have c28 : (i 6912).toInt = (1 : Int32).toInt := kd_neF c; clear c
            first | refine ft_go mi_k118 4 52 [(3, .ref 108), (0, .ref 0), (1, .int x1), (2, .int x2)] [.int (i 6913), .ref 94] i a q r (by rfl) ?_ | refine ko_steps mi_in118 4 _ (52, [(3, .ref 108), (0, .ref 0), (1, .int x1), (2, .int x2)], [.int (i 6913), .ref 94], (0, 0), ks i a q r) (by rfl) ?_
            refine ko_callPI mi_k118.1 (pc := 52) (ls := [(3, .ref 108), (0, .ref 0), (1, .int x1), (2, .int x2)]) (st := [.int (i 6913), .ref 94]) (h := ks i a q r) (i := (.invokevirtual 301, 3, 8, 0, 9, 0, 304)) (mi_k118.2 _ _ (by rfl)) (ft_invS mi_pq8 (by rfl)) (cy := mi_c8) mi_pq8 rfl (kc8_94 hG.I hG.R (i 6913)) (by decide) ?_
            intro vg29 hg29
            rcases hg29 with ⟨eg29, hg29⟩ | ⟨eg29, hg29⟩
            ·
              subst eg29
              have fi_6017 : ((0 : Int) ≤ (i 6017).toInt) ∧ ((i 6017).toInt ≤ 50) := hG.I.1 6017
              have z30 : ((0 : Int) ≤ (i 6913).toInt) ∧ ((i 6913).toInt < (i 6017).toInt) := hg29
              first | refine ft_go mi_k118 6 72 [(3, .ref 108), (0, .ref 0), (1, .int x1), (2, .int x2)] [.int (i 6913), .ref 95] i a q r (by rfl) ?_ | refine ko_steps mi_in118 6 _ (72, [(3, .ref 108), (0, .ref 0), (1, .int x1), (2, .int x2)], [.int (i 6913), .ref 95], (0, 0), ks i a q r) (by rfl) ?_
              refine ko_iald3 mi_k118.1 (n := 50) (c := 50) (ax := (0, 0, 0, 0, 0)) (mi_k118.2 _ _ (by rfl)) (by rfl) (ksG95 _ _ _ _) (hG.I.2.1 95) rfl (oz3 z30.1) (oz1283 fi_6017.2 z30.2) ?_
              have r31 : ((0 : Int) ≤ ((a 95).getD (i 6913).toNatClampNeg 0).toInt) ∧ (((a 95).getD (i 6913).toNatClampNeg 0).toInt ≤ 7) := hG.I.2.2.1 95 ((i 6913).toNatClampNeg)
              first | refine ft_go mi_k118 3 78 [(4, .int ((a 95).getD (i 6913).toNatClampNeg 0)), (3, .ref 108), (0, .ref 0), (1, .int x1), (2, .int x2)] [.int x2, .int ((a 95).getD (i 6913).toNatClampNeg 0)] i a q r (by rfl) ?_ | refine ko_steps mi_in118 3 _ (78, [(4, .int ((a 95).getD (i 6913).toNatClampNeg 0)), (3, .ref 108), (0, .ref 0), (1, .int x1), (2, .int x2)], [.int x2, .int ((a 95).getD (i 6913).toNatClampNeg 0)], (0, 0), ks i a q r) (by rfl) ?_
              refine ko_callPI mi_k118.1 (pc := 78) (ls := [(4, .int ((a 95).getD (i 6913).toNatClampNeg 0)), (3, .ref 108), (0, .ref 0), (1, .int x1), (2, .int x2)]) (st := [.int x2, .int ((a 95).getD (i 6913).toNatClampNeg 0)]) (h := ks i a q r) (i := (.invokestatic 339, 3, 10, 0, 9, 0, 319)) (mi_k118.2 _ _ (by rfl)) (ft_invS mi_pq10 (by rfl)) (cy := mi_c10) mi_pq10 rfl (kc10 hG.I hG.R ((a 95).getD (i 6913).toNatClampNeg 0) x2) (by decide) ?_
              intro vg32 hg32
              rcases hg32 with ⟨eg32, hg32⟩ | ⟨eg32, hg32⟩
              ·
                subst eg32
                first | refine ft_go mi_k118 3 91 [(4, .int ((a 95).getD (i 6913).toNatClampNeg 0)), (3, .ref 108), (0, .ref 0), (1, .int x1), (2, .int x2)] [.int ((a 95).getD (i 6913).toNatClampNeg 0)] i a q r (by rfl) ?_ | refine ko_steps mi_in118 3 _ (91, [(4, .int ((a 95).getD (i 6913).toNatClampNeg 0)), (3, .ref 108), (0, .ref 0), (1, .int x1), (2, .int x2)], [.int ((a 95).getD (i 6913).toNatClampNeg 0)], (0, 0), ks i a q r) (by rfl) ?_
                exact ft_ret mi_k118 (by rfl) (hP ((a 95).getD (i 6913).toNatClampNeg 0) trivial)
              ·
                subst eg32
                first | refine ft_go mi_k118 2 91 [(4, .int ((a 95).getD (i 6913).toNatClampNeg 0)), (3, .ref 108), (0, .ref 0), (1, .int x1), (2, .int x2)] [.int (-12)] i a q r (by rfl) ?_ | refine ko_steps mi_in118 2 _ (91, [(4, .int ((a 95).getD (i 6913).toNatClampNeg 0)), (3, .ref 108), (0, .ref 0), (1, .int x1), (2, .int x2)], [.int (-12)], (0, 0), ks i a q r) (by rfl) ?_
                exact ft_ret mi_k118 (by rfl) (hP (-12) trivial)
            ·
              subst eg29
              first | refine ft_go mi_k118 2 60 [(3, .ref 108), (0, .ref 0), (1, .int x1), (2, .int x2)] [.int (-12)] i a q r (by rfl) ?_ | refine ko_steps mi_in118 2 _ (60, [(3, .ref 108), (0, .ref 0), (1, .int x1), (2, .int x2)], [.int (-12)], (0, 0), ks i a q r) (by rfl) ?_
              exact ft_ret mi_k118 (by rfl) (hP (-12) trivial)
        ·
          have c34 : (i 6912).toInt = (0 : Int32).toInt := kd_neF c; clear c
          first | refine ft_go mi_k118 1 35 [(3, .ref 108), (0, .ref 0), (1, .int x1), (2, .int x2)] [.int (-11)] i a q r (by rfl) ?_ | refine ko_steps mi_in118 1 _ (35, [(3, .ref 108), (0, .ref 0), (1, .int x1), (2, .int x2)], [.int (-11)], (0, 0), ks i a q r) (by rfl) ?_
          exact ft_ret mi_k118 (by rfl) (hP (-11) trivial)
      by_cases w35 : x1.toInt = 3
      ·
        refine ko_eq (x1 := (24, [(0, .ref 0), (1, .int x1), (2, .int x2)], [.int 3, .ref 97], (0, 0), ks i a q r)) (by rw [(kj_eq w35 (by decide) : x1 = 3)]) ?_
        first | refine ft_go mi_k118 4 30 [(3, .ref 110), (0, .ref 0), (1, .int x1), (2, .int x2)] [.int (i 7040)] i a q r (by rfl) ?_ | refine ko_steps mi_in118 4 _ (30, [(3, .ref 110), (0, .ref 0), (1, .int x1), (2, .int x2)], [.int (i 7040)], (0, 0), ks i a q r) (by rfl) ?_
        refine ft_if mi_k118 ((i 7040) != 0) 36 33 [(3, .ref 110), (0, .ref 0), (1, .int x1), (2, .int x2)] [] (by rfl) (fun c => ?_) (fun c => ?_)
        ·
          have c36 : (i 7040).toInt ≠ (0 : Int32).toInt := kd_ne c; clear c
          first | refine ft_go mi_k118 3 41 [(3, .ref 110), (0, .ref 0), (1, .int x1), (2, .int x2)] [.int 1, .int (i 7040)] i a q r (by rfl) ?_ | refine ko_steps mi_in118 3 _ (41, [(3, .ref 110), (0, .ref 0), (1, .int x1), (2, .int x2)], [.int 1, .int (i 7040)], (0, 0), ks i a q r) (by rfl) ?_
          refine ft_if mi_k118 ((i 7040) != 1) 58 44 [(3, .ref 110), (0, .ref 0), (1, .int x1), (2, .int x2)] [] (by rfl) (fun c => ?_) (fun c => ?_)
          ·
            have c37 : (i 7040).toInt ≠ (1 : Int32).toInt := kd_ne c; clear c
            first | refine ft_go mi_k118 1 60 [(3, .ref 110), (0, .ref 0), (1, .int x1), (2, .int x2)] [.int (-12)] i a q r (by rfl) ?_ | refine ko_steps mi_in118 1 _ (60, [(3, .ref 110), (0, .ref 0), (1, .int x1), (2, .int x2)], [.int (-12)], (0, 0), ks i a q r) (by rfl) ?_
            exact ft_ret mi_k118 (by rfl) (hP (-12) trivial)
          ·
            have c38 : (i 7040).toInt = (1 : Int32).toInt := kd_neF c; clear c
            first | refine ft_go mi_k118 4 52 [(3, .ref 110), (0, .ref 0), (1, .int x1), (2, .int x2)] [.int (i 7041), .ref 94] i a q r (by rfl) ?_ | refine ko_steps mi_in118 4 _ (52, [(3, .ref 110), (0, .ref 0), (1, .int x1), (2, .int x2)], [.int (i 7041), .ref 94], (0, 0), ks i a q r) (by rfl) ?_
            refine ko_callPI mi_k118.1 (pc := 52) (ls := [(3, .ref 110), (0, .ref 0), (1, .int x1), (2, .int x2)]) (st := [.int (i 7041), .ref 94]) (h := ks i a q r) (i := (.invokevirtual 301, 3, 8, 0, 9, 0, 304)) (mi_k118.2 _ _ (by rfl)) (ft_invS mi_pq8 (by rfl)) (cy := mi_c8) mi_pq8 rfl (kc8_94 hG.I hG.R (i 7041)) (by decide) ?_
            intro vg39 hg39
            rcases hg39 with ⟨eg39, hg39⟩ | ⟨eg39, hg39⟩
            ·
              subst eg39
              have fi_6017 : ((0 : Int) ≤ (i 6017).toInt) ∧ ((i 6017).toInt ≤ 50) := hG.I.1 6017
              have z40 : ((0 : Int) ≤ (i 7041).toInt) ∧ ((i 7041).toInt < (i 6017).toInt) := hg39
              first | refine ft_go mi_k118 6 72 [(3, .ref 110), (0, .ref 0), (1, .int x1), (2, .int x2)] [.int (i 7041), .ref 95] i a q r (by rfl) ?_ | refine ko_steps mi_in118 6 _ (72, [(3, .ref 110), (0, .ref 0), (1, .int x1), (2, .int x2)], [.int (i 7041), .ref 95], (0, 0), ks i a q r) (by rfl) ?_
              refine ko_iald3 mi_k118.1 (n := 50) (c := 50) (ax := (0, 0, 0, 0, 0)) (mi_k118.2 _ _ (by rfl)) (by rfl) (ksG95 _ _ _ _) (hG.I.2.1 95) rfl (oz3 z40.1) (oz1283 fi_6017.2 z40.2) ?_
              have r41 : ((0 : Int) ≤ ((a 95).getD (i 7041).toNatClampNeg 0).toInt) ∧ (((a 95).getD (i 7041).toNatClampNeg 0).toInt ≤ 7) := hG.I.2.2.1 95 ((i 7041).toNatClampNeg)
              first | refine ft_go mi_k118 3 78 [(4, .int ((a 95).getD (i 7041).toNatClampNeg 0)), (3, .ref 110), (0, .ref 0), (1, .int x1), (2, .int x2)] [.int x2, .int ((a 95).getD (i 7041).toNatClampNeg 0)] i a q r (by rfl) ?_ | refine ko_steps mi_in118 3 _ (78, [(4, .int ((a 95).getD (i 7041).toNatClampNeg 0)), (3, .ref 110), (0, .ref 0), (1, .int x1), (2, .int x2)], [.int x2, .int ((a 95).getD (i 7041).toNatClampNeg 0)], (0, 0), ks i a q r) (by rfl) ?_
              refine ko_callPI mi_k118.1 (pc := 78) (ls := [(4, .int ((a 95).getD (i 7041).toNatClampNeg 0)), (3, .ref 110), (0, .ref 0), (1, .int x1), (2, .int x2)]) (st := [.int x2, .int ((a 95).getD (i 7041).toNatClampNeg 0)]) (h := ks i a q r) (i := (.invokestatic 339, 3, 10, 0, 9, 0, 319)) (mi_k118.2 _ _ (by rfl)) (ft_invS mi_pq10 (by rfl)) (cy := mi_c10) mi_pq10 rfl (kc10 hG.I hG.R ((a 95).getD (i 7041).toNatClampNeg 0) x2) (by decide) ?_
              intro vg42 hg42
              rcases hg42 with ⟨eg42, hg42⟩ | ⟨eg42, hg42⟩
              ·
                subst eg42
                first | refine ft_go mi_k118 3 91 [(4, .int ((a 95).getD (i 7041).toNatClampNeg 0)), (3, .ref 110), (0, .ref 0), (1, .int x1), (2, .int x2)] [.int ((a 95).getD (i 7041).toNatClampNeg 0)] i a q r (by rfl) ?_ | refine ko_steps mi_in118 3 _ (91, [(4, .int ((a 95).getD (i 7041).toNatClampNeg 0)), (3, .ref 110), (0, .ref 0), (1, .int x1), (2, .int x2)], [.int ((a 95).getD (i 7041).toNatClampNeg 0)], (0, 0), ks i a q r) (by rfl) ?_
                exact ft_ret mi_k118 (by rfl) (hP ((a 95).getD (i 7041).toNatClampNeg 0) trivial)
              ·
                subst eg42
                first | refine ft_go mi_k118 2 91 [(4, .int ((a 95).getD (i 7041).toNatClampNeg 0)), (3, .ref 110), (0, .ref 0), (1, .int x1), (2, .int x2)] [.int (-12)] i a q r (by rfl) ?_ | refine ko_steps mi_in118 2 _ (91, [(4, .int ((a 95).getD (i 7041).toNatClampNeg 0)), (3, .ref 110), (0, .ref 0), (1, .int x1), (2, .int x2)], [.int (-12)], (0, 0), ks i a q r) (by rfl) ?_
                exact ft_ret mi_k118 (by rfl) (hP (-12) trivial)
            ·
              subst eg39
              first | refine ft_go mi_k118 2 60 [(3, .ref 110), (0, .ref 0), (1, .int x1), (2, .int x2)] [.int (-12)] i a q r (by rfl) ?_ | refine ko_steps mi_in118 2 _ (60, [(3, .ref 110), (0, .ref 0), (1, .int x1), (2, .int x2)], [.int (-12)], (0, 0), ks i a q r) (by rfl) ?_
              exact ft_ret mi_k118 (by rfl) (hP (-12) trivial)
        ·
          have c44 : (i 7040).toInt = (0 : Int32).toInt := kd_neF c; clear c
          first | refine ft_go mi_k118 1 35 [(3, .ref 110), (0, .ref 0), (1, .int x1), (2, .int x2)] [.int (-11)] i a q r (by rfl) ?_ | refine ko_steps mi_in118 1 _ (35, [(3, .ref 110), (0, .ref 0), (1, .int x1), (2, .int x2)], [.int (-11)], (0, 0), ks i a q r) (by rfl) ?_
          exact ft_ret mi_k118 (by rfl) (hP (-11) trivial)
      by_cases w45 : x1.toInt = 4
      ·
        refine ko_eq (x1 := (24, [(0, .ref 0), (1, .int x1), (2, .int x2)], [.int 4, .ref 97], (0, 0), ks i a q r)) (by rw [(kj_eq w45 (by decide) : x1 = 4)]) ?_
        first | refine ft_go mi_k118 4 30 [(3, .ref 112), (0, .ref 0), (1, .int x1), (2, .int x2)] [.int (i 7168)] i a q r (by rfl) ?_ | refine ko_steps mi_in118 4 _ (30, [(3, .ref 112), (0, .ref 0), (1, .int x1), (2, .int x2)], [.int (i 7168)], (0, 0), ks i a q r) (by rfl) ?_
        refine ft_if mi_k118 ((i 7168) != 0) 36 33 [(3, .ref 112), (0, .ref 0), (1, .int x1), (2, .int x2)] [] (by rfl) (fun c => ?_) (fun c => ?_)
        ·
          have c46 : (i 7168).toInt ≠ (0 : Int32).toInt := kd_ne c; clear c
          first | refine ft_go mi_k118 3 41 [(3, .ref 112), (0, .ref 0), (1, .int x1), (2, .int x2)] [.int 1, .int (i 7168)] i a q r (by rfl) ?_ | refine ko_steps mi_in118 3 _ (41, [(3, .ref 112), (0, .ref 0), (1, .int x1), (2, .int x2)], [.int 1, .int (i 7168)], (0, 0), ks i a q r) (by rfl) ?_
          refine ft_if mi_k118 ((i 7168) != 1) 58 44 [(3, .ref 112), (0, .ref 0), (1, .int x1), (2, .int x2)] [] (by rfl) (fun c => ?_) (fun c => ?_)
          ·
            have c47 : (i 7168).toInt ≠ (1 : Int32).toInt := kd_ne c; clear c
            first | refine ft_go mi_k118 1 60 [(3, .ref 112), (0, .ref 0), (1, .int x1), (2, .int x2)] [.int (-12)] i a q r (by rfl) ?_ | refine ko_steps mi_in118 1 _ (60, [(3, .ref 112), (0, .ref 0), (1, .int x1), (2, .int x2)], [.int (-12)], (0, 0), ks i a q r) (by rfl) ?_
            exact ft_ret mi_k118 (by rfl) (hP (-12) trivial)
          ·
            have c48 : (i 7168).toInt = (1 : Int32).toInt := kd_neF c; clear c
            first | refine ft_go mi_k118 4 52 [(3, .ref 112), (0, .ref 0), (1, .int x1), (2, .int x2)] [.int (i 7169), .ref 94] i a q r (by rfl) ?_ | refine ko_steps mi_in118 4 _ (52, [(3, .ref 112), (0, .ref 0), (1, .int x1), (2, .int x2)], [.int (i 7169), .ref 94], (0, 0), ks i a q r) (by rfl) ?_
            refine ko_callPI mi_k118.1 (pc := 52) (ls := [(3, .ref 112), (0, .ref 0), (1, .int x1), (2, .int x2)]) (st := [.int (i 7169), .ref 94]) (h := ks i a q r) (i := (.invokevirtual 301, 3, 8, 0, 9, 0, 304)) (mi_k118.2 _ _ (by rfl)) (ft_invS mi_pq8 (by rfl)) (cy := mi_c8) mi_pq8 rfl (kc8_94 hG.I hG.R (i 7169)) (by decide) ?_
            intro vg49 hg49
            rcases hg49 with ⟨eg49, hg49⟩ | ⟨eg49, hg49⟩
            ·
              subst eg49
              have fi_6017 : ((0 : Int) ≤ (i 6017).toInt) ∧ ((i 6017).toInt ≤ 50) := hG.I.1 6017
              have z50 : ((0 : Int) ≤ (i 7169).toInt) ∧ ((i 7169).toInt < (i 6017).toInt) := hg49
              first | refine ft_go mi_k118 6 72 [(3, .ref 112), (0, .ref 0), (1, .int x1), (2, .int x2)] [.int (i 7169), .ref 95] i a q r (by rfl) ?_ | refine ko_steps mi_in118 6 _ (72, [(3, .ref 112), (0, .ref 0), (1, .int x1), (2, .int x2)], [.int (i 7169), .ref 95], (0, 0), ks i a q r) (by rfl) ?_
              refine ko_iald3 mi_k118.1 (n := 50) (c := 50) (ax := (0, 0, 0, 0, 0)) (mi_k118.2 _ _ (by rfl)) (by rfl) (ksG95 _ _ _ _) (hG.I.2.1 95) rfl (oz3 z50.1) (oz1283 fi_6017.2 z50.2) ?_
              have r51 : ((0 : Int) ≤ ((a 95).getD (i 7169).toNatClampNeg 0).toInt) ∧ (((a 95).getD (i 7169).toNatClampNeg 0).toInt ≤ 7) := hG.I.2.2.1 95 ((i 7169).toNatClampNeg)
              first | refine ft_go mi_k118 3 78 [(4, .int ((a 95).getD (i 7169).toNatClampNeg 0)), (3, .ref 112), (0, .ref 0), (1, .int x1), (2, .int x2)] [.int x2, .int ((a 95).getD (i 7169).toNatClampNeg 0)] i a q r (by rfl) ?_ | refine ko_steps mi_in118 3 _ (78, [(4, .int ((a 95).getD (i 7169).toNatClampNeg 0)), (3, .ref 112), (0, .ref 0), (1, .int x1), (2, .int x2)], [.int x2, .int ((a 95).getD (i 7169).toNatClampNeg 0)], (0, 0), ks i a q r) (by rfl) ?_
              refine ko_callPI mi_k118.1 (pc := 78) (ls := [(4, .int ((a 95).getD (i 7169).toNatClampNeg 0)), (3, .ref 112), (0, .ref 0), (1, .int x1), (2, .int x2)]) (st := [.int x2, .int ((a 95).getD (i 7169).toNatClampNeg 0)]) (h := ks i a q r) (i := (.invokestatic 339, 3, 10, 0, 9, 0, 319)) (mi_k118.2 _ _ (by rfl)) (ft_invS mi_pq10 (by rfl)) (cy := mi_c10) mi_pq10 rfl (kc10 hG.I hG.R ((a 95).getD (i 7169).toNatClampNeg 0) x2) (by decide) ?_
              intro vg52 hg52
              rcases hg52 with ⟨eg52, hg52⟩ | ⟨eg52, hg52⟩
              ·
                subst eg52
                first | refine ft_go mi_k118 3 91 [(4, .int ((a 95).getD (i 7169).toNatClampNeg 0)), (3, .ref 112), (0, .ref 0), (1, .int x1), (2, .int x2)] [.int ((a 95).getD (i 7169).toNatClampNeg 0)] i a q r (by rfl) ?_ | refine ko_steps mi_in118 3 _ (91, [(4, .int ((a 95).getD (i 7169).toNatClampNeg 0)), (3, .ref 112), (0, .ref 0), (1, .int x1), (2, .int x2)], [.int ((a 95).getD (i 7169).toNatClampNeg 0)], (0, 0), ks i a q r) (by rfl) ?_
                exact ft_ret mi_k118 (by rfl) (hP ((a 95).getD (i 7169).toNatClampNeg 0) trivial)
              ·
                subst eg52
                first | refine ft_go mi_k118 2 91 [(4, .int ((a 95).getD (i 7169).toNatClampNeg 0)), (3, .ref 112), (0, .ref 0), (1, .int x1), (2, .int x2)] [.int (-12)] i a q r (by rfl) ?_ | refine ko_steps mi_in118 2 _ (91, [(4, .int ((a 95).getD (i 7169).toNatClampNeg 0)), (3, .ref 112), (0, .ref 0), (1, .int x1), (2, .int x2)], [.int (-12)], (0, 0), ks i a q r) (by rfl) ?_
                exact ft_ret mi_k118 (by rfl) (hP (-12) trivial)
            ·
              subst eg49
              first | refine ft_go mi_k118 2 60 [(3, .ref 112), (0, .ref 0), (1, .int x1), (2, .int x2)] [.int (-12)] i a q r (by rfl) ?_ | refine ko_steps mi_in118 2 _ (60, [(3, .ref 112), (0, .ref 0), (1, .int x1), (2, .int x2)], [.int (-12)], (0, 0), ks i a q r) (by rfl) ?_
              exact ft_ret mi_k118 (by rfl) (hP (-12) trivial)
        ·
          have c54 : (i 7168).toInt = (0 : Int32).toInt := kd_neF c; clear c
          first | refine ft_go mi_k118 1 35 [(3, .ref 112), (0, .ref 0), (1, .int x1), (2, .int x2)] [.int (-11)] i a q r (by rfl) ?_ | refine ko_steps mi_in118 1 _ (35, [(3, .ref 112), (0, .ref 0), (1, .int x1), (2, .int x2)], [.int (-11)], (0, 0), ks i a q r) (by rfl) ?_
          exact ft_ret mi_k118 (by rfl) (hP (-11) trivial)
      by_cases w55 : x1.toInt = 5
      ·
        refine ko_eq (x1 := (24, [(0, .ref 0), (1, .int x1), (2, .int x2)], [.int 5, .ref 97], (0, 0), ks i a q r)) (by rw [(kj_eq w55 (by decide) : x1 = 5)]) ?_
        first | refine ft_go mi_k118 4 30 [(3, .ref 114), (0, .ref 0), (1, .int x1), (2, .int x2)] [.int (i 7296)] i a q r (by rfl) ?_ | refine ko_steps mi_in118 4 _ (30, [(3, .ref 114), (0, .ref 0), (1, .int x1), (2, .int x2)], [.int (i 7296)], (0, 0), ks i a q r) (by rfl) ?_
        refine ft_if mi_k118 ((i 7296) != 0) 36 33 [(3, .ref 114), (0, .ref 0), (1, .int x1), (2, .int x2)] [] (by rfl) (fun c => ?_) (fun c => ?_)
        ·
          have c56 : (i 7296).toInt ≠ (0 : Int32).toInt := kd_ne c; clear c
          first | refine ft_go mi_k118 3 41 [(3, .ref 114), (0, .ref 0), (1, .int x1), (2, .int x2)] [.int 1, .int (i 7296)] i a q r (by rfl) ?_ | refine ko_steps mi_in118 3 _ (41, [(3, .ref 114), (0, .ref 0), (1, .int x1), (2, .int x2)], [.int 1, .int (i 7296)], (0, 0), ks i a q r) (by rfl) ?_
          refine ft_if mi_k118 ((i 7296) != 1) 58 44 [(3, .ref 114), (0, .ref 0), (1, .int x1), (2, .int x2)] [] (by rfl) (fun c => ?_) (fun c => ?_)
          ·
            have c57 : (i 7296).toInt ≠ (1 : Int32).toInt := kd_ne c; clear c
            first | refine ft_go mi_k118 1 60 [(3, .ref 114), (0, .ref 0), (1, .int x1), (2, .int x2)] [.int (-12)] i a q r (by rfl) ?_ | refine ko_steps mi_in118 1 _ (60, [(3, .ref 114), (0, .ref 0), (1, .int x1), (2, .int x2)], [.int (-12)], (0, 0), ks i a q r) (by rfl) ?_
            exact ft_ret mi_k118 (by rfl) (hP (-12) trivial)
          ·
            have c58 : (i 7296).toInt = (1 : Int32).toInt := kd_neF c; clear c
            first | refine ft_go mi_k118 4 52 [(3, .ref 114), (0, .ref 0), (1, .int x1), (2, .int x2)] [.int (i 7297), .ref 94] i a q r (by rfl) ?_ | refine ko_steps mi_in118 4 _ (52, [(3, .ref 114), (0, .ref 0), (1, .int x1), (2, .int x2)], [.int (i 7297), .ref 94], (0, 0), ks i a q r) (by rfl) ?_
            refine ko_callPI mi_k118.1 (pc := 52) (ls := [(3, .ref 114), (0, .ref 0), (1, .int x1), (2, .int x2)]) (st := [.int (i 7297), .ref 94]) (h := ks i a q r) (i := (.invokevirtual 301, 3, 8, 0, 9, 0, 304)) (mi_k118.2 _ _ (by rfl)) (ft_invS mi_pq8 (by rfl)) (cy := mi_c8) mi_pq8 rfl (kc8_94 hG.I hG.R (i 7297)) (by decide) ?_
            intro vg59 hg59
            rcases hg59 with ⟨eg59, hg59⟩ | ⟨eg59, hg59⟩
            ·
              subst eg59
              have fi_6017 : ((0 : Int) ≤ (i 6017).toInt) ∧ ((i 6017).toInt ≤ 50) := hG.I.1 6017
              have z60 : ((0 : Int) ≤ (i 7297).toInt) ∧ ((i 7297).toInt < (i 6017).toInt) := hg59
              first | refine ft_go mi_k118 6 72 [(3, .ref 114), (0, .ref 0), (1, .int x1), (2, .int x2)] [.int (i 7297), .ref 95] i a q r (by rfl) ?_ | refine ko_steps mi_in118 6 _ (72, [(3, .ref 114), (0, .ref 0), (1, .int x1), (2, .int x2)], [.int (i 7297), .ref 95], (0, 0), ks i a q r) (by rfl) ?_
              refine ko_iald3 mi_k118.1 (n := 50) (c := 50) (ax := (0, 0, 0, 0, 0)) (mi_k118.2 _ _ (by rfl)) (by rfl) (ksG95 _ _ _ _) (hG.I.2.1 95) rfl (oz3 z60.1) (oz1283 fi_6017.2 z60.2) ?_
              have r61 : ((0 : Int) ≤ ((a 95).getD (i 7297).toNatClampNeg 0).toInt) ∧ (((a 95).getD (i 7297).toNatClampNeg 0).toInt ≤ 7) := hG.I.2.2.1 95 ((i 7297).toNatClampNeg)
              first | refine ft_go mi_k118 3 78 [(4, .int ((a 95).getD (i 7297).toNatClampNeg 0)), (3, .ref 114), (0, .ref 0), (1, .int x1), (2, .int x2)] [.int x2, .int ((a 95).getD (i 7297).toNatClampNeg 0)] i a q r (by rfl) ?_ | refine ko_steps mi_in118 3 _ (78, [(4, .int ((a 95).getD (i 7297).toNatClampNeg 0)), (3, .ref 114), (0, .ref 0), (1, .int x1), (2, .int x2)], [.int x2, .int ((a 95).getD (i 7297).toNatClampNeg 0)], (0, 0), ks i a q r) (by rfl) ?_
              refine ko_callPI mi_k118.1 (pc := 78) (ls := [(4, .int ((a 95).getD (i 7297).toNatClampNeg 0)), (3, .ref 114), (0, .ref 0), (1, .int x1), (2, .int x2)]) (st := [.int x2, .int ((a 95).getD (i 7297).toNatClampNeg 0)]) (h := ks i a q r) (i := (.invokestatic 339, 3, 10, 0, 9, 0, 319)) (mi_k118.2 _ _ (by rfl)) (ft_invS mi_pq10 (by rfl)) (cy := mi_c10) mi_pq10 rfl (kc10 hG.I hG.R ((a 95).getD (i 7297).toNatClampNeg 0) x2) (by decide) ?_
              intro vg62 hg62
              rcases hg62 with ⟨eg62, hg62⟩ | ⟨eg62, hg62⟩
              ·
                subst eg62
                first | refine ft_go mi_k118 3 91 [(4, .int ((a 95).getD (i 7297).toNatClampNeg 0)), (3, .ref 114), (0, .ref 0), (1, .int x1), (2, .int x2)] [.int ((a 95).getD (i 7297).toNatClampNeg 0)] i a q r (by rfl) ?_ | refine ko_steps mi_in118 3 _ (91, [(4, .int ((a 95).getD (i 7297).toNatClampNeg 0)), (3, .ref 114), (0, .ref 0), (1, .int x1), (2, .int x2)], [.int ((a 95).getD (i 7297).toNatClampNeg 0)], (0, 0), ks i a q r) (by rfl) ?_
                exact ft_ret mi_k118 (by rfl) (hP ((a 95).getD (i 7297).toNatClampNeg 0) trivial)
              ·
                subst eg62
                first | refine ft_go mi_k118 2 91 [(4, .int ((a 95).getD (i 7297).toNatClampNeg 0)), (3, .ref 114), (0, .ref 0), (1, .int x1), (2, .int x2)] [.int (-12)] i a q r (by rfl) ?_ | refine ko_steps mi_in118 2 _ (91, [(4, .int ((a 95).getD (i 7297).toNatClampNeg 0)), (3, .ref 114), (0, .ref 0), (1, .int x1), (2, .int x2)], [.int (-12)], (0, 0), ks i a q r) (by rfl) ?_
                exact ft_ret mi_k118 (by rfl) (hP (-12) trivial)
            ·
              subst eg59
              first | refine ft_go mi_k118 2 60 [(3, .ref 114), (0, .ref 0), (1, .int x1), (2, .int x2)] [.int (-12)] i a q r (by rfl) ?_ | refine ko_steps mi_in118 2 _ (60, [(3, .ref 114), (0, .ref 0), (1, .int x1), (2, .int x2)], [.int (-12)], (0, 0), ks i a q r) (by rfl) ?_
              exact ft_ret mi_k118 (by rfl) (hP (-12) trivial)
        ·
          have c64 : (i 7296).toInt = (0 : Int32).toInt := kd_neF c; clear c
          first | refine ft_go mi_k118 1 35 [(3, .ref 114), (0, .ref 0), (1, .int x1), (2, .int x2)] [.int (-11)] i a q r (by rfl) ?_ | refine ko_steps mi_in118 1 _ (35, [(3, .ref 114), (0, .ref 0), (1, .int x1), (2, .int x2)], [.int (-11)], (0, 0), ks i a q r) (by rfl) ?_
          exact ft_ret mi_k118 (by rfl) (hP (-11) trivial)
      exact (oz1282 w15 w25 w35 w45 w5 w55 z2.1 z2.2).elim
    ·
      subst eg3
      first | refine ft_go mi_k118 2 18 [(0, .ref 0), (1, .int x1), (2, .int x2)] [.int (-1)] i a q r (by rfl) ?_ | refine ko_steps mi_in118 2 _ (18, [(0, .ref 0), (1, .int x1), (2, .int x2)], [.int (-1)], (0, 0), ks i a q r) (by rfl) ?_
      exact ft_ret mi_k118 (by rfl) (hP (-1) trivial)
  ·
    subst eg1
    first | refine ft_go mi_k118 2 18 [(0, .ref 0), (1, .int x1), (2, .int x2)] [.int (-1)] i a q r (by rfl) ?_ | refine ko_steps mi_in118 2 _ (18, [(0, .ref 0), (1, .int x1), (2, .int x2)], [.int (-1)], (0, 0), ks i a q r) (by rfl) ?_
    exact ft_ret mi_k118 (by rfl) (hP (-1) trivial)
set_option maxRecDepth 100000 in
theorem kc119_0 {i : Nat → Int32} {a : Nat → List Int32} {q : Nat → List Int64} {r : Nat → Nat} (hI : kI i a q) (hr : kr r) (x1 : Int32) : km 1 119 [.ref 0, .int x1] (ks i a q r) (kPI (ks i a q r) (fun v => True)) := by
  have hG := kG_self kW0 hI hr
  refine km_ofPI (q := (mi_h119, mi_c119)) rfl (by decide) (Nat.le_of_ble_eq_true rfl) ?_
  intro P hP
  refine ft_go mi_k119 1 1 [(0, .ref 0), (1, .int x1)] [.int x1] i a q r (by rfl) ?_
  by_cases w1 : x1.toInt = 0
  ·
    refine ko_eq (x1 := (1, [(0, .ref 0), (1, .int x1)], [.int 0], (0, 0), ks i a q r)) (by rw [(kj_eq w1 (by decide) : x1 = 0)]) ?_
    refine ft_go mi_k119 4 47 [(0, .ref 0), (1, .int x1)] [.int (i 64)] i a q r (by rfl) ?_
    exact ft_ret mi_k119 (by rfl) (hP (i 64) trivial)
  by_cases w2 : x1.toInt = 1
  ·
    refine ko_eq (x1 := (1, [(0, .ref 0), (1, .int x1)], [.int 1], (0, 0), ks i a q r)) (by rw [(kj_eq w2 (by decide) : x1 = 1)]) ?_
    refine ft_go mi_k119 5 58 [(0, .ref 0), (1, .int x1)] [.int (i 450)] i a q r (by rfl) ?_
    exact ft_ret mi_k119 (by rfl) (hP (i 450) trivial)
  by_cases w3 : x1.toInt = 2
  ·
    refine ko_eq (x1 := (1, [(0, .ref 0), (1, .int x1)], [.int 2], (0, 0), ks i a q r)) (by rw [(kj_eq w3 (by decide) : x1 = 2)]) ?_
    refine ft_go mi_k119 4 66 [(0, .ref 0), (1, .int x1)] [.int (i 6273)] i a q r (by rfl) ?_
    exact ft_ret mi_k119 (by rfl) (hP (i 6273) trivial)
  by_cases w4 : x1.toInt = 3
  ·
    refine ko_eq (x1 := (1, [(0, .ref 0), (1, .int x1)], [.int 3], (0, 0), ks i a q r)) (by rw [(kj_eq w4 (by decide) : x1 = 3)]) ?_
    refine ft_go mi_k119 4 74 [(0, .ref 0), (1, .int x1)] [.int (i 5701)] i a q r (by rfl) ?_
    exact ft_ret mi_k119 (by rfl) (hP (i 5701) trivial)
  by_cases w5 : x1.toInt = 4
  ·
    refine ko_eq (x1 := (1, [(0, .ref 0), (1, .int x1)], [.int 4], (0, 0), ks i a q r)) (by rw [(kj_eq w5 (by decide) : x1 = 4)]) ?_
    refine ft_go mi_k119 4 82 [(0, .ref 0), (1, .int x1)] [.int (i 6017)] i a q r (by rfl) ?_
    exact ft_ret mi_k119 (by rfl) (hP (i 6017) trivial)
  by_cases w6 : x1.toInt = 5
  ·
    refine ko_eq (x1 := (1, [(0, .ref 0), (1, .int x1)], [.int 5], (0, 0), ks i a q r)) (by rw [(kj_eq w6 (by decide) : x1 = 5)]) ?_
    refine ft_go mi_k119 4 90 [(0, .ref 0), (1, .int x1)] [.int (i 6019)] i a q r (by rfl) ?_
    exact ft_ret mi_k119 (by rfl) (hP (i 6019) trivial)
  refine ko_sw (ls := [(0, .ref 0), (1, .int x1)]) (r := []) (h := ks i a q r) mi_in119 (v := x1) (i := (.tableswitch 90 0 5 #[39, 47, 58, 66, 74, 82], 39, 0, 0, 0, 0, 0)) (by rfl) rfl (oz660 w1 w2 w3 w4 w5 w6) 91 (by rfl) ?_
  refine ft_go mi_k119 1 92 [(0, .ref 0), (1, .int x1)] [.int (-1)] i a q r (by rfl) ?_
  exact ft_ret mi_k119 (by rfl) (hP (-1) trivial)
set_option maxRecDepth 100000 in
theorem kc43 (i : Nat → Int32) (a : Nat → List Int32) (q : Nat → List Int64) (r : Nat → Nat) (L : Nat) : km 1 43 [.ref 98, .ref L] (ks i a q r) (fun rv h1 => rv = some (.ref (r 2)) ∧ h1 = ks i a q (ku r 2 L)) := by
  refine km_of (q := (mi_h43, mi_c43)) rfl (by decide) (Nat.le_of_ble_eq_true rfl) ?_
  refine ko_steps mi_in43 7 _ (11, [(2, .ref (r 2)), (0, .ref 98), (1, .ref L)], [.ref (r 2)], (0, 0), ks i a q (ku r 2 L)) (by rfl) ?_
  exact ft_ret mi_k43 (by rfl) ⟨rfl, rfl⟩
set_option maxRecDepth 100000 in
theorem kc11_l00_l10 {i : Nat → Int32} {a : Nat → List Int32} {q : Nat → List Int64} {r : Nat → Nat} (hI : kI i a q) (hr : kr r)  : km 1 11 [.int 0, .int 0] (ks i a q r) (kPI (ks i a q r) (fun v => v.toInt = 0)) := by
  have hG := kG_self kW0 hI hr
  refine km_ofPI (q := (mi_h11, mi_c11)) rfl (by decide) (Nat.le_of_ble_eq_true rfl) ?_
  intro P hP
  refine ft_go mi_k11 10 47 [(3, .int 0), (2, .int 0), (0, .int 0), (1, .int 0)] [.int 0] i a q r (by rfl) ?_
  exact ft_ret mi_k11 (by rfl) (hP 0 (oz236 kn0))
def w14_94_l10_K0 : kW := ([], [], [], [])
set_option maxRecDepth 100000 in
theorem kc14_94_l10_K0 {i : Nat → Int32} {a : Nat → List Int32} {q : Nat → List Int64} {r : Nat → Nat} (hI : kI i a q) (hr : kr r) (x1 : Int32) (x3 : Int32) (x4 : Int32) (hp0 : ((0 : Int) ≤ x1.toInt) ∧ (x1.toInt ≤ 49)) (hp1 : ((a 95).getD x1.toNatClampNeg 0).toInt = 0) (hp2 : ((0 : Int) ≤ x4.toInt) ∧ ((x4.toInt + 0) ≤ 39)) (hp3 : ((0 : Int) ≤ (i 6019).toInt) ∧ (((i 6019).toInt + 0) ≤ 900)) : km 1 14 [.ref 94, .int x1, .int 0, .int x3, .int x4] (ks i a q r) (kVI w14_94_l10_K0 i a q r (fun v i1 a1 q1 r1 => (i1 6019).toInt = ((i 6019).toInt + 0))) := by
  have hG := kG_self w14_94_l10_K0 hI hr
  refine km_ofI (q := (mi_h14, mi_c14)) rfl (by decide) (Nat.le_of_ble_eq_true rfl) ?_
  intro P hP
  have r1 : ((0 : Int) ≤ ((a 95).getD x1.toNatClampNeg 0).toInt) ∧ (((a 95).getD x1.toNatClampNeg 0).toInt ≤ 7) := hG.I.2.2.1 95 (x1.toNatClampNeg)
  refine ft_go mi_k14 3 5 [(0, .ref 94), (1, .int x1), (2, .int 0), (3, .int x3), (4, .int x4)] [.int x1, .ref 95] i a q r (by rfl) ?_
  refine ko_iald3 mi_k14.1 (n := 50) (c := 50) (ax := (0, 0, 0, 0, 0)) (mi_k14.2 _ _ (by rfl)) (by rfl) (ksG95 _ _ _ _) (hG.I.2.1 95) rfl (oz3 hp0.1) (oz1336 hp0.2) ?_
  refine ko_eq (x1 := (6, [(0, .ref 94), (1, .int x1), (2, .int 0), (3, .int x3), (4, .int x4)], [.int 0], (0, 0), ks i a q r)) (by rw [(kj_eq (oz1337 hp1 r1.1) (by decide) : ((a 95).getD x1.toNatClampNeg 0) = 0)]) ?_
  have b2 : ((-2147483648 : Int) ≤ x3.toInt) ∧ (x3.toInt ≤ 2147483647) := kd_bd x3
  have b3 : ((-2147483648 : Int) ≤ x1.toInt) ∧ (x1.toInt ≤ 2147483647) := kd_bd x1
  refine ft_go mi_k14 6 39 [(5, .int 0), (0, .ref 94), (1, .int x1), (2, .int 0), (3, .int x3), (4, .int x4)] [.int (x3 + x1)] i a q r (by rfl) ?_
  exact ft_ret mi_k14 (by rfl) (hP (x3 + x1) _ _ _ _ hG oz1338)
def w13_94_l10_l20_K0 : kW := ([6019], [96], [], [])
set_option maxRecDepth 100000 in
theorem kc13_94_l10_l20_K0 {i : Nat → Int32} {a : Nat → List Int32} {q : Nat → List Int64} {r : Nat → Nat} (hI : kI i a q) (hr : kr r) (x1 : Int32) (x4 : Int32) (x5 : Int32) (hp0 : ((0 : Int) ≤ x1.toInt) ∧ (x1.toInt ≤ 49)) (hp1 : ((a 95).getD x1.toNatClampNeg 0).toInt = 0) (hp2 : ((0 : Int) ≤ x5.toInt) ∧ ((x5.toInt + 1) ≤ 39)) (hp3 : ((0 : Int) ≤ (i 6019).toInt) ∧ (((i 6019).toInt + 1) ≤ 900)) : km 3 13 [.ref 94, .int x1, .int 0, .int 0, .int x4, .int x5] (ks i a q r) (kVI w13_94_l10_l20_K0 i a q r (fun v i1 a1 q1 r1 => (i1 6019).toInt = ((i 6019).toInt + 1))) := by
  have hG := kG_self w13_94_l10_l20_K0 hI hr
  refine km_ofI (q := (mi_h13, mi_c13)) rfl (by decide) (Nat.le_of_ble_eq_true rfl) ?_
  intro P hP
  have r1 : ((0 : Int) ≤ ((a 95).getD x1.toNatClampNeg 0).toInt) ∧ (((a 95).getD x1.toNatClampNeg 0).toInt ≤ 7) := hG.I.2.2.1 95 (x1.toNatClampNeg)
  have fi_6019 : ((0 : Int) ≤ (i 6019).toInt) ∧ ((i 6019).toInt ≤ 1000) := hG.I.1 6019
  refine ft_go mi_k13 2 4 [(0, .ref 94), (1, .int x1), (2, .int 0), (3, .int 0), (4, .int x4), (5, .int x5)] [.int 40, .int x5] i a q r (by rfl) ?_
  refine ft_if mi_k13 (decide (x5 < 40)) 9 7 [(0, .ref 94), (1, .int x1), (2, .int 0), (3, .int 0), (4, .int x4), (5, .int x5)] [] (by rfl) (fun c => ?_) (fun c => ?_)
  ·
    have c2 : x5.toInt < (40 : Int32).toInt := kd_lt c; clear c
    refine ft_go mi_k13 2 11 [(0, .ref 94), (1, .int x1), (2, .int 0), (3, .int 0), (4, .int x4), (5, .int x5)] [.int 0, .int 0] i a q r (by rfl) ?_
    refine ko_callPI mi_k13.1 (pc := 11) (ls := [(0, .ref 94), (1, .int x1), (2, .int 0), (3, .int 0), (4, .int x4), (5, .int x5)]) (st := [.int 0, .int 0]) (h := ks i a q r) (i := (.invokestatic 39, 3, 11, 0, 9, 0, 298)) (mi_k13.2 _ _ (by rfl)) (ft_invS mi_pq11 (by rfl)) (cy := mi_c11) mi_pq11 rfl (kc11_l00_l10 hG.I hG.R ) (by decide) ?_
    intro vg3 hg3
    have z4 : vg3.toInt = 0 := hg3
    have evvg3 := kj_eq (oz236 z4) (by decide : (0 : Int32).toInt = 0)
    subst evvg3
    refine ft_go mi_k13 5 23 [(6, .int 0), (0, .ref 94), (1, .int x1), (2, .int 0), (3, .int 0), (4, .int x4), (5, .int x5)] [.int (0 * 4), .ref (mi_RO + 3)] i a q r (by rfl) ?_
    refine ko_eq (x1 := (23, [(6, .int 0), (0, .ref 94), (1, .int x1), (2, .int 0), (3, .int 0), (4, .int x4), (5, .int x5)], [.int 0, .ref (mi_RO + 3)], (0, 0), ks i a q r)) (by rw [(by decide : (0 * 4 : Int32) = 0)]) ?_
    refine ft_go mi_k13 2 25 [(6, .int 0), (0, .ref 94), (1, .int x1), (2, .int 0), (3, .int 0), (4, .int x4), (5, .int x5)] [.int (0 + 0), .ref (mi_RO + 3)] i a q r (by rfl) ?_
    refine ko_eq (x1 := (25, [(6, .int 0), (0, .ref 94), (1, .int x1), (2, .int 0), (3, .int 0), (4, .int x4), (5, .int x5)], [.int 0, .ref (mi_RO + 3)], (0, 0), ks i a q r)) (by rw [(by decide : (0 + 0 : Int32) = 0)]) ?_
    refine ko_iaro2 mi_k13.1 (l := [1, 10, 11, 2, 20, 0, 0, 0, 0, 30, 0, 0, 0, 41, 40, 0, 0, 0, 50, 0, 0, 0, 0, 60, 70, 0, 0, 0, 0, 80, 0, 81]) (n := 32) (c := 32) (ax := (0, 0, 0, 0, 0)) (mi_k13.2 _ _ (by rfl)) (by rfl) (by rfl) rfl rfl (oz46 kn0) (oz1228 kn0) ?_
    have r5 : ((0 : Int) ≤ (([1, 10, 11, 2, 20, 0, 0, 0, 0, 30, 0, 0, 0, 41, 40, 0, 0, 0, 50, 0, 0, 0, 0, 60, 70, 0, 0, 0, 0, 80, 0, 81] : List Int32).getD (0 : Int32).toNatClampNeg 0).toInt) ∧ ((([1, 10, 11, 2, 20, 0, 0, 0, 0, 30, 0, 0, 0, 41, 40, 0, 0, 0, 50, 0, 0, 0, 0, 60, 70, 0, 0, 0, 0, 80, 0, 81] : List Int32).getD (0 : Int32).toNatClampNeg 0).toInt ≤ 81) := kro_rng (lo := 0) (hi := 81) (by decide) ((0 : Int32).toNatClampNeg)
    refine ko_eq (x1 := (26, [(6, .int 0), (0, .ref 94), (1, .int x1), (2, .int 0), (3, .int 0), (4, .int x4), (5, .int x5)], [.int 1], (0, 0), ks i a q r)) (by rw [(by decide : (([1, 10, 11, 2, 20, 0, 0, 0, 0, 30, 0, 0, 0, 41, 40, 0, 0, 0, 50, 0, 0, 0, 0, 60, 70, 0, 0, 0, 0, 80, 0, 81] : List Int32).getD (0 : Int32).toNatClampNeg 0) = 1)]) ?_
    refine ft_go mi_k13 4 34 [(7, .int 1), (6, .int 0), (0, .ref 94), (1, .int x1), (2, .int 0), (3, .int 0), (4, .int x4), (5, .int x5)] [.int 24, .int (i 6019)] i a q r (by rfl) ?_
    refine ft_if mi_k13 (decide (24 ≤ (i 6019))) 48 37 [(7, .int 1), (6, .int 0), (0, .ref 94), (1, .int x1), (2, .int 0), (3, .int 0), (4, .int x4), (5, .int x5)] [] (by rfl) (fun c => ?_) (fun c => ?_)
    ·
      have c6 : (24 : Int32).toInt ≤ (i 6019).toInt := kd_le c; clear c
      have s7 : ((i 6019) + 1).toInt = (i 6019).toInt + (1 : Int32).toInt := kd_add (oz1332 c6 kn24 kn1) (oz951 fi_6019.2 kn1)
      have hJ8 := kG_i hG 6019 rfl (v := ((i 6019) + 1)) ⟨(oz1333 c6 s7 kn24 kn1), (oz1334 hp3.2 s7 kn1)⟩
      have s9 : (x5 + 1).toInt = x5.toInt + (1 : Int32).toInt := kd_add (oz12 hp2.1 kn1) (oz1335 hp2.2 kn1)
      refine ft_go mi_k13 15 72 [(7, .int 1), (6, .int 0), (0, .ref 94), (1, .int x1), (2, .int 0), (3, .int 0), (4, .int x4), (5, .int x5)] [.int (x5 + 1), .int x4, .int 0, .int x1, .ref 94] (ku i 6019 ((i 6019) + 1)) a q r (by rfl) ?_
      refine ko_callI mi_k13.1 (pc := 72) (ls := [(7, .int 1), (6, .int 0), (0, .ref 94), (1, .int x1), (2, .int 0), (3, .int 0), (4, .int x4), (5, .int x5)]) (st := [.int (x5 + 1), .int x4, .int 0, .int x1, .ref 94]) (h := ks (ku i 6019 ((i 6019) + 1)) a q r) (i := (.invokevirtual 43, 3, 14, 0, 9, 0, 301)) (mi_k13.2 _ _ (by rfl)) (ft_invS mi_pq14 (by rfl)) (cy := mi_c14) mi_pq14 rfl (kc14_94_l10_K0 hJ8.I hJ8.R x1 x4 (x5 + 1) (oz1339 hp0.1 hp0.2) (oz1337 hp1 r1.1) (oz1340 hp2.1 hp2.2 s9 kn1) (oz1341 c6 hp3.2 s7 kn24 kn1)) (by decide) ?_
      intro vg10 ig10 ag10 qg10 rg10 kg10 hg10
      have hGg10 := kG_call hJ8 kg10 (by decide +kernel)
      have efig10_6019 : (ig10 6019).toInt = ((i 6019) + 1).toInt := kg10.ti 6019 rfl
      exact ft_ret mi_k13 (by rfl) (hP vg10 _ _ _ _ hGg10 (oz1342 efig10_6019 s7 kn1))
    ·
      have c12 : (i 6019).toInt < (24 : Int32).toInt := kd_leF c; clear c
      refine ft_go mi_k13 5 47 [(7, .int 1), (6, .int 0), (0, .ref 94), (1, .int x1), (2, .int 0), (3, .int 0), (4, .int x4), (5, .int x5)] [.int 1, .int (i 6019), .ref 96] i a q r (by rfl) ?_
      refine ko_iast3 mi_k13.1 (n := 24) (c := 24) (ax := (0, 0, 0, 0, 0)) (mi_k13.2 _ _ (by rfl)) (by rfl) (ksG96 _ _ _ _) (ksA96 _ _ _ _) (hG.I.2.1 96) rfl (oz3 fi_6019.1) (oz1343 c12 kn24) ?_
      intro a13 ea13 fa13
      have hJ13 := kG_a3 hG 96 rfl ea13 fa13 (kd_bd _)
      have s14 : ((i 6019) + 1).toInt = (i 6019).toInt + (1 : Int32).toInt := kd_add (oz12 fi_6019.1 kn1) (oz951 fi_6019.2 kn1)
      have hJ15 := kG_i hJ13 6019 rfl (v := ((i 6019) + 1)) ⟨(oz14 fi_6019.1 s14 kn1), (oz1334 hp3.2 s14 kn1)⟩
      have s16 : (x5 + 1).toInt = x5.toInt + (1 : Int32).toInt := kd_add (oz12 hp2.1 kn1) (oz1335 hp2.2 kn1)
      refine ft_go mi_k13 15 72 [(7, .int 1), (6, .int 0), (0, .ref 94), (1, .int x1), (2, .int 0), (3, .int 0), (4, .int x4), (5, .int x5)] [.int (x5 + 1), .int x4, .int 0, .int x1, .ref 94] (ku i 6019 ((i 6019) + 1)) a13 q r (by rfl) ?_
      have r17 : ((0 : Int) ≤ ((a13 95).getD x1.toNatClampNeg 0).toInt) ∧ (((a13 95).getD x1.toNatClampNeg 0).toInt ≤ 7) := hJ15.I.2.2.1 95 (x1.toNatClampNeg)
      have u18 : ((a13 95).getD x1.toNatClampNeg 0).toInt = ((a 95).getD x1.toNatClampNeg 0).toInt := congrArg (fun z : List Int32 => (z.getD x1.toNatClampNeg 0).toInt) (fa13 95 (by decide))
      refine ko_callI mi_k13.1 (pc := 72) (ls := [(7, .int 1), (6, .int 0), (0, .ref 94), (1, .int x1), (2, .int 0), (3, .int 0), (4, .int x4), (5, .int x5)]) (st := [.int (x5 + 1), .int x4, .int 0, .int x1, .ref 94]) (h := ks (ku i 6019 ((i 6019) + 1)) a13 q r) (i := (.invokevirtual 43, 3, 14, 0, 9, 0, 301)) (mi_k13.2 _ _ (by rfl)) (ft_invS mi_pq14 (by rfl)) (cy := mi_c14) mi_pq14 rfl (kc14_94_l10_K0 hJ15.I hJ15.R x1 x4 (x5 + 1) (oz1339 hp0.1 hp0.2) (oz1344 hp1 r17.1 u18) (oz1340 hp2.1 hp2.2 s16 kn1) (oz1345 fi_6019.1 hp3.2 s14 kn1)) (by decide) ?_
      intro vg19 ig19 ag19 qg19 rg19 kg19 hg19
      have hGg19 := kG_call hJ15 kg19 (by decide +kernel)
      have efig19_6019 : (ig19 6019).toInt = ((i 6019) + 1).toInt := kg19.ti 6019 rfl
      exact ft_ret mi_k13 (by rfl) (hP vg19 _ _ _ _ hGg19 (oz1342 efig19_6019 s14 kn1))
  ·
    have c21 : (40 : Int32).toInt ≤ x5.toInt := kd_ltF c; clear c
    exact (oz1346 c21 hp2.2 kn40).elim
set_option maxRecDepth 100000 in
theorem kc11_l00_l11 {i : Nat → Int32} {a : Nat → List Int32} {q : Nat → List Int64} {r : Nat → Nat} (hI : kI i a q) (hr : kr r)  : km 1 11 [.int 0, .int 1] (ks i a q r) (kPI (ks i a q r) (fun v => v.toInt = 0)) := by
  have hG := kG_self kW0 hI hr
  refine km_ofPI (q := (mi_h11, mi_c11)) rfl (by decide) (Nat.le_of_ble_eq_true rfl) ?_
  intro P hP
  refine ft_go mi_k11 10 47 [(3, .int 0), (2, .int 0), (0, .int 0), (1, .int 1)] [.int 0] i a q r (by rfl) ?_
  exact ft_ret mi_k11 (by rfl) (hP 0 (oz236 kn0))
def w14_94_l11_K0 : kW := ([6019], [96], [], [])
set_option maxRecDepth 100000 in
theorem kc14_94_l11_K0 {i : Nat → Int32} {a : Nat → List Int32} {q : Nat → List Int64} {r : Nat → Nat} (hI : kI i a q) (hr : kr r) (x1 : Int32) (x3 : Int32) (x4 : Int32) (hp0 : ((0 : Int) ≤ x1.toInt) ∧ (x1.toInt ≤ 49)) (hp1 : ((a 95).getD x1.toNatClampNeg 0).toInt = 0) (hp2 : ((0 : Int) ≤ x4.toInt) ∧ ((x4.toInt + 1) ≤ 39)) (hp3 : ((0 : Int) ≤ (i 6019).toInt) ∧ (((i 6019).toInt + 1) ≤ 900)) : km 5 14 [.ref 94, .int x1, .int 1, .int x3, .int x4] (ks i a q r) (kVI w14_94_l11_K0 i a q r (fun v i1 a1 q1 r1 => (i1 6019).toInt = ((i 6019).toInt + 1))) := by
  have hG := kG_self w14_94_l11_K0 hI hr
  refine km_ofI (q := (mi_h14, mi_c14)) rfl (by decide) (Nat.le_of_ble_eq_true rfl) ?_
  intro P hP
  have r1 : ((0 : Int) ≤ ((a 95).getD x1.toNatClampNeg 0).toInt) ∧ (((a 95).getD x1.toNatClampNeg 0).toInt ≤ 7) := hG.I.2.2.1 95 (x1.toNatClampNeg)
  have fi_6019 : ((0 : Int) ≤ (i 6019).toInt) ∧ ((i 6019).toInt ≤ 1000) := hG.I.1 6019
  refine ft_go mi_k14 3 5 [(0, .ref 94), (1, .int x1), (2, .int 1), (3, .int x3), (4, .int x4)] [.int x1, .ref 95] i a q r (by rfl) ?_
  refine ko_iald3 mi_k14.1 (n := 50) (c := 50) (ax := (0, 0, 0, 0, 0)) (mi_k14.2 _ _ (by rfl)) (by rfl) (ksG95 _ _ _ _) (hG.I.2.1 95) rfl (oz3 hp0.1) (oz1336 hp0.2) ?_
  refine ko_eq (x1 := (6, [(0, .ref 94), (1, .int x1), (2, .int 1), (3, .int x3), (4, .int x4)], [.int 0], (0, 0), ks i a q r)) (by rw [(kj_eq (oz1337 hp1 r1.1) (by decide) : ((a 95).getD x1.toNatClampNeg 0) = 0)]) ?_
  refine ft_go mi_k14 9 48 [(5, .int 0), (0, .ref 94), (1, .int x1), (2, .int 1), (3, .int x3), (4, .int x4)] [.int x4, .int x3, .int 0, .int 0, .int x1, .ref 94] i a q r (by rfl) ?_
  refine ko_callI mi_k14.1 (pc := 48) (ls := [(5, .int 0), (0, .ref 94), (1, .int x1), (2, .int 1), (3, .int x3), (4, .int x4)]) (st := [.int x4, .int x3, .int 0, .int 0, .int x1, .ref 94]) (h := ks i a q r) (i := (.invokevirtual 35, 3, 13, 0, 9, 0, 297)) (mi_k14.2 _ _ (by rfl)) (ft_invS mi_pq13 (by rfl)) (cy := mi_c13) mi_pq13 rfl (kc13_94_l10_l20_K0 hG.I hG.R x1 x3 x4 (oz1339 hp0.1 hp0.2) (oz1337 hp1 r1.1) (oz1353 hp2.1 hp2.2) (oz1354 fi_6019.1 hp3.2)) (by decide) ?_
  intro vg2 ig2 ag2 qg2 rg2 kg2 hg2
  have hGg2 := kG_call hG kg2 (by decide +kernel)
  have z3 : (ig2 6019).toInt = ((i 6019).toInt + 1) := hg2
  have b4 : ((-2147483648 : Int) ≤ vg2.toInt) ∧ (vg2.toInt ≤ 2147483647) := kd_bd vg2
  refine ft_go mi_k14 2 53 [(5, .int 0), (0, .ref 94), (1, .int x1), (2, .int 1), (3, .int x3), (4, .int x4)] [.int (vg2 * 2)] ig2 ag2 qg2 rg2 (by rfl) ?_
  exact ft_ret mi_k14 (by rfl) (hP (vg2 * 2) _ _ _ _ hGg2 (oz1355 z3))
def w13_94_l10_l21_K0 : kW := ([6019], [96], [], [])
set_option maxRecDepth 100000 in
theorem kc13_94_l10_l21_K0 {i : Nat → Int32} {a : Nat → List Int32} {q : Nat → List Int64} {r : Nat → Nat} (hI : kI i a q) (hr : kr r) (x1 : Int32) (x4 : Int32) (x5 : Int32) (hp0 : ((0 : Int) ≤ x1.toInt) ∧ (x1.toInt ≤ 49)) (hp1 : ((a 95).getD x1.toNatClampNeg 0).toInt = 0) (hp2 : ((0 : Int) ≤ x5.toInt) ∧ ((x5.toInt + 2) ≤ 39)) (hp3 : ((0 : Int) ≤ (i 6019).toInt) ∧ (((i 6019).toInt + 2) ≤ 900)) : km 7 13 [.ref 94, .int x1, .int 0, .int 1, .int x4, .int x5] (ks i a q r) (kVI w13_94_l10_l21_K0 i a q r (fun v i1 a1 q1 r1 => (i1 6019).toInt = ((i 6019).toInt + 2))) := by
  have hG := kG_self w13_94_l10_l21_K0 hI hr
  refine km_ofI (q := (mi_h13, mi_c13)) rfl (by decide) (Nat.le_of_ble_eq_true rfl) ?_
  intro P hP
  have r1 : ((0 : Int) ≤ ((a 95).getD x1.toNatClampNeg 0).toInt) ∧ (((a 95).getD x1.toNatClampNeg 0).toInt ≤ 7) := hG.I.2.2.1 95 (x1.toNatClampNeg)
  have fi_6019 : ((0 : Int) ≤ (i 6019).toInt) ∧ ((i 6019).toInt ≤ 1000) := hG.I.1 6019
  refine ft_go mi_k13 2 4 [(0, .ref 94), (1, .int x1), (2, .int 0), (3, .int 1), (4, .int x4), (5, .int x5)] [.int 40, .int x5] i a q r (by rfl) ?_
  refine ft_if mi_k13 (decide (x5 < 40)) 9 7 [(0, .ref 94), (1, .int x1), (2, .int 0), (3, .int 1), (4, .int x4), (5, .int x5)] [] (by rfl) (fun c => ?_) (fun c => ?_)
  ·
    have c2 : x5.toInt < (40 : Int32).toInt := kd_lt c; clear c
    refine ft_go mi_k13 2 11 [(0, .ref 94), (1, .int x1), (2, .int 0), (3, .int 1), (4, .int x4), (5, .int x5)] [.int 1, .int 0] i a q r (by rfl) ?_
    refine ko_callPI mi_k13.1 (pc := 11) (ls := [(0, .ref 94), (1, .int x1), (2, .int 0), (3, .int 1), (4, .int x4), (5, .int x5)]) (st := [.int 1, .int 0]) (h := ks i a q r) (i := (.invokestatic 39, 3, 11, 0, 9, 0, 298)) (mi_k13.2 _ _ (by rfl)) (ft_invS mi_pq11 (by rfl)) (cy := mi_c11) mi_pq11 rfl (kc11_l00_l11 hG.I hG.R ) (by decide) ?_
    intro vg3 hg3
    have z4 : vg3.toInt = 0 := hg3
    have evvg3 := kj_eq (oz236 z4) (by decide : (0 : Int32).toInt = 0)
    subst evvg3
    refine ft_go mi_k13 5 23 [(6, .int 0), (0, .ref 94), (1, .int x1), (2, .int 0), (3, .int 1), (4, .int x4), (5, .int x5)] [.int (0 * 4), .ref (mi_RO + 3)] i a q r (by rfl) ?_
    refine ko_eq (x1 := (23, [(6, .int 0), (0, .ref 94), (1, .int x1), (2, .int 0), (3, .int 1), (4, .int x4), (5, .int x5)], [.int 0, .ref (mi_RO + 3)], (0, 0), ks i a q r)) (by rw [(by decide : (0 * 4 : Int32) = 0)]) ?_
    refine ft_go mi_k13 2 25 [(6, .int 0), (0, .ref 94), (1, .int x1), (2, .int 0), (3, .int 1), (4, .int x4), (5, .int x5)] [.int (0 + 1), .ref (mi_RO + 3)] i a q r (by rfl) ?_
    refine ko_eq (x1 := (25, [(6, .int 0), (0, .ref 94), (1, .int x1), (2, .int 0), (3, .int 1), (4, .int x4), (5, .int x5)], [.int 1, .ref (mi_RO + 3)], (0, 0), ks i a q r)) (by rw [(by decide : (0 + 1 : Int32) = 1)]) ?_
    refine ko_iaro2 mi_k13.1 (l := [1, 10, 11, 2, 20, 0, 0, 0, 0, 30, 0, 0, 0, 41, 40, 0, 0, 0, 50, 0, 0, 0, 0, 60, 70, 0, 0, 0, 0, 80, 0, 81]) (n := 32) (c := 32) (ax := (0, 0, 0, 0, 0)) (mi_k13.2 _ _ (by rfl)) (by rfl) (by rfl) rfl rfl (oz246 kn1) (oz1229 kn1) ?_
    have r5 : ((0 : Int) ≤ (([1, 10, 11, 2, 20, 0, 0, 0, 0, 30, 0, 0, 0, 41, 40, 0, 0, 0, 50, 0, 0, 0, 0, 60, 70, 0, 0, 0, 0, 80, 0, 81] : List Int32).getD (1 : Int32).toNatClampNeg 0).toInt) ∧ ((([1, 10, 11, 2, 20, 0, 0, 0, 0, 30, 0, 0, 0, 41, 40, 0, 0, 0, 50, 0, 0, 0, 0, 60, 70, 0, 0, 0, 0, 80, 0, 81] : List Int32).getD (1 : Int32).toNatClampNeg 0).toInt ≤ 81) := kro_rng (lo := 0) (hi := 81) (by decide) ((1 : Int32).toNatClampNeg)
    refine ko_eq (x1 := (26, [(6, .int 0), (0, .ref 94), (1, .int x1), (2, .int 0), (3, .int 1), (4, .int x4), (5, .int x5)], [.int 10], (0, 0), ks i a q r)) (by rw [(by decide : (([1, 10, 11, 2, 20, 0, 0, 0, 0, 30, 0, 0, 0, 41, 40, 0, 0, 0, 50, 0, 0, 0, 0, 60, 70, 0, 0, 0, 0, 80, 0, 81] : List Int32).getD (1 : Int32).toNatClampNeg 0) = 10)]) ?_
    refine ft_go mi_k13 4 34 [(7, .int 10), (6, .int 0), (0, .ref 94), (1, .int x1), (2, .int 0), (3, .int 1), (4, .int x4), (5, .int x5)] [.int 24, .int (i 6019)] i a q r (by rfl) ?_
    refine ft_if mi_k13 (decide (24 ≤ (i 6019))) 48 37 [(7, .int 10), (6, .int 0), (0, .ref 94), (1, .int x1), (2, .int 0), (3, .int 1), (4, .int x4), (5, .int x5)] [] (by rfl) (fun c => ?_) (fun c => ?_)
    ·
      have c6 : (24 : Int32).toInt ≤ (i 6019).toInt := kd_le c; clear c
      have s7 : ((i 6019) + 1).toInt = (i 6019).toInt + (1 : Int32).toInt := kd_add (oz1332 c6 kn24 kn1) (oz951 fi_6019.2 kn1)
      have hJ8 := kG_i hG 6019 rfl (v := ((i 6019) + 1)) ⟨(oz1333 c6 s7 kn24 kn1), (oz1351 hp3.2 s7 kn1)⟩
      have s9 : (x5 + 1).toInt = x5.toInt + (1 : Int32).toInt := kd_add (oz12 hp2.1 kn1) (oz1352 hp2.2 kn1)
      refine ft_go mi_k13 15 72 [(7, .int 10), (6, .int 0), (0, .ref 94), (1, .int x1), (2, .int 0), (3, .int 1), (4, .int x4), (5, .int x5)] [.int (x5 + 1), .int x4, .int 1, .int x1, .ref 94] (ku i 6019 ((i 6019) + 1)) a q r (by rfl) ?_
      refine ko_callI mi_k13.1 (pc := 72) (ls := [(7, .int 10), (6, .int 0), (0, .ref 94), (1, .int x1), (2, .int 0), (3, .int 1), (4, .int x4), (5, .int x5)]) (st := [.int (x5 + 1), .int x4, .int 1, .int x1, .ref 94]) (h := ks (ku i 6019 ((i 6019) + 1)) a q r) (i := (.invokevirtual 43, 3, 14, 0, 9, 0, 301)) (mi_k13.2 _ _ (by rfl)) (ft_invS mi_pq14 (by rfl)) (cy := mi_c14) mi_pq14 rfl (kc14_94_l11_K0 hJ8.I hJ8.R x1 x4 (x5 + 1) (oz1339 hp0.1 hp0.2) (oz1337 hp1 r1.1) (oz1356 hp2.1 hp2.2 s9 kn1) (oz1357 c6 hp3.2 s7 kn24 kn1)) (by decide) ?_
      intro vg10 ig10 ag10 qg10 rg10 kg10 hg10
      have hGg10 := kG_call hJ8 kg10 (by decide +kernel)
      have z11 : (ig10 6019).toInt = (((i 6019) + 1).toInt + 1) := hg10
      exact ft_ret mi_k13 (by rfl) (hP vg10 _ _ _ _ hGg10 (oz1358 s7 z11 kn1))
    ·
      have c12 : (i 6019).toInt < (24 : Int32).toInt := kd_leF c; clear c
      refine ft_go mi_k13 5 47 [(7, .int 10), (6, .int 0), (0, .ref 94), (1, .int x1), (2, .int 0), (3, .int 1), (4, .int x4), (5, .int x5)] [.int 10, .int (i 6019), .ref 96] i a q r (by rfl) ?_
      refine ko_iast3 mi_k13.1 (n := 24) (c := 24) (ax := (0, 0, 0, 0, 0)) (mi_k13.2 _ _ (by rfl)) (by rfl) (ksG96 _ _ _ _) (ksA96 _ _ _ _) (hG.I.2.1 96) rfl (oz3 fi_6019.1) (oz1343 c12 kn24) ?_
      intro a13 ea13 fa13
      have hJ13 := kG_a3 hG 96 rfl ea13 fa13 (kd_bd _)
      have s14 : ((i 6019) + 1).toInt = (i 6019).toInt + (1 : Int32).toInt := kd_add (oz12 fi_6019.1 kn1) (oz951 fi_6019.2 kn1)
      have hJ15 := kG_i hJ13 6019 rfl (v := ((i 6019) + 1)) ⟨(oz14 fi_6019.1 s14 kn1), (oz1351 hp3.2 s14 kn1)⟩
      have s16 : (x5 + 1).toInt = x5.toInt + (1 : Int32).toInt := kd_add (oz12 hp2.1 kn1) (oz1352 hp2.2 kn1)
      refine ft_go mi_k13 15 72 [(7, .int 10), (6, .int 0), (0, .ref 94), (1, .int x1), (2, .int 0), (3, .int 1), (4, .int x4), (5, .int x5)] [.int (x5 + 1), .int x4, .int 1, .int x1, .ref 94] (ku i 6019 ((i 6019) + 1)) a13 q r (by rfl) ?_
      have r17 : ((0 : Int) ≤ ((a13 95).getD x1.toNatClampNeg 0).toInt) ∧ (((a13 95).getD x1.toNatClampNeg 0).toInt ≤ 7) := hJ15.I.2.2.1 95 (x1.toNatClampNeg)
      have u18 : ((a13 95).getD x1.toNatClampNeg 0).toInt = ((a 95).getD x1.toNatClampNeg 0).toInt := congrArg (fun z : List Int32 => (z.getD x1.toNatClampNeg 0).toInt) (fa13 95 (by decide))
      refine ko_callI mi_k13.1 (pc := 72) (ls := [(7, .int 10), (6, .int 0), (0, .ref 94), (1, .int x1), (2, .int 0), (3, .int 1), (4, .int x4), (5, .int x5)]) (st := [.int (x5 + 1), .int x4, .int 1, .int x1, .ref 94]) (h := ks (ku i 6019 ((i 6019) + 1)) a13 q r) (i := (.invokevirtual 43, 3, 14, 0, 9, 0, 301)) (mi_k13.2 _ _ (by rfl)) (ft_invS mi_pq14 (by rfl)) (cy := mi_c14) mi_pq14 rfl (kc14_94_l11_K0 hJ15.I hJ15.R x1 x4 (x5 + 1) (oz1339 hp0.1 hp0.2) (oz1344 hp1 r17.1 u18) (oz1356 hp2.1 hp2.2 s16 kn1) (oz1359 fi_6019.1 hp3.2 s14 kn1)) (by decide) ?_
      intro vg19 ig19 ag19 qg19 rg19 kg19 hg19
      have hGg19 := kG_call hJ15 kg19 (by decide +kernel)
      have z20 : (ig19 6019).toInt = (((i 6019) + 1).toInt + 1) := hg19
      exact ft_ret mi_k13 (by rfl) (hP vg19 _ _ _ _ hGg19 (oz1358 s14 z20 kn1))
  ·
    have c21 : (40 : Int32).toInt ≤ x5.toInt := kd_ltF c; clear c
    exact (oz1360 c21 hp2.2 kn40).elim
set_option maxRecDepth 100000 in
theorem kc11_l00_l12 {i : Nat → Int32} {a : Nat → List Int32} {q : Nat → List Int64} {r : Nat → Nat} (hI : kI i a q) (hr : kr r)  : km 1 11 [.int 0, .int 2] (ks i a q r) (kPI (ks i a q r) (fun v => v.toInt = 0)) := by
  have hG := kG_self kW0 hI hr
  refine km_ofPI (q := (mi_h11, mi_c11)) rfl (by decide) (Nat.le_of_ble_eq_true rfl) ?_
  intro P hP
  refine ft_go mi_k11 10 47 [(3, .int 0), (2, .int 0), (0, .int 0), (1, .int 2)] [.int 0] i a q r (by rfl) ?_
  exact ft_ret mi_k11 (by rfl) (hP 0 (oz236 kn0))
def w14_94_l12_K0 : kW := ([], [], [], [])
set_option maxRecDepth 100000 in
theorem kc14_94_l12_K0 {i : Nat → Int32} {a : Nat → List Int32} {q : Nat → List Int64} {r : Nat → Nat} (hI : kI i a q) (hr : kr r) (x1 : Int32) (x3 : Int32) (x4 : Int32) (hp0 : ((0 : Int) ≤ x1.toInt) ∧ (x1.toInt ≤ 49)) (hp1 : ((a 95).getD x1.toNatClampNeg 0).toInt = 0) (hp2 : ((0 : Int) ≤ x4.toInt) ∧ ((x4.toInt + 0) ≤ 39)) (hp3 : ((0 : Int) ≤ (i 6019).toInt) ∧ (((i 6019).toInt + 0) ≤ 900)) : km 1 14 [.ref 94, .int x1, .int 2, .int x3, .int x4] (ks i a q r) (kVI w14_94_l12_K0 i a q r (fun v i1 a1 q1 r1 => (i1 6019).toInt = ((i 6019).toInt + 0))) := by
  have hG := kG_self w14_94_l12_K0 hI hr
  refine km_ofI (q := (mi_h14, mi_c14)) rfl (by decide) (Nat.le_of_ble_eq_true rfl) ?_
  intro P hP
  have r1 : ((0 : Int) ≤ ((a 95).getD x1.toNatClampNeg 0).toInt) ∧ (((a 95).getD x1.toNatClampNeg 0).toInt ≤ 7) := hG.I.2.2.1 95 (x1.toNatClampNeg)
  refine ft_go mi_k14 3 5 [(0, .ref 94), (1, .int x1), (2, .int 2), (3, .int x3), (4, .int x4)] [.int x1, .ref 95] i a q r (by rfl) ?_
  refine ko_iald3 mi_k14.1 (n := 50) (c := 50) (ax := (0, 0, 0, 0, 0)) (mi_k14.2 _ _ (by rfl)) (by rfl) (ksG95 _ _ _ _) (hG.I.2.1 95) rfl (oz3 hp0.1) (oz1336 hp0.2) ?_
  refine ko_eq (x1 := (6, [(0, .ref 94), (1, .int x1), (2, .int 2), (3, .int x3), (4, .int x4)], [.int 0], (0, 0), ks i a q r)) (by rw [(kj_eq (oz1337 hp1 r1.1) (by decide) : ((a 95).getD x1.toNatClampNeg 0) = 0)]) ?_
  refine ft_go mi_k14 6 57 [(5, .int 0), (0, .ref 94), (1, .int x1), (2, .int 2), (3, .int x3), (4, .int x4)] [.int (x3 ^^^ x1)] i a q r (by rfl) ?_
  exact ft_ret mi_k14 (by rfl) (hP (x3 ^^^ x1) _ _ _ _ hG oz1338)
def w13_94_l10_l22_K0 : kW := ([6019], [96], [], [])
set_option maxRecDepth 100000 in
theorem kc13_94_l10_l22_K0 {i : Nat → Int32} {a : Nat → List Int32} {q : Nat → List Int64} {r : Nat → Nat} (hI : kI i a q) (hr : kr r) (x1 : Int32) (x4 : Int32) (x5 : Int32) (hp0 : ((0 : Int) ≤ x1.toInt) ∧ (x1.toInt ≤ 49)) (hp1 : ((a 95).getD x1.toNatClampNeg 0).toInt = 0) (hp2 : ((0 : Int) ≤ x5.toInt) ∧ ((x5.toInt + 1) ≤ 39)) (hp3 : ((0 : Int) ≤ (i 6019).toInt) ∧ (((i 6019).toInt + 1) ≤ 900)) : km 3 13 [.ref 94, .int x1, .int 0, .int 2, .int x4, .int x5] (ks i a q r) (kVI w13_94_l10_l22_K0 i a q r (fun v i1 a1 q1 r1 => (i1 6019).toInt = ((i 6019).toInt + 1))) := by
  have hG := kG_self w13_94_l10_l22_K0 hI hr
  refine km_ofI (q := (mi_h13, mi_c13)) rfl (by decide) (Nat.le_of_ble_eq_true rfl) ?_
  intro P hP
  have r1 : ((0 : Int) ≤ ((a 95).getD x1.toNatClampNeg 0).toInt) ∧ (((a 95).getD x1.toNatClampNeg 0).toInt ≤ 7) := hG.I.2.2.1 95 (x1.toNatClampNeg)
  have fi_6019 : ((0 : Int) ≤ (i 6019).toInt) ∧ ((i 6019).toInt ≤ 1000) := hG.I.1 6019
  refine ft_go mi_k13 2 4 [(0, .ref 94), (1, .int x1), (2, .int 0), (3, .int 2), (4, .int x4), (5, .int x5)] [.int 40, .int x5] i a q r (by rfl) ?_
  refine ft_if mi_k13 (decide (x5 < 40)) 9 7 [(0, .ref 94), (1, .int x1), (2, .int 0), (3, .int 2), (4, .int x4), (5, .int x5)] [] (by rfl) (fun c => ?_) (fun c => ?_)
  ·
    have c2 : x5.toInt < (40 : Int32).toInt := kd_lt c; clear c
    refine ft_go mi_k13 2 11 [(0, .ref 94), (1, .int x1), (2, .int 0), (3, .int 2), (4, .int x4), (5, .int x5)] [.int 2, .int 0] i a q r (by rfl) ?_
    refine ko_callPI mi_k13.1 (pc := 11) (ls := [(0, .ref 94), (1, .int x1), (2, .int 0), (3, .int 2), (4, .int x4), (5, .int x5)]) (st := [.int 2, .int 0]) (h := ks i a q r) (i := (.invokestatic 39, 3, 11, 0, 9, 0, 298)) (mi_k13.2 _ _ (by rfl)) (ft_invS mi_pq11 (by rfl)) (cy := mi_c11) mi_pq11 rfl (kc11_l00_l12 hG.I hG.R ) (by decide) ?_
    intro vg3 hg3
    have z4 : vg3.toInt = 0 := hg3
    have evvg3 := kj_eq (oz236 z4) (by decide : (0 : Int32).toInt = 0)
    subst evvg3
    refine ft_go mi_k13 5 23 [(6, .int 0), (0, .ref 94), (1, .int x1), (2, .int 0), (3, .int 2), (4, .int x4), (5, .int x5)] [.int (0 * 4), .ref (mi_RO + 3)] i a q r (by rfl) ?_
    refine ko_eq (x1 := (23, [(6, .int 0), (0, .ref 94), (1, .int x1), (2, .int 0), (3, .int 2), (4, .int x4), (5, .int x5)], [.int 0, .ref (mi_RO + 3)], (0, 0), ks i a q r)) (by rw [(by decide : (0 * 4 : Int32) = 0)]) ?_
    refine ft_go mi_k13 2 25 [(6, .int 0), (0, .ref 94), (1, .int x1), (2, .int 0), (3, .int 2), (4, .int x4), (5, .int x5)] [.int (0 + 2), .ref (mi_RO + 3)] i a q r (by rfl) ?_
    refine ko_eq (x1 := (25, [(6, .int 0), (0, .ref 94), (1, .int x1), (2, .int 0), (3, .int 2), (4, .int x4), (5, .int x5)], [.int 2, .ref (mi_RO + 3)], (0, 0), ks i a q r)) (by rw [(by decide : (0 + 2 : Int32) = 2)]) ?_
    refine ko_iaro2 mi_k13.1 (l := [1, 10, 11, 2, 20, 0, 0, 0, 0, 30, 0, 0, 0, 41, 40, 0, 0, 0, 50, 0, 0, 0, 0, 60, 70, 0, 0, 0, 0, 80, 0, 81]) (n := 32) (c := 32) (ax := (0, 0, 0, 0, 0)) (mi_k13.2 _ _ (by rfl)) (by rfl) (by rfl) rfl rfl (oz256 kn2) (oz1363 kn2) ?_
    have r5 : ((0 : Int) ≤ (([1, 10, 11, 2, 20, 0, 0, 0, 0, 30, 0, 0, 0, 41, 40, 0, 0, 0, 50, 0, 0, 0, 0, 60, 70, 0, 0, 0, 0, 80, 0, 81] : List Int32).getD (2 : Int32).toNatClampNeg 0).toInt) ∧ ((([1, 10, 11, 2, 20, 0, 0, 0, 0, 30, 0, 0, 0, 41, 40, 0, 0, 0, 50, 0, 0, 0, 0, 60, 70, 0, 0, 0, 0, 80, 0, 81] : List Int32).getD (2 : Int32).toNatClampNeg 0).toInt ≤ 81) := kro_rng (lo := 0) (hi := 81) (by decide) ((2 : Int32).toNatClampNeg)
    refine ko_eq (x1 := (26, [(6, .int 0), (0, .ref 94), (1, .int x1), (2, .int 0), (3, .int 2), (4, .int x4), (5, .int x5)], [.int 11], (0, 0), ks i a q r)) (by rw [(by decide : (([1, 10, 11, 2, 20, 0, 0, 0, 0, 30, 0, 0, 0, 41, 40, 0, 0, 0, 50, 0, 0, 0, 0, 60, 70, 0, 0, 0, 0, 80, 0, 81] : List Int32).getD (2 : Int32).toNatClampNeg 0) = 11)]) ?_
    refine ft_go mi_k13 4 34 [(7, .int 11), (6, .int 0), (0, .ref 94), (1, .int x1), (2, .int 0), (3, .int 2), (4, .int x4), (5, .int x5)] [.int 24, .int (i 6019)] i a q r (by rfl) ?_
    refine ft_if mi_k13 (decide (24 ≤ (i 6019))) 48 37 [(7, .int 11), (6, .int 0), (0, .ref 94), (1, .int x1), (2, .int 0), (3, .int 2), (4, .int x4), (5, .int x5)] [] (by rfl) (fun c => ?_) (fun c => ?_)
    ·
      have c6 : (24 : Int32).toInt ≤ (i 6019).toInt := kd_le c; clear c
      have s7 : ((i 6019) + 1).toInt = (i 6019).toInt + (1 : Int32).toInt := kd_add (oz1332 c6 kn24 kn1) (oz951 fi_6019.2 kn1)
      have hJ8 := kG_i hG 6019 rfl (v := ((i 6019) + 1)) ⟨(oz1333 c6 s7 kn24 kn1), (oz1334 hp3.2 s7 kn1)⟩
      have s9 : (x5 + 1).toInt = x5.toInt + (1 : Int32).toInt := kd_add (oz12 hp2.1 kn1) (oz1335 hp2.2 kn1)
      refine ft_go mi_k13 15 72 [(7, .int 11), (6, .int 0), (0, .ref 94), (1, .int x1), (2, .int 0), (3, .int 2), (4, .int x4), (5, .int x5)] [.int (x5 + 1), .int x4, .int 2, .int x1, .ref 94] (ku i 6019 ((i 6019) + 1)) a q r (by rfl) ?_
      refine ko_callI mi_k13.1 (pc := 72) (ls := [(7, .int 11), (6, .int 0), (0, .ref 94), (1, .int x1), (2, .int 0), (3, .int 2), (4, .int x4), (5, .int x5)]) (st := [.int (x5 + 1), .int x4, .int 2, .int x1, .ref 94]) (h := ks (ku i 6019 ((i 6019) + 1)) a q r) (i := (.invokevirtual 43, 3, 14, 0, 9, 0, 301)) (mi_k13.2 _ _ (by rfl)) (ft_invS mi_pq14 (by rfl)) (cy := mi_c14) mi_pq14 rfl (kc14_94_l12_K0 hJ8.I hJ8.R x1 x4 (x5 + 1) (oz1339 hp0.1 hp0.2) (oz1337 hp1 r1.1) (oz1340 hp2.1 hp2.2 s9 kn1) (oz1341 c6 hp3.2 s7 kn24 kn1)) (by decide) ?_
      intro vg10 ig10 ag10 qg10 rg10 kg10 hg10
      have hGg10 := kG_call hJ8 kg10 (by decide +kernel)
      have efig10_6019 : (ig10 6019).toInt = ((i 6019) + 1).toInt := kg10.ti 6019 rfl
      exact ft_ret mi_k13 (by rfl) (hP vg10 _ _ _ _ hGg10 (oz1342 efig10_6019 s7 kn1))
    ·
      have c12 : (i 6019).toInt < (24 : Int32).toInt := kd_leF c; clear c
      refine ft_go mi_k13 5 47 [(7, .int 11), (6, .int 0), (0, .ref 94), (1, .int x1), (2, .int 0), (3, .int 2), (4, .int x4), (5, .int x5)] [.int 11, .int (i 6019), .ref 96] i a q r (by rfl) ?_
      refine ko_iast3 mi_k13.1 (n := 24) (c := 24) (ax := (0, 0, 0, 0, 0)) (mi_k13.2 _ _ (by rfl)) (by rfl) (ksG96 _ _ _ _) (ksA96 _ _ _ _) (hG.I.2.1 96) rfl (oz3 fi_6019.1) (oz1343 c12 kn24) ?_
      intro a13 ea13 fa13
      have hJ13 := kG_a3 hG 96 rfl ea13 fa13 (kd_bd _)
      have s14 : ((i 6019) + 1).toInt = (i 6019).toInt + (1 : Int32).toInt := kd_add (oz12 fi_6019.1 kn1) (oz951 fi_6019.2 kn1)
      have hJ15 := kG_i hJ13 6019 rfl (v := ((i 6019) + 1)) ⟨(oz14 fi_6019.1 s14 kn1), (oz1334 hp3.2 s14 kn1)⟩
      have s16 : (x5 + 1).toInt = x5.toInt + (1 : Int32).toInt := kd_add (oz12 hp2.1 kn1) (oz1335 hp2.2 kn1)
      refine ft_go mi_k13 15 72 [(7, .int 11), (6, .int 0), (0, .ref 94), (1, .int x1), (2, .int 0), (3, .int 2), (4, .int x4), (5, .int x5)] [.int (x5 + 1), .int x4, .int 2, .int x1, .ref 94] (ku i 6019 ((i 6019) + 1)) a13 q r (by rfl) ?_
      have r17 : ((0 : Int) ≤ ((a13 95).getD x1.toNatClampNeg 0).toInt) ∧ (((a13 95).getD x1.toNatClampNeg 0).toInt ≤ 7) := hJ15.I.2.2.1 95 (x1.toNatClampNeg)
      have u18 : ((a13 95).getD x1.toNatClampNeg 0).toInt = ((a 95).getD x1.toNatClampNeg 0).toInt := congrArg (fun z : List Int32 => (z.getD x1.toNatClampNeg 0).toInt) (fa13 95 (by decide))
      refine ko_callI mi_k13.1 (pc := 72) (ls := [(7, .int 11), (6, .int 0), (0, .ref 94), (1, .int x1), (2, .int 0), (3, .int 2), (4, .int x4), (5, .int x5)]) (st := [.int (x5 + 1), .int x4, .int 2, .int x1, .ref 94]) (h := ks (ku i 6019 ((i 6019) + 1)) a13 q r) (i := (.invokevirtual 43, 3, 14, 0, 9, 0, 301)) (mi_k13.2 _ _ (by rfl)) (ft_invS mi_pq14 (by rfl)) (cy := mi_c14) mi_pq14 rfl (kc14_94_l12_K0 hJ15.I hJ15.R x1 x4 (x5 + 1) (oz1339 hp0.1 hp0.2) (oz1344 hp1 r17.1 u18) (oz1340 hp2.1 hp2.2 s16 kn1) (oz1345 fi_6019.1 hp3.2 s14 kn1)) (by decide) ?_
      intro vg19 ig19 ag19 qg19 rg19 kg19 hg19
      have hGg19 := kG_call hJ15 kg19 (by decide +kernel)
      have efig19_6019 : (ig19 6019).toInt = ((i 6019) + 1).toInt := kg19.ti 6019 rfl
      exact ft_ret mi_k13 (by rfl) (hP vg19 _ _ _ _ hGg19 (oz1342 efig19_6019 s14 kn1))
  ·
    have c21 : (40 : Int32).toInt ≤ x5.toInt := kd_ltF c; clear c
    exact (oz1346 c21 hp2.2 kn40).elim
set_option maxRecDepth 100000 in
theorem kc11_l00_l13 {i : Nat → Int32} {a : Nat → List Int32} {q : Nat → List Int64} {r : Nat → Nat} (hI : kI i a q) (hr : kr r)  : km 1 11 [.int 0, .int 3] (ks i a q r) (kPI (ks i a q r) (fun v => v.toInt = 0)) := by
  have hG := kG_self kW0 hI hr
  refine km_ofPI (q := (mi_h11, mi_c11)) rfl (by decide) (Nat.le_of_ble_eq_true rfl) ?_
  intro P hP
  refine ft_go mi_k11 10 47 [(3, .int 0), (2, .int 0), (0, .int 0), (1, .int 3)] [.int 0] i a q r (by rfl) ?_
  exact ft_ret mi_k11 (by rfl) (hP 0 (oz236 kn0))
def w14_94_l13_K0 : kW := ([6019], [96], [], [])
set_option maxRecDepth 100000 in
theorem kc14_94_l13_K0 {i : Nat → Int32} {a : Nat → List Int32} {q : Nat → List Int64} {r : Nat → Nat} (hI : kI i a q) (hr : kr r) (x1 : Int32) (x3 : Int32) (x4 : Int32) (hp0 : ((0 : Int) ≤ x1.toInt) ∧ (x1.toInt ≤ 49)) (hp1 : ((a 95).getD x1.toNatClampNeg 0).toInt = 0) (hp2 : ((0 : Int) ≤ x4.toInt) ∧ ((x4.toInt + 2) ≤ 39)) (hp3 : ((0 : Int) ≤ (i 6019).toInt) ∧ (((i 6019).toInt + 3) ≤ 900)) : km 9 14 [.ref 94, .int x1, .int 3, .int x3, .int x4] (ks i a q r) (kVI w14_94_l13_K0 i a q r (fun v i1 a1 q1 r1 => (i1 6019).toInt = ((i 6019).toInt + 3))) := by
  have hG := kG_self w14_94_l13_K0 hI hr
  refine km_ofI (q := (mi_h14, mi_c14)) rfl (by decide) (Nat.le_of_ble_eq_true rfl) ?_
  intro P hP
  have r1 : ((0 : Int) ≤ ((a 95).getD x1.toNatClampNeg 0).toInt) ∧ (((a 95).getD x1.toNatClampNeg 0).toInt ≤ 7) := hG.I.2.2.1 95 (x1.toNatClampNeg)
  have fi_6019 : ((0 : Int) ≤ (i 6019).toInt) ∧ ((i 6019).toInt ≤ 1000) := hG.I.1 6019
  refine ft_go mi_k14 3 5 [(0, .ref 94), (1, .int x1), (2, .int 3), (3, .int x3), (4, .int x4)] [.int x1, .ref 95] i a q r (by rfl) ?_
  refine ko_iald3 mi_k14.1 (n := 50) (c := 50) (ax := (0, 0, 0, 0, 0)) (mi_k14.2 _ _ (by rfl)) (by rfl) (ksG95 _ _ _ _) (hG.I.2.1 95) rfl (oz3 hp0.1) (oz1336 hp0.2) ?_
  refine ko_eq (x1 := (6, [(0, .ref 94), (1, .int x1), (2, .int 3), (3, .int x3), (4, .int x4)], [.int 0], (0, 0), ks i a q r)) (by rw [(kj_eq (oz1337 hp1 r1.1) (by decide) : ((a 95).getD x1.toNatClampNeg 0) = 0)]) ?_
  refine ft_go mi_k14 9 66 [(5, .int 0), (0, .ref 94), (1, .int x1), (2, .int 3), (3, .int x3), (4, .int x4)] [.int x4, .int x3, .int 1, .int 0, .int x1, .ref 94] i a q r (by rfl) ?_
  refine ko_callI mi_k14.1 (pc := 66) (ls := [(5, .int 0), (0, .ref 94), (1, .int x1), (2, .int 3), (3, .int x3), (4, .int x4)]) (st := [.int x4, .int x3, .int 1, .int 0, .int x1, .ref 94]) (h := ks i a q r) (i := (.invokevirtual 35, 3, 13, 0, 9, 0, 297)) (mi_k14.2 _ _ (by rfl)) (ft_invS mi_pq13 (by rfl)) (cy := mi_c13) mi_pq13 rfl (kc13_94_l10_l21_K0 hG.I hG.R x1 x3 x4 (oz1339 hp0.1 hp0.2) (oz1337 hp1 r1.1) (oz1367 hp2.1 hp2.2) (oz1368 fi_6019.1 hp3.2)) (by decide) ?_
  intro vg2 ig2 ag2 qg2 rg2 kg2 hg2
  have hGg2 := kG_call hG kg2 (by decide +kernel)
  have fig2_6019 : ((0 : Int) ≤ (ig2 6019).toInt) ∧ ((ig2 6019).toInt ≤ 1000) := hGg2.I.1 6019
  have z3 : (ig2 6019).toInt = ((i 6019).toInt + 2) := hg2
  refine ft_go mi_k14 8 81 [(6, .int vg2), (5, .int 0), (0, .ref 94), (1, .int x1), (2, .int 3), (3, .int x3), (4, .int x4)] [.int x4, .int 1, .int 2, .int 0, .int x1, .ref 94, .int vg2] ig2 ag2 qg2 rg2 (by rfl) ?_
  have r4 : ((0 : Int) ≤ ((ag2 95).getD x1.toNatClampNeg 0).toInt) ∧ (((ag2 95).getD x1.toNatClampNeg 0).toInt ≤ 7) := hGg2.I.2.2.1 95 (x1.toNatClampNeg)
  have u5 : ((ag2 95).getD x1.toNatClampNeg 0).toInt = ((a 95).getD x1.toNatClampNeg 0).toInt := congrArg (fun z : List Int32 => (z.getD x1.toNatClampNeg 0).toInt) (kg2.fa 95 rfl)
  refine ko_callI mi_k14.1 (pc := 81) (ls := [(6, .int vg2), (5, .int 0), (0, .ref 94), (1, .int x1), (2, .int 3), (3, .int x3), (4, .int x4)]) (st := [.int x4, .int 1, .int 2, .int 0, .int x1, .ref 94, .int vg2]) (h := ks ig2 ag2 qg2 rg2) (i := (.invokevirtual 35, 3, 13, 0, 9, 0, 297)) (mi_k14.2 _ _ (by rfl)) (ft_invS mi_pq13 (by rfl)) (cy := mi_c13) mi_pq13 rfl (kc13_94_l10_l22_K0 hGg2.I hGg2.R x1 1 x4 (oz1339 hp0.1 hp0.2) (oz1344 hp1 r4.1 u5) (oz1369 hp2.1 hp2.2) (oz1370 fig2_6019.1 hp3.2 z3)) (by decide) ?_
  intro vg6 ig6 ag6 qg6 rg6 kg6 hg6
  have hGg6 := kG_call hGg2 kg6 (by decide +kernel)
  have z7 : (ig6 6019).toInt = ((ig2 6019).toInt + 1) := hg6
  have b8 : ((-2147483648 : Int) ≤ vg2.toInt) ∧ (vg2.toInt ≤ 2147483647) := kd_bd vg2
  have b9 : ((-2147483648 : Int) ≤ vg6.toInt) ∧ (vg6.toInt ≤ 2147483647) := kd_bd vg6
  refine ft_go mi_k14 1 85 [(6, .int vg2), (5, .int 0), (0, .ref 94), (1, .int x1), (2, .int 3), (3, .int x3), (4, .int x4)] [.int (vg2 - vg6)] ig6 ag6 qg6 rg6 (by rfl) ?_
  exact ft_ret mi_k14 (by rfl) (hP (vg2 - vg6) _ _ _ _ hGg6 (oz1371 z3 z7))
def w13_94_l10_l23_K0 : kW := ([6019], [96], [], [])
set_option maxRecDepth 100000 in
theorem kc13_94_l10_l23_K0 {i : Nat → Int32} {a : Nat → List Int32} {q : Nat → List Int64} {r : Nat → Nat} (hI : kI i a q) (hr : kr r) (x1 : Int32) (x4 : Int32) (x5 : Int32) (hp0 : ((0 : Int) ≤ x1.toInt) ∧ (x1.toInt ≤ 49)) (hp1 : ((a 95).getD x1.toNatClampNeg 0).toInt = 0) (hp2 : ((0 : Int) ≤ x5.toInt) ∧ ((x5.toInt + 3) ≤ 39)) (hp3 : ((0 : Int) ≤ (i 6019).toInt) ∧ (((i 6019).toInt + 4) ≤ 900)) : km 11 13 [.ref 94, .int x1, .int 0, .int 3, .int x4, .int x5] (ks i a q r) (kVI w13_94_l10_l23_K0 i a q r (fun v i1 a1 q1 r1 => (i1 6019).toInt = ((i 6019).toInt + 4))) := by
  have hG := kG_self w13_94_l10_l23_K0 hI hr
  refine km_ofI (q := (mi_h13, mi_c13)) rfl (by decide) (Nat.le_of_ble_eq_true rfl) ?_
  intro P hP
  have r1 : ((0 : Int) ≤ ((a 95).getD x1.toNatClampNeg 0).toInt) ∧ (((a 95).getD x1.toNatClampNeg 0).toInt ≤ 7) := hG.I.2.2.1 95 (x1.toNatClampNeg)
  have fi_6019 : ((0 : Int) ≤ (i 6019).toInt) ∧ ((i 6019).toInt ≤ 1000) := hG.I.1 6019
  refine ft_go mi_k13 2 4 [(0, .ref 94), (1, .int x1), (2, .int 0), (3, .int 3), (4, .int x4), (5, .int x5)] [.int 40, .int x5] i a q r (by rfl) ?_
  refine ft_if mi_k13 (decide (x5 < 40)) 9 7 [(0, .ref 94), (1, .int x1), (2, .int 0), (3, .int 3), (4, .int x4), (5, .int x5)] [] (by rfl) (fun c => ?_) (fun c => ?_)
  ·
    have c2 : x5.toInt < (40 : Int32).toInt := kd_lt c; clear c
    refine ft_go mi_k13 2 11 [(0, .ref 94), (1, .int x1), (2, .int 0), (3, .int 3), (4, .int x4), (5, .int x5)] [.int 3, .int 0] i a q r (by rfl) ?_
    refine ko_callPI mi_k13.1 (pc := 11) (ls := [(0, .ref 94), (1, .int x1), (2, .int 0), (3, .int 3), (4, .int x4), (5, .int x5)]) (st := [.int 3, .int 0]) (h := ks i a q r) (i := (.invokestatic 39, 3, 11, 0, 9, 0, 298)) (mi_k13.2 _ _ (by rfl)) (ft_invS mi_pq11 (by rfl)) (cy := mi_c11) mi_pq11 rfl (kc11_l00_l13 hG.I hG.R ) (by decide) ?_
    intro vg3 hg3
    have z4 : vg3.toInt = 0 := hg3
    have evvg3 := kj_eq (oz236 z4) (by decide : (0 : Int32).toInt = 0)
    subst evvg3
    refine ft_go mi_k13 5 23 [(6, .int 0), (0, .ref 94), (1, .int x1), (2, .int 0), (3, .int 3), (4, .int x4), (5, .int x5)] [.int (0 * 4), .ref (mi_RO + 3)] i a q r (by rfl) ?_
    refine ko_eq (x1 := (23, [(6, .int 0), (0, .ref 94), (1, .int x1), (2, .int 0), (3, .int 3), (4, .int x4), (5, .int x5)], [.int 0, .ref (mi_RO + 3)], (0, 0), ks i a q r)) (by rw [(by decide : (0 * 4 : Int32) = 0)]) ?_
    refine ft_go mi_k13 2 25 [(6, .int 0), (0, .ref 94), (1, .int x1), (2, .int 0), (3, .int 3), (4, .int x4), (5, .int x5)] [.int (0 + 3), .ref (mi_RO + 3)] i a q r (by rfl) ?_
    refine ko_eq (x1 := (25, [(6, .int 0), (0, .ref 94), (1, .int x1), (2, .int 0), (3, .int 3), (4, .int x4), (5, .int x5)], [.int 3, .ref (mi_RO + 3)], (0, 0), ks i a q r)) (by rw [(by decide : (0 + 3 : Int32) = 3)]) ?_
    refine ko_iaro2 mi_k13.1 (l := [1, 10, 11, 2, 20, 0, 0, 0, 0, 30, 0, 0, 0, 41, 40, 0, 0, 0, 50, 0, 0, 0, 0, 60, 70, 0, 0, 0, 0, 80, 0, 81]) (n := 32) (c := 32) (ax := (0, 0, 0, 0, 0)) (mi_k13.2 _ _ (by rfl)) (by rfl) (by rfl) rfl rfl (oz260 kn3) (oz1364 kn3) ?_
    have r5 : ((0 : Int) ≤ (([1, 10, 11, 2, 20, 0, 0, 0, 0, 30, 0, 0, 0, 41, 40, 0, 0, 0, 50, 0, 0, 0, 0, 60, 70, 0, 0, 0, 0, 80, 0, 81] : List Int32).getD (3 : Int32).toNatClampNeg 0).toInt) ∧ ((([1, 10, 11, 2, 20, 0, 0, 0, 0, 30, 0, 0, 0, 41, 40, 0, 0, 0, 50, 0, 0, 0, 0, 60, 70, 0, 0, 0, 0, 80, 0, 81] : List Int32).getD (3 : Int32).toNatClampNeg 0).toInt ≤ 81) := kro_rng (lo := 0) (hi := 81) (by decide) ((3 : Int32).toNatClampNeg)
    refine ko_eq (x1 := (26, [(6, .int 0), (0, .ref 94), (1, .int x1), (2, .int 0), (3, .int 3), (4, .int x4), (5, .int x5)], [.int 2], (0, 0), ks i a q r)) (by rw [(by decide : (([1, 10, 11, 2, 20, 0, 0, 0, 0, 30, 0, 0, 0, 41, 40, 0, 0, 0, 50, 0, 0, 0, 0, 60, 70, 0, 0, 0, 0, 80, 0, 81] : List Int32).getD (3 : Int32).toNatClampNeg 0) = 2)]) ?_
    refine ft_go mi_k13 4 34 [(7, .int 2), (6, .int 0), (0, .ref 94), (1, .int x1), (2, .int 0), (3, .int 3), (4, .int x4), (5, .int x5)] [.int 24, .int (i 6019)] i a q r (by rfl) ?_
    refine ft_if mi_k13 (decide (24 ≤ (i 6019))) 48 37 [(7, .int 2), (6, .int 0), (0, .ref 94), (1, .int x1), (2, .int 0), (3, .int 3), (4, .int x4), (5, .int x5)] [] (by rfl) (fun c => ?_) (fun c => ?_)
    ·
      have c6 : (24 : Int32).toInt ≤ (i 6019).toInt := kd_le c; clear c
      have s7 : ((i 6019) + 1).toInt = (i 6019).toInt + (1 : Int32).toInt := kd_add (oz1332 c6 kn24 kn1) (oz951 fi_6019.2 kn1)
      have hJ8 := kG_i hG 6019 rfl (v := ((i 6019) + 1)) ⟨(oz1333 c6 s7 kn24 kn1), (oz1365 hp3.2 s7 kn1)⟩
      have s9 : (x5 + 1).toInt = x5.toInt + (1 : Int32).toInt := kd_add (oz12 hp2.1 kn1) (oz1366 hp2.2 kn1)
      refine ft_go mi_k13 15 72 [(7, .int 2), (6, .int 0), (0, .ref 94), (1, .int x1), (2, .int 0), (3, .int 3), (4, .int x4), (5, .int x5)] [.int (x5 + 1), .int x4, .int 3, .int x1, .ref 94] (ku i 6019 ((i 6019) + 1)) a q r (by rfl) ?_
      refine ko_callI mi_k13.1 (pc := 72) (ls := [(7, .int 2), (6, .int 0), (0, .ref 94), (1, .int x1), (2, .int 0), (3, .int 3), (4, .int x4), (5, .int x5)]) (st := [.int (x5 + 1), .int x4, .int 3, .int x1, .ref 94]) (h := ks (ku i 6019 ((i 6019) + 1)) a q r) (i := (.invokevirtual 43, 3, 14, 0, 9, 0, 301)) (mi_k13.2 _ _ (by rfl)) (ft_invS mi_pq14 (by rfl)) (cy := mi_c14) mi_pq14 rfl (kc14_94_l13_K0 hJ8.I hJ8.R x1 x4 (x5 + 1) (oz1339 hp0.1 hp0.2) (oz1337 hp1 r1.1) (oz1372 hp2.1 hp2.2 s9 kn1) (oz1373 c6 hp3.2 s7 kn24 kn1)) (by decide) ?_
      intro vg10 ig10 ag10 qg10 rg10 kg10 hg10
      have hGg10 := kG_call hJ8 kg10 (by decide +kernel)
      have z11 : (ig10 6019).toInt = (((i 6019) + 1).toInt + 3) := hg10
      exact ft_ret mi_k13 (by rfl) (hP vg10 _ _ _ _ hGg10 (oz1374 s7 z11 kn1))
    ·
      have c12 : (i 6019).toInt < (24 : Int32).toInt := kd_leF c; clear c
      refine ft_go mi_k13 5 47 [(7, .int 2), (6, .int 0), (0, .ref 94), (1, .int x1), (2, .int 0), (3, .int 3), (4, .int x4), (5, .int x5)] [.int 2, .int (i 6019), .ref 96] i a q r (by rfl) ?_
      refine ko_iast3 mi_k13.1 (n := 24) (c := 24) (ax := (0, 0, 0, 0, 0)) (mi_k13.2 _ _ (by rfl)) (by rfl) (ksG96 _ _ _ _) (ksA96 _ _ _ _) (hG.I.2.1 96) rfl (oz3 fi_6019.1) (oz1343 c12 kn24) ?_
      intro a13 ea13 fa13
      have hJ13 := kG_a3 hG 96 rfl ea13 fa13 (kd_bd _)
      have s14 : ((i 6019) + 1).toInt = (i 6019).toInt + (1 : Int32).toInt := kd_add (oz12 fi_6019.1 kn1) (oz951 fi_6019.2 kn1)
      have hJ15 := kG_i hJ13 6019 rfl (v := ((i 6019) + 1)) ⟨(oz14 fi_6019.1 s14 kn1), (oz1365 hp3.2 s14 kn1)⟩
      have s16 : (x5 + 1).toInt = x5.toInt + (1 : Int32).toInt := kd_add (oz12 hp2.1 kn1) (oz1366 hp2.2 kn1)
      refine ft_go mi_k13 15 72 [(7, .int 2), (6, .int 0), (0, .ref 94), (1, .int x1), (2, .int 0), (3, .int 3), (4, .int x4), (5, .int x5)] [.int (x5 + 1), .int x4, .int 3, .int x1, .ref 94] (ku i 6019 ((i 6019) + 1)) a13 q r (by rfl) ?_
      have r17 : ((0 : Int) ≤ ((a13 95).getD x1.toNatClampNeg 0).toInt) ∧ (((a13 95).getD x1.toNatClampNeg 0).toInt ≤ 7) := hJ15.I.2.2.1 95 (x1.toNatClampNeg)
      have u18 : ((a13 95).getD x1.toNatClampNeg 0).toInt = ((a 95).getD x1.toNatClampNeg 0).toInt := congrArg (fun z : List Int32 => (z.getD x1.toNatClampNeg 0).toInt) (fa13 95 (by decide))
      refine ko_callI mi_k13.1 (pc := 72) (ls := [(7, .int 2), (6, .int 0), (0, .ref 94), (1, .int x1), (2, .int 0), (3, .int 3), (4, .int x4), (5, .int x5)]) (st := [.int (x5 + 1), .int x4, .int 3, .int x1, .ref 94]) (h := ks (ku i 6019 ((i 6019) + 1)) a13 q r) (i := (.invokevirtual 43, 3, 14, 0, 9, 0, 301)) (mi_k13.2 _ _ (by rfl)) (ft_invS mi_pq14 (by rfl)) (cy := mi_c14) mi_pq14 rfl (kc14_94_l13_K0 hJ15.I hJ15.R x1 x4 (x5 + 1) (oz1339 hp0.1 hp0.2) (oz1344 hp1 r17.1 u18) (oz1372 hp2.1 hp2.2 s16 kn1) (oz1375 fi_6019.1 hp3.2 s14 kn1)) (by decide) ?_
      intro vg19 ig19 ag19 qg19 rg19 kg19 hg19
      have hGg19 := kG_call hJ15 kg19 (by decide +kernel)
      have z20 : (ig19 6019).toInt = (((i 6019) + 1).toInt + 3) := hg19
      exact ft_ret mi_k13 (by rfl) (hP vg19 _ _ _ _ hGg19 (oz1374 s14 z20 kn1))
  ·
    have c21 : (40 : Int32).toInt ≤ x5.toInt := kd_ltF c; clear c
    exact (oz1376 c21 hp2.2 kn40).elim
set_option maxRecDepth 100000 in
theorem kc11_l01_l10 {i : Nat → Int32} {a : Nat → List Int32} {q : Nat → List Int64} {r : Nat → Nat} (hI : kI i a q) (hr : kr r)  : km 1 11 [.int 1, .int 0] (ks i a q r) (kPI (ks i a q r) (fun v => v.toInt = 1)) := by
  have hG := kG_self kW0 hI hr
  refine km_ofPI (q := (mi_h11, mi_c11)) rfl (by decide) (Nat.le_of_ble_eq_true rfl) ?_
  intro P hP
  refine ft_go mi_k11 16 26 [(3, .int 0), (2, .int 1), (0, .int 1), (1, .int 0)] [.int (1 * 4), .ref (mi_RO + 3)] i a q r (by rfl) ?_
  refine ko_eq (x1 := (26, [(3, .int 0), (2, .int 1), (0, .int 1), (1, .int 0)], [.int 4, .ref (mi_RO + 3)], (0, 0), ks i a q r)) (by rw [(by decide : (1 * 4 : Int32) = 4)]) ?_
  refine ft_go mi_k11 2 28 [(3, .int 0), (2, .int 1), (0, .int 1), (1, .int 0)] [.int (4 + 0), .ref (mi_RO + 3)] i a q r (by rfl) ?_
  refine ko_eq (x1 := (28, [(3, .int 0), (2, .int 1), (0, .int 1), (1, .int 0)], [.int 4, .ref (mi_RO + 3)], (0, 0), ks i a q r)) (by rw [(by decide : (4 + 0 : Int32) = 4)]) ?_
  refine ko_iaro2 mi_k11.1 (l := [1, 10, 11, 2, 20, 0, 0, 0, 0, 30, 0, 0, 0, 41, 40, 0, 0, 0, 50, 0, 0, 0, 0, 60, 70, 0, 0, 0, 0, 80, 0, 81]) (n := 32) (c := 32) (ax := (0, 0, 0, 0, 0)) (mi_k11.2 _ _ (by rfl)) (by rfl) (by rfl) rfl rfl (oz262 kn4) (oz1380 kn4) ?_
  have r1 : ((0 : Int) ≤ (([1, 10, 11, 2, 20, 0, 0, 0, 0, 30, 0, 0, 0, 41, 40, 0, 0, 0, 50, 0, 0, 0, 0, 60, 70, 0, 0, 0, 0, 80, 0, 81] : List Int32).getD (4 : Int32).toNatClampNeg 0).toInt) ∧ ((([1, 10, 11, 2, 20, 0, 0, 0, 0, 30, 0, 0, 0, 41, 40, 0, 0, 0, 50, 0, 0, 0, 0, 60, 70, 0, 0, 0, 0, 80, 0, 81] : List Int32).getD (4 : Int32).toNatClampNeg 0).toInt ≤ 81) := kro_rng (lo := 0) (hi := 81) (by decide) ((4 : Int32).toNatClampNeg)
  refine ko_eq (x1 := (29, [(3, .int 0), (2, .int 1), (0, .int 1), (1, .int 0)], [.int 20], (0, 0), ks i a q r)) (by rw [(by decide : (([1, 10, 11, 2, 20, 0, 0, 0, 0, 30, 0, 0, 0, 41, 40, 0, 0, 0, 50, 0, 0, 0, 0, 60, 70, 0, 0, 0, 0, 80, 0, 81] : List Int32).getD (4 : Int32).toNatClampNeg 0) = 20)]) ?_
  refine ft_go mi_k11 2 33 [(3, .int 0), (2, .int 1), (0, .int 1), (1, .int 0)] [.int 1] i a q r (by rfl) ?_
  exact ft_ret mi_k11 (by rfl) (hP 1 (oz1381 kn1))
def w14_94_l10_K1 : kW := ([], [], [], [])
set_option maxRecDepth 100000 in
theorem kc14_94_l10_K1 {i : Nat → Int32} {a : Nat → List Int32} {q : Nat → List Int64} {r : Nat → Nat} (hI : kI i a q) (hr : kr r) (x1 : Int32) (x3 : Int32) (x4 : Int32) (hp0 : ((0 : Int) ≤ x1.toInt) ∧ (x1.toInt ≤ 49)) (hp1 : ((a 95).getD x1.toNatClampNeg 0).toInt = 1) (hp2 : ((0 : Int) ≤ x4.toInt) ∧ ((x4.toInt + 0) ≤ 39)) (hp3 : ((0 : Int) ≤ (i 6019).toInt) ∧ (((i 6019).toInt + 0) ≤ 900)) : km 1 14 [.ref 94, .int x1, .int 0, .int x3, .int x4] (ks i a q r) (kVI w14_94_l10_K1 i a q r (fun v i1 a1 q1 r1 => (i1 6019).toInt = ((i 6019).toInt + 0))) := by
  have hG := kG_self w14_94_l10_K1 hI hr
  refine km_ofI (q := (mi_h14, mi_c14)) rfl (by decide) (Nat.le_of_ble_eq_true rfl) ?_
  intro P hP
  have r1 : ((0 : Int) ≤ ((a 95).getD x1.toNatClampNeg 0).toInt) ∧ (((a 95).getD x1.toNatClampNeg 0).toInt ≤ 7) := hG.I.2.2.1 95 (x1.toNatClampNeg)
  refine ft_go mi_k14 3 5 [(0, .ref 94), (1, .int x1), (2, .int 0), (3, .int x3), (4, .int x4)] [.int x1, .ref 95] i a q r (by rfl) ?_
  refine ko_iald3 mi_k14.1 (n := 50) (c := 50) (ax := (0, 0, 0, 0, 0)) (mi_k14.2 _ _ (by rfl)) (by rfl) (ksG95 _ _ _ _) (hG.I.2.1 95) rfl (oz3 hp0.1) (oz1336 hp0.2) ?_
  refine ko_eq (x1 := (6, [(0, .ref 94), (1, .int x1), (2, .int 0), (3, .int x3), (4, .int x4)], [.int 1], (0, 0), ks i a q r)) (by rw [(kj_eq (oz1381 hp1) (by decide) : ((a 95).getD x1.toNatClampNeg 0) = 1)]) ?_
  have b2 : ((-2147483648 : Int) ≤ x3.toInt) ∧ (x3.toInt ≤ 2147483647) := kd_bd x3
  have b3 : ((-2147483648 : Int) ≤ x1.toInt) ∧ (x1.toInt ≤ 2147483647) := kd_bd x1
  refine ft_go mi_k14 6 39 [(5, .int 1), (0, .ref 94), (1, .int x1), (2, .int 0), (3, .int x3), (4, .int x4)] [.int (x3 + x1)] i a q r (by rfl) ?_
  exact ft_ret mi_k14 (by rfl) (hP (x3 + x1) _ _ _ _ hG oz1338)
def w13_94_l10_l20_K1 : kW := ([6019], [96], [], [])
set_option maxRecDepth 100000 in
theorem kc13_94_l10_l20_K1 {i : Nat → Int32} {a : Nat → List Int32} {q : Nat → List Int64} {r : Nat → Nat} (hI : kI i a q) (hr : kr r) (x1 : Int32) (x4 : Int32) (x5 : Int32) (hp0 : ((0 : Int) ≤ x1.toInt) ∧ (x1.toInt ≤ 49)) (hp1 : ((a 95).getD x1.toNatClampNeg 0).toInt = 1) (hp2 : ((0 : Int) ≤ x5.toInt) ∧ ((x5.toInt + 1) ≤ 39)) (hp3 : ((0 : Int) ≤ (i 6019).toInt) ∧ (((i 6019).toInt + 1) ≤ 900)) : km 3 13 [.ref 94, .int x1, .int 0, .int 0, .int x4, .int x5] (ks i a q r) (kVI w13_94_l10_l20_K1 i a q r (fun v i1 a1 q1 r1 => (i1 6019).toInt = ((i 6019).toInt + 1))) := by
  have hG := kG_self w13_94_l10_l20_K1 hI hr
  refine km_ofI (q := (mi_h13, mi_c13)) rfl (by decide) (Nat.le_of_ble_eq_true rfl) ?_
  intro P hP
  have r1 : ((0 : Int) ≤ ((a 95).getD x1.toNatClampNeg 0).toInt) ∧ (((a 95).getD x1.toNatClampNeg 0).toInt ≤ 7) := hG.I.2.2.1 95 (x1.toNatClampNeg)
  have fi_6019 : ((0 : Int) ≤ (i 6019).toInt) ∧ ((i 6019).toInt ≤ 1000) := hG.I.1 6019
  refine ft_go mi_k13 2 4 [(0, .ref 94), (1, .int x1), (2, .int 0), (3, .int 0), (4, .int x4), (5, .int x5)] [.int 40, .int x5] i a q r (by rfl) ?_
  refine ft_if mi_k13 (decide (x5 < 40)) 9 7 [(0, .ref 94), (1, .int x1), (2, .int 0), (3, .int 0), (4, .int x4), (5, .int x5)] [] (by rfl) (fun c => ?_) (fun c => ?_)
  ·
    have c2 : x5.toInt < (40 : Int32).toInt := kd_lt c; clear c
    refine ft_go mi_k13 2 11 [(0, .ref 94), (1, .int x1), (2, .int 0), (3, .int 0), (4, .int x4), (5, .int x5)] [.int 0, .int 0] i a q r (by rfl) ?_
    refine ko_callPI mi_k13.1 (pc := 11) (ls := [(0, .ref 94), (1, .int x1), (2, .int 0), (3, .int 0), (4, .int x4), (5, .int x5)]) (st := [.int 0, .int 0]) (h := ks i a q r) (i := (.invokestatic 39, 3, 11, 0, 9, 0, 298)) (mi_k13.2 _ _ (by rfl)) (ft_invS mi_pq11 (by rfl)) (cy := mi_c11) mi_pq11 rfl (kc11_l00_l10 hG.I hG.R ) (by decide) ?_
    intro vg3 hg3
    have z4 : vg3.toInt = 0 := hg3
    have evvg3 := kj_eq (oz236 z4) (by decide : (0 : Int32).toInt = 0)
    subst evvg3
    refine ft_go mi_k13 5 23 [(6, .int 0), (0, .ref 94), (1, .int x1), (2, .int 0), (3, .int 0), (4, .int x4), (5, .int x5)] [.int (0 * 4), .ref (mi_RO + 3)] i a q r (by rfl) ?_
    refine ko_eq (x1 := (23, [(6, .int 0), (0, .ref 94), (1, .int x1), (2, .int 0), (3, .int 0), (4, .int x4), (5, .int x5)], [.int 0, .ref (mi_RO + 3)], (0, 0), ks i a q r)) (by rw [(by decide : (0 * 4 : Int32) = 0)]) ?_
    refine ft_go mi_k13 2 25 [(6, .int 0), (0, .ref 94), (1, .int x1), (2, .int 0), (3, .int 0), (4, .int x4), (5, .int x5)] [.int (0 + 0), .ref (mi_RO + 3)] i a q r (by rfl) ?_
    refine ko_eq (x1 := (25, [(6, .int 0), (0, .ref 94), (1, .int x1), (2, .int 0), (3, .int 0), (4, .int x4), (5, .int x5)], [.int 0, .ref (mi_RO + 3)], (0, 0), ks i a q r)) (by rw [(by decide : (0 + 0 : Int32) = 0)]) ?_
    refine ko_iaro2 mi_k13.1 (l := [1, 10, 11, 2, 20, 0, 0, 0, 0, 30, 0, 0, 0, 41, 40, 0, 0, 0, 50, 0, 0, 0, 0, 60, 70, 0, 0, 0, 0, 80, 0, 81]) (n := 32) (c := 32) (ax := (0, 0, 0, 0, 0)) (mi_k13.2 _ _ (by rfl)) (by rfl) (by rfl) rfl rfl (oz46 kn0) (oz1228 kn0) ?_
    have r5 : ((0 : Int) ≤ (([1, 10, 11, 2, 20, 0, 0, 0, 0, 30, 0, 0, 0, 41, 40, 0, 0, 0, 50, 0, 0, 0, 0, 60, 70, 0, 0, 0, 0, 80, 0, 81] : List Int32).getD (0 : Int32).toNatClampNeg 0).toInt) ∧ ((([1, 10, 11, 2, 20, 0, 0, 0, 0, 30, 0, 0, 0, 41, 40, 0, 0, 0, 50, 0, 0, 0, 0, 60, 70, 0, 0, 0, 0, 80, 0, 81] : List Int32).getD (0 : Int32).toNatClampNeg 0).toInt ≤ 81) := kro_rng (lo := 0) (hi := 81) (by decide) ((0 : Int32).toNatClampNeg)
    refine ko_eq (x1 := (26, [(6, .int 0), (0, .ref 94), (1, .int x1), (2, .int 0), (3, .int 0), (4, .int x4), (5, .int x5)], [.int 1], (0, 0), ks i a q r)) (by rw [(by decide : (([1, 10, 11, 2, 20, 0, 0, 0, 0, 30, 0, 0, 0, 41, 40, 0, 0, 0, 50, 0, 0, 0, 0, 60, 70, 0, 0, 0, 0, 80, 0, 81] : List Int32).getD (0 : Int32).toNatClampNeg 0) = 1)]) ?_
    refine ft_go mi_k13 4 34 [(7, .int 1), (6, .int 0), (0, .ref 94), (1, .int x1), (2, .int 0), (3, .int 0), (4, .int x4), (5, .int x5)] [.int 24, .int (i 6019)] i a q r (by rfl) ?_
    refine ft_if mi_k13 (decide (24 ≤ (i 6019))) 48 37 [(7, .int 1), (6, .int 0), (0, .ref 94), (1, .int x1), (2, .int 0), (3, .int 0), (4, .int x4), (5, .int x5)] [] (by rfl) (fun c => ?_) (fun c => ?_)
    ·
      have c6 : (24 : Int32).toInt ≤ (i 6019).toInt := kd_le c; clear c
      have s7 : ((i 6019) + 1).toInt = (i 6019).toInt + (1 : Int32).toInt := kd_add (oz1332 c6 kn24 kn1) (oz951 fi_6019.2 kn1)
      have hJ8 := kG_i hG 6019 rfl (v := ((i 6019) + 1)) ⟨(oz1333 c6 s7 kn24 kn1), (oz1334 hp3.2 s7 kn1)⟩
      have s9 : (x5 + 1).toInt = x5.toInt + (1 : Int32).toInt := kd_add (oz12 hp2.1 kn1) (oz1335 hp2.2 kn1)
      refine ft_go mi_k13 15 72 [(7, .int 1), (6, .int 0), (0, .ref 94), (1, .int x1), (2, .int 0), (3, .int 0), (4, .int x4), (5, .int x5)] [.int (x5 + 1), .int x4, .int 0, .int x1, .ref 94] (ku i 6019 ((i 6019) + 1)) a q r (by rfl) ?_
      refine ko_callI mi_k13.1 (pc := 72) (ls := [(7, .int 1), (6, .int 0), (0, .ref 94), (1, .int x1), (2, .int 0), (3, .int 0), (4, .int x4), (5, .int x5)]) (st := [.int (x5 + 1), .int x4, .int 0, .int x1, .ref 94]) (h := ks (ku i 6019 ((i 6019) + 1)) a q r) (i := (.invokevirtual 43, 3, 14, 0, 9, 0, 301)) (mi_k13.2 _ _ (by rfl)) (ft_invS mi_pq14 (by rfl)) (cy := mi_c14) mi_pq14 rfl (kc14_94_l10_K1 hJ8.I hJ8.R x1 x4 (x5 + 1) (oz1339 hp0.1 hp0.2) (oz1381 hp1) (oz1340 hp2.1 hp2.2 s9 kn1) (oz1341 c6 hp3.2 s7 kn24 kn1)) (by decide) ?_
      intro vg10 ig10 ag10 qg10 rg10 kg10 hg10
      have hGg10 := kG_call hJ8 kg10 (by decide +kernel)
      have efig10_6019 : (ig10 6019).toInt = ((i 6019) + 1).toInt := kg10.ti 6019 rfl
      exact ft_ret mi_k13 (by rfl) (hP vg10 _ _ _ _ hGg10 (oz1342 efig10_6019 s7 kn1))
    ·
      have c12 : (i 6019).toInt < (24 : Int32).toInt := kd_leF c; clear c
      refine ft_go mi_k13 5 47 [(7, .int 1), (6, .int 0), (0, .ref 94), (1, .int x1), (2, .int 0), (3, .int 0), (4, .int x4), (5, .int x5)] [.int 1, .int (i 6019), .ref 96] i a q r (by rfl) ?_
      refine ko_iast3 mi_k13.1 (n := 24) (c := 24) (ax := (0, 0, 0, 0, 0)) (mi_k13.2 _ _ (by rfl)) (by rfl) (ksG96 _ _ _ _) (ksA96 _ _ _ _) (hG.I.2.1 96) rfl (oz3 fi_6019.1) (oz1343 c12 kn24) ?_
      intro a13 ea13 fa13
      have hJ13 := kG_a3 hG 96 rfl ea13 fa13 (kd_bd _)
      have s14 : ((i 6019) + 1).toInt = (i 6019).toInt + (1 : Int32).toInt := kd_add (oz12 fi_6019.1 kn1) (oz951 fi_6019.2 kn1)
      have hJ15 := kG_i hJ13 6019 rfl (v := ((i 6019) + 1)) ⟨(oz14 fi_6019.1 s14 kn1), (oz1334 hp3.2 s14 kn1)⟩
      have s16 : (x5 + 1).toInt = x5.toInt + (1 : Int32).toInt := kd_add (oz12 hp2.1 kn1) (oz1335 hp2.2 kn1)
      refine ft_go mi_k13 15 72 [(7, .int 1), (6, .int 0), (0, .ref 94), (1, .int x1), (2, .int 0), (3, .int 0), (4, .int x4), (5, .int x5)] [.int (x5 + 1), .int x4, .int 0, .int x1, .ref 94] (ku i 6019 ((i 6019) + 1)) a13 q r (by rfl) ?_
      have r17 : ((0 : Int) ≤ ((a13 95).getD x1.toNatClampNeg 0).toInt) ∧ (((a13 95).getD x1.toNatClampNeg 0).toInt ≤ 7) := hJ15.I.2.2.1 95 (x1.toNatClampNeg)
      have u18 : ((a13 95).getD x1.toNatClampNeg 0).toInt = ((a 95).getD x1.toNatClampNeg 0).toInt := congrArg (fun z : List Int32 => (z.getD x1.toNatClampNeg 0).toInt) (fa13 95 (by decide))
      refine ko_callI mi_k13.1 (pc := 72) (ls := [(7, .int 1), (6, .int 0), (0, .ref 94), (1, .int x1), (2, .int 0), (3, .int 0), (4, .int x4), (5, .int x5)]) (st := [.int (x5 + 1), .int x4, .int 0, .int x1, .ref 94]) (h := ks (ku i 6019 ((i 6019) + 1)) a13 q r) (i := (.invokevirtual 43, 3, 14, 0, 9, 0, 301)) (mi_k13.2 _ _ (by rfl)) (ft_invS mi_pq14 (by rfl)) (cy := mi_c14) mi_pq14 rfl (kc14_94_l10_K1 hJ15.I hJ15.R x1 x4 (x5 + 1) (oz1339 hp0.1 hp0.2) (oz1383 hp1 u18) (oz1340 hp2.1 hp2.2 s16 kn1) (oz1345 fi_6019.1 hp3.2 s14 kn1)) (by decide) ?_
      intro vg19 ig19 ag19 qg19 rg19 kg19 hg19
      have hGg19 := kG_call hJ15 kg19 (by decide +kernel)
      have efig19_6019 : (ig19 6019).toInt = ((i 6019) + 1).toInt := kg19.ti 6019 rfl
      exact ft_ret mi_k13 (by rfl) (hP vg19 _ _ _ _ hGg19 (oz1342 efig19_6019 s14 kn1))
  ·
    have c21 : (40 : Int32).toInt ≤ x5.toInt := kd_ltF c; clear c
    exact (oz1346 c21 hp2.2 kn40).elim
def w13_94_l11_l20_K1 : kW := ([6019], [96], [], [])
set_option maxRecDepth 100000 in
theorem kc13_94_l11_l20_K1 {i : Nat → Int32} {a : Nat → List Int32} {q : Nat → List Int64} {r : Nat → Nat} (hI : kI i a q) (hr : kr r) (x1 : Int32) (x4 : Int32) (x5 : Int32) (hp0 : ((0 : Int) ≤ x1.toInt) ∧ (x1.toInt ≤ 49)) (hp1 : ((a 95).getD x1.toNatClampNeg 0).toInt = 1) (hp2 : ((0 : Int) ≤ x5.toInt) ∧ ((x5.toInt + 2) ≤ 39)) (hp3 : ((0 : Int) ≤ (i 6019).toInt) ∧ (((i 6019).toInt + 2) ≤ 900)) : km 5 13 [.ref 94, .int x1, .int 1, .int 0, .int x4, .int x5] (ks i a q r) (kVI w13_94_l11_l20_K1 i a q r (fun v i1 a1 q1 r1 => (i1 6019).toInt = ((i 6019).toInt + 2))) := by
  have hG := kG_self w13_94_l11_l20_K1 hI hr
  refine km_ofI (q := (mi_h13, mi_c13)) rfl (by decide) (Nat.le_of_ble_eq_true rfl) ?_
  intro P hP
  have r1 : ((0 : Int) ≤ ((a 95).getD x1.toNatClampNeg 0).toInt) ∧ (((a 95).getD x1.toNatClampNeg 0).toInt ≤ 7) := hG.I.2.2.1 95 (x1.toNatClampNeg)
  have fi_6019 : ((0 : Int) ≤ (i 6019).toInt) ∧ ((i 6019).toInt ≤ 1000) := hG.I.1 6019
  refine ft_go mi_k13 2 4 [(0, .ref 94), (1, .int x1), (2, .int 1), (3, .int 0), (4, .int x4), (5, .int x5)] [.int 40, .int x5] i a q r (by rfl) ?_
  refine ft_if mi_k13 (decide (x5 < 40)) 9 7 [(0, .ref 94), (1, .int x1), (2, .int 1), (3, .int 0), (4, .int x4), (5, .int x5)] [] (by rfl) (fun c => ?_) (fun c => ?_)
  ·
    have c2 : x5.toInt < (40 : Int32).toInt := kd_lt c; clear c
    refine ft_go mi_k13 2 11 [(0, .ref 94), (1, .int x1), (2, .int 1), (3, .int 0), (4, .int x4), (5, .int x5)] [.int 0, .int 1] i a q r (by rfl) ?_
    refine ko_callPI mi_k13.1 (pc := 11) (ls := [(0, .ref 94), (1, .int x1), (2, .int 1), (3, .int 0), (4, .int x4), (5, .int x5)]) (st := [.int 0, .int 1]) (h := ks i a q r) (i := (.invokestatic 39, 3, 11, 0, 9, 0, 298)) (mi_k13.2 _ _ (by rfl)) (ft_invS mi_pq11 (by rfl)) (cy := mi_c11) mi_pq11 rfl (kc11_l01_l10 hG.I hG.R ) (by decide) ?_
    intro vg3 hg3
    have z4 : vg3.toInt = 1 := hg3
    have evvg3 := kj_eq (oz1381 z4) (by decide : (1 : Int32).toInt = 1)
    subst evvg3
    refine ft_go mi_k13 5 23 [(6, .int 1), (0, .ref 94), (1, .int x1), (2, .int 1), (3, .int 0), (4, .int x4), (5, .int x5)] [.int (1 * 4), .ref (mi_RO + 3)] i a q r (by rfl) ?_
    refine ko_eq (x1 := (23, [(6, .int 1), (0, .ref 94), (1, .int x1), (2, .int 1), (3, .int 0), (4, .int x4), (5, .int x5)], [.int 4, .ref (mi_RO + 3)], (0, 0), ks i a q r)) (by rw [(by decide : (1 * 4 : Int32) = 4)]) ?_
    refine ft_go mi_k13 2 25 [(6, .int 1), (0, .ref 94), (1, .int x1), (2, .int 1), (3, .int 0), (4, .int x4), (5, .int x5)] [.int (4 + 0), .ref (mi_RO + 3)] i a q r (by rfl) ?_
    refine ko_eq (x1 := (25, [(6, .int 1), (0, .ref 94), (1, .int x1), (2, .int 1), (3, .int 0), (4, .int x4), (5, .int x5)], [.int 4, .ref (mi_RO + 3)], (0, 0), ks i a q r)) (by rw [(by decide : (4 + 0 : Int32) = 4)]) ?_
    refine ko_iaro2 mi_k13.1 (l := [1, 10, 11, 2, 20, 0, 0, 0, 0, 30, 0, 0, 0, 41, 40, 0, 0, 0, 50, 0, 0, 0, 0, 60, 70, 0, 0, 0, 0, 80, 0, 81]) (n := 32) (c := 32) (ax := (0, 0, 0, 0, 0)) (mi_k13.2 _ _ (by rfl)) (by rfl) (by rfl) rfl rfl (oz262 kn4) (oz1380 kn4) ?_
    have r5 : ((0 : Int) ≤ (([1, 10, 11, 2, 20, 0, 0, 0, 0, 30, 0, 0, 0, 41, 40, 0, 0, 0, 50, 0, 0, 0, 0, 60, 70, 0, 0, 0, 0, 80, 0, 81] : List Int32).getD (4 : Int32).toNatClampNeg 0).toInt) ∧ ((([1, 10, 11, 2, 20, 0, 0, 0, 0, 30, 0, 0, 0, 41, 40, 0, 0, 0, 50, 0, 0, 0, 0, 60, 70, 0, 0, 0, 0, 80, 0, 81] : List Int32).getD (4 : Int32).toNatClampNeg 0).toInt ≤ 81) := kro_rng (lo := 0) (hi := 81) (by decide) ((4 : Int32).toNatClampNeg)
    refine ko_eq (x1 := (26, [(6, .int 1), (0, .ref 94), (1, .int x1), (2, .int 1), (3, .int 0), (4, .int x4), (5, .int x5)], [.int 20], (0, 0), ks i a q r)) (by rw [(by decide : (([1, 10, 11, 2, 20, 0, 0, 0, 0, 30, 0, 0, 0, 41, 40, 0, 0, 0, 50, 0, 0, 0, 0, 60, 70, 0, 0, 0, 0, 80, 0, 81] : List Int32).getD (4 : Int32).toNatClampNeg 0) = 20)]) ?_
    refine ft_go mi_k13 4 34 [(7, .int 20), (6, .int 1), (0, .ref 94), (1, .int x1), (2, .int 1), (3, .int 0), (4, .int x4), (5, .int x5)] [.int 24, .int (i 6019)] i a q r (by rfl) ?_
    refine ft_if mi_k13 (decide (24 ≤ (i 6019))) 48 37 [(7, .int 20), (6, .int 1), (0, .ref 94), (1, .int x1), (2, .int 1), (3, .int 0), (4, .int x4), (5, .int x5)] [] (by rfl) (fun c => ?_) (fun c => ?_)
    ·
      have c6 : (24 : Int32).toInt ≤ (i 6019).toInt := kd_le c; clear c
      have s7 : ((i 6019) + 1).toInt = (i 6019).toInt + (1 : Int32).toInt := kd_add (oz1332 c6 kn24 kn1) (oz951 fi_6019.2 kn1)
      have hJ8 := kG_i hG 6019 rfl (v := ((i 6019) + 1)) ⟨(oz1333 c6 s7 kn24 kn1), (oz1351 hp3.2 s7 kn1)⟩
      refine ft_go mi_k13 12 83 [(7, .int 20), (6, .int 1), (0, .ref 94), (1, .int x1), (2, .int 1), (3, .int 0), (4, .int x4), (5, .int x5)] [.int 1, .ref (mi_RO + 4), .int x1, .ref 94] (ku i 6019 ((i 6019) + 1)) a q r (by rfl) ?_
      refine ko_iaro2 mi_k13.1 (l := [(-1), 0, 0, 2, 1, 3, 0, 4]) (n := 8) (c := 8) (ax := (0, 0, 0, 0, 0)) (mi_k13.2 _ _ (by rfl)) (by rfl) (by rfl) rfl rfl (oz246 kn1) (oz1382 kn1) ?_
      have r9 : ((-1 : Int) ≤ (([(-1), 0, 0, 2, 1, 3, 0, 4] : List Int32).getD (1 : Int32).toNatClampNeg 0).toInt) ∧ ((([(-1), 0, 0, 2, 1, 3, 0, 4] : List Int32).getD (1 : Int32).toNatClampNeg 0).toInt ≤ 4) := kro_rng (lo := -1) (hi := 4) (by decide) ((1 : Int32).toNatClampNeg)
      refine ko_eq (x1 := (84, [(7, .int 20), (6, .int 1), (0, .ref 94), (1, .int x1), (2, .int 1), (3, .int 0), (4, .int x4), (5, .int x5)], [.int 0, .int x1, .ref 94], (0, 0), ks (ku i 6019 ((i 6019) + 1)) a q r)) (by rw [(by decide : (([(-1), 0, 0, 2, 1, 3, 0, 4] : List Int32).getD (1 : Int32).toNatClampNeg 0) = 0)]) ?_
      have s10 : (x5 + 1).toInt = x5.toInt + (1 : Int32).toInt := kd_add (oz12 hp2.1 kn1) (oz1352 hp2.2 kn1)
      refine ft_go mi_k13 8 105 [(7, .int 20), (6, .int 1), (0, .ref 94), (1, .int x1), (2, .int 1), (3, .int 0), (4, .int x4), (5, .int x5)] [.int (x5 + 1), .int x4, .int 0, .int 0, .int x1, .ref 94] (ku i 6019 ((i 6019) + 1)) a q r (by rfl) ?_
      refine ko_callI mi_k13.1 (pc := 105) (ls := [(7, .int 20), (6, .int 1), (0, .ref 94), (1, .int x1), (2, .int 1), (3, .int 0), (4, .int x4), (5, .int x5)]) (st := [.int (x5 + 1), .int x4, .int 0, .int 0, .int x1, .ref 94]) (h := ks (ku i 6019 ((i 6019) + 1)) a q r) (i := (.invokevirtual 35, 3, 13, 0, 9, 0, 297)) (mi_k13.2 _ _ (by rfl)) (ft_invS mi_pq13 (by rfl)) (cy := mi_c13) mi_pq13 rfl (kc13_94_l10_l20_K1 hJ8.I hJ8.R x1 x4 (x5 + 1) (oz1339 hp0.1 hp0.2) (oz1381 hp1) (oz1356 hp2.1 hp2.2 s10 kn1) (oz1357 c6 hp3.2 s7 kn24 kn1)) (by decide) ?_
      intro vg11 ig11 ag11 qg11 rg11 kg11 hg11
      have hGg11 := kG_call hJ8 kg11 (by decide +kernel)
      have z12 : (ig11 6019).toInt = (((i 6019) + 1).toInt + 1) := hg11
      have b13 : ((-2147483648 : Int) ≤ vg11.toInt) ∧ (vg11.toInt ≤ 2147483647) := kd_bd vg11
      refine ft_go mi_k13 6 192 [(8, .int vg11), (7, .int 20), (6, .int 1), (0, .ref 94), (1, .int x1), (2, .int 1), (3, .int 0), (4, .int x4), (5, .int x5)] [.int (vg11 + 3)] ig11 ag11 qg11 rg11 (by rfl) ?_
      exact ft_ret mi_k13 (by rfl) (hP (vg11 + 3) _ _ _ _ hGg11 (oz1358 s7 z12 kn1))
    ·
      have c14 : (i 6019).toInt < (24 : Int32).toInt := kd_leF c; clear c
      refine ft_go mi_k13 5 47 [(7, .int 20), (6, .int 1), (0, .ref 94), (1, .int x1), (2, .int 1), (3, .int 0), (4, .int x4), (5, .int x5)] [.int 20, .int (i 6019), .ref 96] i a q r (by rfl) ?_
      refine ko_iast3 mi_k13.1 (n := 24) (c := 24) (ax := (0, 0, 0, 0, 0)) (mi_k13.2 _ _ (by rfl)) (by rfl) (ksG96 _ _ _ _) (ksA96 _ _ _ _) (hG.I.2.1 96) rfl (oz3 fi_6019.1) (oz1343 c14 kn24) ?_
      intro a15 ea15 fa15
      have hJ15 := kG_a3 hG 96 rfl ea15 fa15 (kd_bd _)
      have s16 : ((i 6019) + 1).toInt = (i 6019).toInt + (1 : Int32).toInt := kd_add (oz12 fi_6019.1 kn1) (oz951 fi_6019.2 kn1)
      have hJ17 := kG_i hJ15 6019 rfl (v := ((i 6019) + 1)) ⟨(oz14 fi_6019.1 s16 kn1), (oz1351 hp3.2 s16 kn1)⟩
      refine ft_go mi_k13 12 83 [(7, .int 20), (6, .int 1), (0, .ref 94), (1, .int x1), (2, .int 1), (3, .int 0), (4, .int x4), (5, .int x5)] [.int 1, .ref (mi_RO + 4), .int x1, .ref 94] (ku i 6019 ((i 6019) + 1)) a15 q r (by rfl) ?_
      refine ko_iaro2 mi_k13.1 (l := [(-1), 0, 0, 2, 1, 3, 0, 4]) (n := 8) (c := 8) (ax := (0, 0, 0, 0, 0)) (mi_k13.2 _ _ (by rfl)) (by rfl) (by rfl) rfl rfl (oz246 kn1) (oz1382 kn1) ?_
      have r18 : ((-1 : Int) ≤ (([(-1), 0, 0, 2, 1, 3, 0, 4] : List Int32).getD (1 : Int32).toNatClampNeg 0).toInt) ∧ ((([(-1), 0, 0, 2, 1, 3, 0, 4] : List Int32).getD (1 : Int32).toNatClampNeg 0).toInt ≤ 4) := kro_rng (lo := -1) (hi := 4) (by decide) ((1 : Int32).toNatClampNeg)
      refine ko_eq (x1 := (84, [(7, .int 20), (6, .int 1), (0, .ref 94), (1, .int x1), (2, .int 1), (3, .int 0), (4, .int x4), (5, .int x5)], [.int 0, .int x1, .ref 94], (0, 0), ks (ku i 6019 ((i 6019) + 1)) a15 q r)) (by rw [(by decide : (([(-1), 0, 0, 2, 1, 3, 0, 4] : List Int32).getD (1 : Int32).toNatClampNeg 0) = 0)]) ?_
      have s19 : (x5 + 1).toInt = x5.toInt + (1 : Int32).toInt := kd_add (oz12 hp2.1 kn1) (oz1352 hp2.2 kn1)
      refine ft_go mi_k13 8 105 [(7, .int 20), (6, .int 1), (0, .ref 94), (1, .int x1), (2, .int 1), (3, .int 0), (4, .int x4), (5, .int x5)] [.int (x5 + 1), .int x4, .int 0, .int 0, .int x1, .ref 94] (ku i 6019 ((i 6019) + 1)) a15 q r (by rfl) ?_
      have r20 : ((0 : Int) ≤ ((a15 95).getD x1.toNatClampNeg 0).toInt) ∧ (((a15 95).getD x1.toNatClampNeg 0).toInt ≤ 7) := hJ17.I.2.2.1 95 (x1.toNatClampNeg)
      have u21 : ((a15 95).getD x1.toNatClampNeg 0).toInt = ((a 95).getD x1.toNatClampNeg 0).toInt := congrArg (fun z : List Int32 => (z.getD x1.toNatClampNeg 0).toInt) (fa15 95 (by decide))
      refine ko_callI mi_k13.1 (pc := 105) (ls := [(7, .int 20), (6, .int 1), (0, .ref 94), (1, .int x1), (2, .int 1), (3, .int 0), (4, .int x4), (5, .int x5)]) (st := [.int (x5 + 1), .int x4, .int 0, .int 0, .int x1, .ref 94]) (h := ks (ku i 6019 ((i 6019) + 1)) a15 q r) (i := (.invokevirtual 35, 3, 13, 0, 9, 0, 297)) (mi_k13.2 _ _ (by rfl)) (ft_invS mi_pq13 (by rfl)) (cy := mi_c13) mi_pq13 rfl (kc13_94_l10_l20_K1 hJ17.I hJ17.R x1 x4 (x5 + 1) (oz1339 hp0.1 hp0.2) (oz1383 hp1 u21) (oz1356 hp2.1 hp2.2 s19 kn1) (oz1359 fi_6019.1 hp3.2 s16 kn1)) (by decide) ?_
      intro vg22 ig22 ag22 qg22 rg22 kg22 hg22
      have hGg22 := kG_call hJ17 kg22 (by decide +kernel)
      have z23 : (ig22 6019).toInt = (((i 6019) + 1).toInt + 1) := hg22
      have b24 : ((-2147483648 : Int) ≤ vg22.toInt) ∧ (vg22.toInt ≤ 2147483647) := kd_bd vg22
      refine ft_go mi_k13 6 192 [(8, .int vg22), (7, .int 20), (6, .int 1), (0, .ref 94), (1, .int x1), (2, .int 1), (3, .int 0), (4, .int x4), (5, .int x5)] [.int (vg22 + 3)] ig22 ag22 qg22 rg22 (by rfl) ?_
      exact ft_ret mi_k13 (by rfl) (hP (vg22 + 3) _ _ _ _ hGg22 (oz1358 s16 z23 kn1))
  ·
    have c25 : (40 : Int32).toInt ≤ x5.toInt := kd_ltF c; clear c
    exact (oz1360 c25 hp2.2 kn40).elim
set_option maxRecDepth 100000 in
theorem kc11_l01_l11 {i : Nat → Int32} {a : Nat → List Int32} {q : Nat → List Int64} {r : Nat → Nat} (hI : kI i a q) (hr : kr r)  : km 1 11 [.int 1, .int 1] (ks i a q r) (kPI (ks i a q r) (fun v => v.toInt = 0)) := by
  have hG := kG_self kW0 hI hr
  refine km_ofPI (q := (mi_h11, mi_c11)) rfl (by decide) (Nat.le_of_ble_eq_true rfl) ?_
  intro P hP
  refine ft_go mi_k11 16 26 [(3, .int 0), (2, .int 1), (0, .int 1), (1, .int 1)] [.int (1 * 4), .ref (mi_RO + 3)] i a q r (by rfl) ?_
  refine ko_eq (x1 := (26, [(3, .int 0), (2, .int 1), (0, .int 1), (1, .int 1)], [.int 4, .ref (mi_RO + 3)], (0, 0), ks i a q r)) (by rw [(by decide : (1 * 4 : Int32) = 4)]) ?_
  refine ft_go mi_k11 2 28 [(3, .int 0), (2, .int 1), (0, .int 1), (1, .int 1)] [.int (4 + 1), .ref (mi_RO + 3)] i a q r (by rfl) ?_
  refine ko_eq (x1 := (28, [(3, .int 0), (2, .int 1), (0, .int 1), (1, .int 1)], [.int 5, .ref (mi_RO + 3)], (0, 0), ks i a q r)) (by rw [(by decide : (4 + 1 : Int32) = 5)]) ?_
  refine ko_iaro2 mi_k11.1 (l := [1, 10, 11, 2, 20, 0, 0, 0, 0, 30, 0, 0, 0, 41, 40, 0, 0, 0, 50, 0, 0, 0, 0, 60, 70, 0, 0, 0, 0, 80, 0, 81]) (n := 32) (c := 32) (ax := (0, 0, 0, 0, 0)) (mi_k11.2 _ _ (by rfl)) (by rfl) (by rfl) rfl rfl (oz264 kn5) (oz1384 kn5) ?_
  have r1 : ((0 : Int) ≤ (([1, 10, 11, 2, 20, 0, 0, 0, 0, 30, 0, 0, 0, 41, 40, 0, 0, 0, 50, 0, 0, 0, 0, 60, 70, 0, 0, 0, 0, 80, 0, 81] : List Int32).getD (5 : Int32).toNatClampNeg 0).toInt) ∧ ((([1, 10, 11, 2, 20, 0, 0, 0, 0, 30, 0, 0, 0, 41, 40, 0, 0, 0, 50, 0, 0, 0, 0, 60, 70, 0, 0, 0, 0, 80, 0, 81] : List Int32).getD (5 : Int32).toNatClampNeg 0).toInt ≤ 81) := kro_rng (lo := 0) (hi := 81) (by decide) ((5 : Int32).toNatClampNeg)
  refine ko_eq (x1 := (29, [(3, .int 0), (2, .int 1), (0, .int 1), (1, .int 1)], [.int 0], (0, 0), ks i a q r)) (by rw [(by decide : (([1, 10, 11, 2, 20, 0, 0, 0, 0, 30, 0, 0, 0, 41, 40, 0, 0, 0, 50, 0, 0, 0, 0, 60, 70, 0, 0, 0, 0, 80, 0, 81] : List Int32).getD (5 : Int32).toNatClampNeg 0) = 0)]) ?_
  refine ft_go mi_k11 3 38 [(3, .int 0), (2, .int 1), (0, .int 1), (1, .int 1)] [.int 1, .ref (mi_RO + 4)] i a q r (by rfl) ?_
  refine ko_iaro2 mi_k11.1 (l := [(-1), 0, 0, 2, 1, 3, 0, 4]) (n := 8) (c := 8) (ax := (0, 0, 0, 0, 0)) (mi_k11.2 _ _ (by rfl)) (by rfl) (by rfl) rfl rfl (oz246 kn1) (oz1382 kn1) ?_
  have r2 : ((-1 : Int) ≤ (([(-1), 0, 0, 2, 1, 3, 0, 4] : List Int32).getD (1 : Int32).toNatClampNeg 0).toInt) ∧ ((([(-1), 0, 0, 2, 1, 3, 0, 4] : List Int32).getD (1 : Int32).toNatClampNeg 0).toInt ≤ 4) := kro_rng (lo := -1) (hi := 4) (by decide) ((1 : Int32).toNatClampNeg)
  refine ko_eq (x1 := (39, [(3, .int 0), (2, .int 1), (0, .int 1), (1, .int 1)], [.int 0], (0, 0), ks i a q r)) (by rw [(by decide : (([(-1), 0, 0, 2, 1, 3, 0, 4] : List Int32).getD (1 : Int32).toNatClampNeg 0) = 0)]) ?_
  refine ft_go mi_k11 2 43 [(3, .int (0 + 1)), (2, .int 0), (0, .int 1), (1, .int 1)] [] i a q r (by rfl) ?_
  refine ko_eq (x1 := (43, [(3, .int 1), (2, .int 0), (0, .int 1), (1, .int 1)], [], (0, 0), ks i a q r)) (by rw [(by decide : (0 + 1 : Int32) = 1)]) ?_
  refine ft_go mi_k11 7 47 [(3, .int 1), (2, .int 0), (0, .int 1), (1, .int 1)] [.int 0] i a q r (by rfl) ?_
  exact ft_ret mi_k11 (by rfl) (hP 0 (oz236 kn0))
def w14_94_l11_K1 : kW := ([6019], [96], [], [])
set_option maxRecDepth 100000 in
theorem kc14_94_l11_K1 {i : Nat → Int32} {a : Nat → List Int32} {q : Nat → List Int64} {r : Nat → Nat} (hI : kI i a q) (hr : kr r) (x1 : Int32) (x3 : Int32) (x4 : Int32) (hp0 : ((0 : Int) ≤ x1.toInt) ∧ (x1.toInt ≤ 49)) (hp1 : ((a 95).getD x1.toNatClampNeg 0).toInt = 1) (hp2 : ((0 : Int) ≤ x4.toInt) ∧ ((x4.toInt + 2) ≤ 39)) (hp3 : ((0 : Int) ≤ (i 6019).toInt) ∧ (((i 6019).toInt + 2) ≤ 900)) : km 7 14 [.ref 94, .int x1, .int 1, .int x3, .int x4] (ks i a q r) (kVI w14_94_l11_K1 i a q r (fun v i1 a1 q1 r1 => (i1 6019).toInt = ((i 6019).toInt + 2))) := by
  have hG := kG_self w14_94_l11_K1 hI hr
  refine km_ofI (q := (mi_h14, mi_c14)) rfl (by decide) (Nat.le_of_ble_eq_true rfl) ?_
  intro P hP
  have r1 : ((0 : Int) ≤ ((a 95).getD x1.toNatClampNeg 0).toInt) ∧ (((a 95).getD x1.toNatClampNeg 0).toInt ≤ 7) := hG.I.2.2.1 95 (x1.toNatClampNeg)
  have fi_6019 : ((0 : Int) ≤ (i 6019).toInt) ∧ ((i 6019).toInt ≤ 1000) := hG.I.1 6019
  refine ft_go mi_k14 3 5 [(0, .ref 94), (1, .int x1), (2, .int 1), (3, .int x3), (4, .int x4)] [.int x1, .ref 95] i a q r (by rfl) ?_
  refine ko_iald3 mi_k14.1 (n := 50) (c := 50) (ax := (0, 0, 0, 0, 0)) (mi_k14.2 _ _ (by rfl)) (by rfl) (ksG95 _ _ _ _) (hG.I.2.1 95) rfl (oz3 hp0.1) (oz1336 hp0.2) ?_
  refine ko_eq (x1 := (6, [(0, .ref 94), (1, .int x1), (2, .int 1), (3, .int x3), (4, .int x4)], [.int 1], (0, 0), ks i a q r)) (by rw [(kj_eq (oz1381 hp1) (by decide) : ((a 95).getD x1.toNatClampNeg 0) = 1)]) ?_
  refine ft_go mi_k14 9 48 [(5, .int 1), (0, .ref 94), (1, .int x1), (2, .int 1), (3, .int x3), (4, .int x4)] [.int x4, .int x3, .int 0, .int 1, .int x1, .ref 94] i a q r (by rfl) ?_
  refine ko_callI mi_k14.1 (pc := 48) (ls := [(5, .int 1), (0, .ref 94), (1, .int x1), (2, .int 1), (3, .int x3), (4, .int x4)]) (st := [.int x4, .int x3, .int 0, .int 1, .int x1, .ref 94]) (h := ks i a q r) (i := (.invokevirtual 35, 3, 13, 0, 9, 0, 297)) (mi_k14.2 _ _ (by rfl)) (ft_invS mi_pq13 (by rfl)) (cy := mi_c13) mi_pq13 rfl (kc13_94_l11_l20_K1 hG.I hG.R x1 x3 x4 (oz1339 hp0.1 hp0.2) (oz1381 hp1) (oz1367 hp2.1 hp2.2) (oz1386 fi_6019.1 hp3.2)) (by decide) ?_
  intro vg2 ig2 ag2 qg2 rg2 kg2 hg2
  have hGg2 := kG_call hG kg2 (by decide +kernel)
  have z3 : (ig2 6019).toInt = ((i 6019).toInt + 2) := hg2
  have b4 : ((-2147483648 : Int) ≤ vg2.toInt) ∧ (vg2.toInt ≤ 2147483647) := kd_bd vg2
  refine ft_go mi_k14 2 53 [(5, .int 1), (0, .ref 94), (1, .int x1), (2, .int 1), (3, .int x3), (4, .int x4)] [.int (vg2 * 2)] ig2 ag2 qg2 rg2 (by rfl) ?_
  exact ft_ret mi_k14 (by rfl) (hP (vg2 * 2) _ _ _ _ hGg2 (oz1387 z3))
def w13_94_l11_l21_K1 : kW := ([6019], [96], [], [])
set_option maxRecDepth 100000 in
theorem kc13_94_l11_l21_K1 {i : Nat → Int32} {a : Nat → List Int32} {q : Nat → List Int64} {r : Nat → Nat} (hI : kI i a q) (hr : kr r) (x1 : Int32) (x4 : Int32) (x5 : Int32) (hp0 : ((0 : Int) ≤ x1.toInt) ∧ (x1.toInt ≤ 49)) (hp1 : ((a 95).getD x1.toNatClampNeg 0).toInt = 1) (hp2 : ((0 : Int) ≤ x5.toInt) ∧ ((x5.toInt + 3) ≤ 39)) (hp3 : ((0 : Int) ≤ (i 6019).toInt) ∧ (((i 6019).toInt + 3) ≤ 900)) : km 9 13 [.ref 94, .int x1, .int 1, .int 1, .int x4, .int x5] (ks i a q r) (kVI w13_94_l11_l21_K1 i a q r (fun v i1 a1 q1 r1 => (i1 6019).toInt = ((i 6019).toInt + 3))) := by
  have hG := kG_self w13_94_l11_l21_K1 hI hr
  refine km_ofI (q := (mi_h13, mi_c13)) rfl (by decide) (Nat.le_of_ble_eq_true rfl) ?_
  intro P hP
  have r1 : ((0 : Int) ≤ ((a 95).getD x1.toNatClampNeg 0).toInt) ∧ (((a 95).getD x1.toNatClampNeg 0).toInt ≤ 7) := hG.I.2.2.1 95 (x1.toNatClampNeg)
  have fi_6019 : ((0 : Int) ≤ (i 6019).toInt) ∧ ((i 6019).toInt ≤ 1000) := hG.I.1 6019
  refine ft_go mi_k13 2 4 [(0, .ref 94), (1, .int x1), (2, .int 1), (3, .int 1), (4, .int x4), (5, .int x5)] [.int 40, .int x5] i a q r (by rfl) ?_
  refine ft_if mi_k13 (decide (x5 < 40)) 9 7 [(0, .ref 94), (1, .int x1), (2, .int 1), (3, .int 1), (4, .int x4), (5, .int x5)] [] (by rfl) (fun c => ?_) (fun c => ?_)
  ·
    have c2 : x5.toInt < (40 : Int32).toInt := kd_lt c; clear c
    refine ft_go mi_k13 2 11 [(0, .ref 94), (1, .int x1), (2, .int 1), (3, .int 1), (4, .int x4), (5, .int x5)] [.int 1, .int 1] i a q r (by rfl) ?_
    refine ko_callPI mi_k13.1 (pc := 11) (ls := [(0, .ref 94), (1, .int x1), (2, .int 1), (3, .int 1), (4, .int x4), (5, .int x5)]) (st := [.int 1, .int 1]) (h := ks i a q r) (i := (.invokestatic 39, 3, 11, 0, 9, 0, 298)) (mi_k13.2 _ _ (by rfl)) (ft_invS mi_pq11 (by rfl)) (cy := mi_c11) mi_pq11 rfl (kc11_l01_l11 hG.I hG.R ) (by decide) ?_
    intro vg3 hg3
    have z4 : vg3.toInt = 0 := hg3
    have evvg3 := kj_eq (oz236 z4) (by decide : (0 : Int32).toInt = 0)
    subst evvg3
    refine ft_go mi_k13 5 23 [(6, .int 0), (0, .ref 94), (1, .int x1), (2, .int 1), (3, .int 1), (4, .int x4), (5, .int x5)] [.int (0 * 4), .ref (mi_RO + 3)] i a q r (by rfl) ?_
    refine ko_eq (x1 := (23, [(6, .int 0), (0, .ref 94), (1, .int x1), (2, .int 1), (3, .int 1), (4, .int x4), (5, .int x5)], [.int 0, .ref (mi_RO + 3)], (0, 0), ks i a q r)) (by rw [(by decide : (0 * 4 : Int32) = 0)]) ?_
    refine ft_go mi_k13 2 25 [(6, .int 0), (0, .ref 94), (1, .int x1), (2, .int 1), (3, .int 1), (4, .int x4), (5, .int x5)] [.int (0 + 1), .ref (mi_RO + 3)] i a q r (by rfl) ?_
    refine ko_eq (x1 := (25, [(6, .int 0), (0, .ref 94), (1, .int x1), (2, .int 1), (3, .int 1), (4, .int x4), (5, .int x5)], [.int 1, .ref (mi_RO + 3)], (0, 0), ks i a q r)) (by rw [(by decide : (0 + 1 : Int32) = 1)]) ?_
    refine ko_iaro2 mi_k13.1 (l := [1, 10, 11, 2, 20, 0, 0, 0, 0, 30, 0, 0, 0, 41, 40, 0, 0, 0, 50, 0, 0, 0, 0, 60, 70, 0, 0, 0, 0, 80, 0, 81]) (n := 32) (c := 32) (ax := (0, 0, 0, 0, 0)) (mi_k13.2 _ _ (by rfl)) (by rfl) (by rfl) rfl rfl (oz246 kn1) (oz1229 kn1) ?_
    have r5 : ((0 : Int) ≤ (([1, 10, 11, 2, 20, 0, 0, 0, 0, 30, 0, 0, 0, 41, 40, 0, 0, 0, 50, 0, 0, 0, 0, 60, 70, 0, 0, 0, 0, 80, 0, 81] : List Int32).getD (1 : Int32).toNatClampNeg 0).toInt) ∧ ((([1, 10, 11, 2, 20, 0, 0, 0, 0, 30, 0, 0, 0, 41, 40, 0, 0, 0, 50, 0, 0, 0, 0, 60, 70, 0, 0, 0, 0, 80, 0, 81] : List Int32).getD (1 : Int32).toNatClampNeg 0).toInt ≤ 81) := kro_rng (lo := 0) (hi := 81) (by decide) ((1 : Int32).toNatClampNeg)
    refine ko_eq (x1 := (26, [(6, .int 0), (0, .ref 94), (1, .int x1), (2, .int 1), (3, .int 1), (4, .int x4), (5, .int x5)], [.int 10], (0, 0), ks i a q r)) (by rw [(by decide : (([1, 10, 11, 2, 20, 0, 0, 0, 0, 30, 0, 0, 0, 41, 40, 0, 0, 0, 50, 0, 0, 0, 0, 60, 70, 0, 0, 0, 0, 80, 0, 81] : List Int32).getD (1 : Int32).toNatClampNeg 0) = 10)]) ?_
    refine ft_go mi_k13 4 34 [(7, .int 10), (6, .int 0), (0, .ref 94), (1, .int x1), (2, .int 1), (3, .int 1), (4, .int x4), (5, .int x5)] [.int 24, .int (i 6019)] i a q r (by rfl) ?_
    refine ft_if mi_k13 (decide (24 ≤ (i 6019))) 48 37 [(7, .int 10), (6, .int 0), (0, .ref 94), (1, .int x1), (2, .int 1), (3, .int 1), (4, .int x4), (5, .int x5)] [] (by rfl) (fun c => ?_) (fun c => ?_)
    ·
      have c6 : (24 : Int32).toInt ≤ (i 6019).toInt := kd_le c; clear c
      have s7 : ((i 6019) + 1).toInt = (i 6019).toInt + (1 : Int32).toInt := kd_add (oz1332 c6 kn24 kn1) (oz951 fi_6019.2 kn1)
      have hJ8 := kG_i hG 6019 rfl (v := ((i 6019) + 1)) ⟨(oz1333 c6 s7 kn24 kn1), (oz1385 hp3.2 s7 kn1)⟩
      have s9 : (x5 + 1).toInt = x5.toInt + (1 : Int32).toInt := kd_add (oz12 hp2.1 kn1) (oz1366 hp2.2 kn1)
      refine ft_go mi_k13 15 72 [(7, .int 10), (6, .int 0), (0, .ref 94), (1, .int x1), (2, .int 1), (3, .int 1), (4, .int x4), (5, .int x5)] [.int (x5 + 1), .int x4, .int 1, .int x1, .ref 94] (ku i 6019 ((i 6019) + 1)) a q r (by rfl) ?_
      refine ko_callI mi_k13.1 (pc := 72) (ls := [(7, .int 10), (6, .int 0), (0, .ref 94), (1, .int x1), (2, .int 1), (3, .int 1), (4, .int x4), (5, .int x5)]) (st := [.int (x5 + 1), .int x4, .int 1, .int x1, .ref 94]) (h := ks (ku i 6019 ((i 6019) + 1)) a q r) (i := (.invokevirtual 43, 3, 14, 0, 9, 0, 301)) (mi_k13.2 _ _ (by rfl)) (ft_invS mi_pq14 (by rfl)) (cy := mi_c14) mi_pq14 rfl (kc14_94_l11_K1 hJ8.I hJ8.R x1 x4 (x5 + 1) (oz1339 hp0.1 hp0.2) (oz1381 hp1) (oz1372 hp2.1 hp2.2 s9 kn1) (oz1388 c6 hp3.2 s7 kn24 kn1)) (by decide) ?_
      intro vg10 ig10 ag10 qg10 rg10 kg10 hg10
      have hGg10 := kG_call hJ8 kg10 (by decide +kernel)
      have z11 : (ig10 6019).toInt = (((i 6019) + 1).toInt + 2) := hg10
      exact ft_ret mi_k13 (by rfl) (hP vg10 _ _ _ _ hGg10 (oz1389 s7 z11 kn1))
    ·
      have c12 : (i 6019).toInt < (24 : Int32).toInt := kd_leF c; clear c
      refine ft_go mi_k13 5 47 [(7, .int 10), (6, .int 0), (0, .ref 94), (1, .int x1), (2, .int 1), (3, .int 1), (4, .int x4), (5, .int x5)] [.int 10, .int (i 6019), .ref 96] i a q r (by rfl) ?_
      refine ko_iast3 mi_k13.1 (n := 24) (c := 24) (ax := (0, 0, 0, 0, 0)) (mi_k13.2 _ _ (by rfl)) (by rfl) (ksG96 _ _ _ _) (ksA96 _ _ _ _) (hG.I.2.1 96) rfl (oz3 fi_6019.1) (oz1343 c12 kn24) ?_
      intro a13 ea13 fa13
      have hJ13 := kG_a3 hG 96 rfl ea13 fa13 (kd_bd _)
      have s14 : ((i 6019) + 1).toInt = (i 6019).toInt + (1 : Int32).toInt := kd_add (oz12 fi_6019.1 kn1) (oz951 fi_6019.2 kn1)
      have hJ15 := kG_i hJ13 6019 rfl (v := ((i 6019) + 1)) ⟨(oz14 fi_6019.1 s14 kn1), (oz1385 hp3.2 s14 kn1)⟩
      have s16 : (x5 + 1).toInt = x5.toInt + (1 : Int32).toInt := kd_add (oz12 hp2.1 kn1) (oz1366 hp2.2 kn1)
      refine ft_go mi_k13 15 72 [(7, .int 10), (6, .int 0), (0, .ref 94), (1, .int x1), (2, .int 1), (3, .int 1), (4, .int x4), (5, .int x5)] [.int (x5 + 1), .int x4, .int 1, .int x1, .ref 94] (ku i 6019 ((i 6019) + 1)) a13 q r (by rfl) ?_
      have r17 : ((0 : Int) ≤ ((a13 95).getD x1.toNatClampNeg 0).toInt) ∧ (((a13 95).getD x1.toNatClampNeg 0).toInt ≤ 7) := hJ15.I.2.2.1 95 (x1.toNatClampNeg)
      have u18 : ((a13 95).getD x1.toNatClampNeg 0).toInt = ((a 95).getD x1.toNatClampNeg 0).toInt := congrArg (fun z : List Int32 => (z.getD x1.toNatClampNeg 0).toInt) (fa13 95 (by decide))
      refine ko_callI mi_k13.1 (pc := 72) (ls := [(7, .int 10), (6, .int 0), (0, .ref 94), (1, .int x1), (2, .int 1), (3, .int 1), (4, .int x4), (5, .int x5)]) (st := [.int (x5 + 1), .int x4, .int 1, .int x1, .ref 94]) (h := ks (ku i 6019 ((i 6019) + 1)) a13 q r) (i := (.invokevirtual 43, 3, 14, 0, 9, 0, 301)) (mi_k13.2 _ _ (by rfl)) (ft_invS mi_pq14 (by rfl)) (cy := mi_c14) mi_pq14 rfl (kc14_94_l11_K1 hJ15.I hJ15.R x1 x4 (x5 + 1) (oz1339 hp0.1 hp0.2) (oz1383 hp1 u18) (oz1372 hp2.1 hp2.2 s16 kn1) (oz1390 fi_6019.1 hp3.2 s14 kn1)) (by decide) ?_
      intro vg19 ig19 ag19 qg19 rg19 kg19 hg19
      have hGg19 := kG_call hJ15 kg19 (by decide +kernel)
      have z20 : (ig19 6019).toInt = (((i 6019) + 1).toInt + 2) := hg19
      exact ft_ret mi_k13 (by rfl) (hP vg19 _ _ _ _ hGg19 (oz1389 s14 z20 kn1))
  ·
    have c21 : (40 : Int32).toInt ≤ x5.toInt := kd_ltF c; clear c
    exact (oz1376 c21 hp2.2 kn40).elim
set_option maxRecDepth 100000 in
theorem kc11_l01_l12 {i : Nat → Int32} {a : Nat → List Int32} {q : Nat → List Int64} {r : Nat → Nat} (hI : kI i a q) (hr : kr r)  : km 1 11 [.int 1, .int 2] (ks i a q r) (kPI (ks i a q r) (fun v => v.toInt = 0)) := by
  have hG := kG_self kW0 hI hr
  refine km_ofPI (q := (mi_h11, mi_c11)) rfl (by decide) (Nat.le_of_ble_eq_true rfl) ?_
  intro P hP
  refine ft_go mi_k11 16 26 [(3, .int 0), (2, .int 1), (0, .int 1), (1, .int 2)] [.int (1 * 4), .ref (mi_RO + 3)] i a q r (by rfl) ?_
  refine ko_eq (x1 := (26, [(3, .int 0), (2, .int 1), (0, .int 1), (1, .int 2)], [.int 4, .ref (mi_RO + 3)], (0, 0), ks i a q r)) (by rw [(by decide : (1 * 4 : Int32) = 4)]) ?_
  refine ft_go mi_k11 2 28 [(3, .int 0), (2, .int 1), (0, .int 1), (1, .int 2)] [.int (4 + 2), .ref (mi_RO + 3)] i a q r (by rfl) ?_
  refine ko_eq (x1 := (28, [(3, .int 0), (2, .int 1), (0, .int 1), (1, .int 2)], [.int 6, .ref (mi_RO + 3)], (0, 0), ks i a q r)) (by rw [(by decide : (4 + 2 : Int32) = 6)]) ?_
  refine ko_iaro2 mi_k11.1 (l := [1, 10, 11, 2, 20, 0, 0, 0, 0, 30, 0, 0, 0, 41, 40, 0, 0, 0, 50, 0, 0, 0, 0, 60, 70, 0, 0, 0, 0, 80, 0, 81]) (n := 32) (c := 32) (ax := (0, 0, 0, 0, 0)) (mi_k11.2 _ _ (by rfl)) (by rfl) (by rfl) rfl rfl (oz1130 kn6) (oz1392 kn6) ?_
  have r1 : ((0 : Int) ≤ (([1, 10, 11, 2, 20, 0, 0, 0, 0, 30, 0, 0, 0, 41, 40, 0, 0, 0, 50, 0, 0, 0, 0, 60, 70, 0, 0, 0, 0, 80, 0, 81] : List Int32).getD (6 : Int32).toNatClampNeg 0).toInt) ∧ ((([1, 10, 11, 2, 20, 0, 0, 0, 0, 30, 0, 0, 0, 41, 40, 0, 0, 0, 50, 0, 0, 0, 0, 60, 70, 0, 0, 0, 0, 80, 0, 81] : List Int32).getD (6 : Int32).toNatClampNeg 0).toInt ≤ 81) := kro_rng (lo := 0) (hi := 81) (by decide) ((6 : Int32).toNatClampNeg)
  refine ko_eq (x1 := (29, [(3, .int 0), (2, .int 1), (0, .int 1), (1, .int 2)], [.int 0], (0, 0), ks i a q r)) (by rw [(by decide : (([1, 10, 11, 2, 20, 0, 0, 0, 0, 30, 0, 0, 0, 41, 40, 0, 0, 0, 50, 0, 0, 0, 0, 60, 70, 0, 0, 0, 0, 80, 0, 81] : List Int32).getD (6 : Int32).toNatClampNeg 0) = 0)]) ?_
  refine ft_go mi_k11 3 38 [(3, .int 0), (2, .int 1), (0, .int 1), (1, .int 2)] [.int 1, .ref (mi_RO + 4)] i a q r (by rfl) ?_
  refine ko_iaro2 mi_k11.1 (l := [(-1), 0, 0, 2, 1, 3, 0, 4]) (n := 8) (c := 8) (ax := (0, 0, 0, 0, 0)) (mi_k11.2 _ _ (by rfl)) (by rfl) (by rfl) rfl rfl (oz246 kn1) (oz1382 kn1) ?_
  have r2 : ((-1 : Int) ≤ (([(-1), 0, 0, 2, 1, 3, 0, 4] : List Int32).getD (1 : Int32).toNatClampNeg 0).toInt) ∧ ((([(-1), 0, 0, 2, 1, 3, 0, 4] : List Int32).getD (1 : Int32).toNatClampNeg 0).toInt ≤ 4) := kro_rng (lo := -1) (hi := 4) (by decide) ((1 : Int32).toNatClampNeg)
  refine ko_eq (x1 := (39, [(3, .int 0), (2, .int 1), (0, .int 1), (1, .int 2)], [.int 0], (0, 0), ks i a q r)) (by rw [(by decide : (([(-1), 0, 0, 2, 1, 3, 0, 4] : List Int32).getD (1 : Int32).toNatClampNeg 0) = 0)]) ?_
  refine ft_go mi_k11 2 43 [(3, .int (0 + 1)), (2, .int 0), (0, .int 1), (1, .int 2)] [] i a q r (by rfl) ?_
  refine ko_eq (x1 := (43, [(3, .int 1), (2, .int 0), (0, .int 1), (1, .int 2)], [], (0, 0), ks i a q r)) (by rw [(by decide : (0 + 1 : Int32) = 1)]) ?_
  refine ft_go mi_k11 7 47 [(3, .int 1), (2, .int 0), (0, .int 1), (1, .int 2)] [.int 0] i a q r (by rfl) ?_
  exact ft_ret mi_k11 (by rfl) (hP 0 (oz236 kn0))
def w14_94_l12_K1 : kW := ([], [], [], [])
set_option maxRecDepth 100000 in
theorem kc14_94_l12_K1 {i : Nat → Int32} {a : Nat → List Int32} {q : Nat → List Int64} {r : Nat → Nat} (hI : kI i a q) (hr : kr r) (x1 : Int32) (x3 : Int32) (x4 : Int32) (hp0 : ((0 : Int) ≤ x1.toInt) ∧ (x1.toInt ≤ 49)) (hp1 : ((a 95).getD x1.toNatClampNeg 0).toInt = 1) (hp2 : ((0 : Int) ≤ x4.toInt) ∧ ((x4.toInt + 0) ≤ 39)) (hp3 : ((0 : Int) ≤ (i 6019).toInt) ∧ (((i 6019).toInt + 0) ≤ 900)) : km 1 14 [.ref 94, .int x1, .int 2, .int x3, .int x4] (ks i a q r) (kVI w14_94_l12_K1 i a q r (fun v i1 a1 q1 r1 => (i1 6019).toInt = ((i 6019).toInt + 0))) := by
  have hG := kG_self w14_94_l12_K1 hI hr
  refine km_ofI (q := (mi_h14, mi_c14)) rfl (by decide) (Nat.le_of_ble_eq_true rfl) ?_
  intro P hP
  have r1 : ((0 : Int) ≤ ((a 95).getD x1.toNatClampNeg 0).toInt) ∧ (((a 95).getD x1.toNatClampNeg 0).toInt ≤ 7) := hG.I.2.2.1 95 (x1.toNatClampNeg)
  refine ft_go mi_k14 3 5 [(0, .ref 94), (1, .int x1), (2, .int 2), (3, .int x3), (4, .int x4)] [.int x1, .ref 95] i a q r (by rfl) ?_
  refine ko_iald3 mi_k14.1 (n := 50) (c := 50) (ax := (0, 0, 0, 0, 0)) (mi_k14.2 _ _ (by rfl)) (by rfl) (ksG95 _ _ _ _) (hG.I.2.1 95) rfl (oz3 hp0.1) (oz1336 hp0.2) ?_
  refine ko_eq (x1 := (6, [(0, .ref 94), (1, .int x1), (2, .int 2), (3, .int x3), (4, .int x4)], [.int 1], (0, 0), ks i a q r)) (by rw [(kj_eq (oz1381 hp1) (by decide) : ((a 95).getD x1.toNatClampNeg 0) = 1)]) ?_
  refine ft_go mi_k14 6 57 [(5, .int 1), (0, .ref 94), (1, .int x1), (2, .int 2), (3, .int x3), (4, .int x4)] [.int (x3 ^^^ x1)] i a q r (by rfl) ?_
  exact ft_ret mi_k14 (by rfl) (hP (x3 ^^^ x1) _ _ _ _ hG oz1338)
def w13_94_l11_l22_K1 : kW := ([6019], [96], [], [])
set_option maxRecDepth 100000 in
theorem kc13_94_l11_l22_K1 {i : Nat → Int32} {a : Nat → List Int32} {q : Nat → List Int64} {r : Nat → Nat} (hI : kI i a q) (hr : kr r) (x1 : Int32) (x4 : Int32) (x5 : Int32) (hp0 : ((0 : Int) ≤ x1.toInt) ∧ (x1.toInt ≤ 49)) (hp1 : ((a 95).getD x1.toNatClampNeg 0).toInt = 1) (hp2 : ((0 : Int) ≤ x5.toInt) ∧ ((x5.toInt + 1) ≤ 39)) (hp3 : ((0 : Int) ≤ (i 6019).toInt) ∧ (((i 6019).toInt + 1) ≤ 900)) : km 3 13 [.ref 94, .int x1, .int 1, .int 2, .int x4, .int x5] (ks i a q r) (kVI w13_94_l11_l22_K1 i a q r (fun v i1 a1 q1 r1 => (i1 6019).toInt = ((i 6019).toInt + 1))) := by
  have hG := kG_self w13_94_l11_l22_K1 hI hr
  refine km_ofI (q := (mi_h13, mi_c13)) rfl (by decide) (Nat.le_of_ble_eq_true rfl) ?_
  intro P hP
  have r1 : ((0 : Int) ≤ ((a 95).getD x1.toNatClampNeg 0).toInt) ∧ (((a 95).getD x1.toNatClampNeg 0).toInt ≤ 7) := hG.I.2.2.1 95 (x1.toNatClampNeg)
  have fi_6019 : ((0 : Int) ≤ (i 6019).toInt) ∧ ((i 6019).toInt ≤ 1000) := hG.I.1 6019
  refine ft_go mi_k13 2 4 [(0, .ref 94), (1, .int x1), (2, .int 1), (3, .int 2), (4, .int x4), (5, .int x5)] [.int 40, .int x5] i a q r (by rfl) ?_
  refine ft_if mi_k13 (decide (x5 < 40)) 9 7 [(0, .ref 94), (1, .int x1), (2, .int 1), (3, .int 2), (4, .int x4), (5, .int x5)] [] (by rfl) (fun c => ?_) (fun c => ?_)
  ·
    have c2 : x5.toInt < (40 : Int32).toInt := kd_lt c; clear c
    refine ft_go mi_k13 2 11 [(0, .ref 94), (1, .int x1), (2, .int 1), (3, .int 2), (4, .int x4), (5, .int x5)] [.int 2, .int 1] i a q r (by rfl) ?_
    refine ko_callPI mi_k13.1 (pc := 11) (ls := [(0, .ref 94), (1, .int x1), (2, .int 1), (3, .int 2), (4, .int x4), (5, .int x5)]) (st := [.int 2, .int 1]) (h := ks i a q r) (i := (.invokestatic 39, 3, 11, 0, 9, 0, 298)) (mi_k13.2 _ _ (by rfl)) (ft_invS mi_pq11 (by rfl)) (cy := mi_c11) mi_pq11 rfl (kc11_l01_l12 hG.I hG.R ) (by decide) ?_
    intro vg3 hg3
    have z4 : vg3.toInt = 0 := hg3
    have evvg3 := kj_eq (oz236 z4) (by decide : (0 : Int32).toInt = 0)
    subst evvg3
    refine ft_go mi_k13 5 23 [(6, .int 0), (0, .ref 94), (1, .int x1), (2, .int 1), (3, .int 2), (4, .int x4), (5, .int x5)] [.int (0 * 4), .ref (mi_RO + 3)] i a q r (by rfl) ?_
    refine ko_eq (x1 := (23, [(6, .int 0), (0, .ref 94), (1, .int x1), (2, .int 1), (3, .int 2), (4, .int x4), (5, .int x5)], [.int 0, .ref (mi_RO + 3)], (0, 0), ks i a q r)) (by rw [(by decide : (0 * 4 : Int32) = 0)]) ?_
    refine ft_go mi_k13 2 25 [(6, .int 0), (0, .ref 94), (1, .int x1), (2, .int 1), (3, .int 2), (4, .int x4), (5, .int x5)] [.int (0 + 2), .ref (mi_RO + 3)] i a q r (by rfl) ?_
    refine ko_eq (x1 := (25, [(6, .int 0), (0, .ref 94), (1, .int x1), (2, .int 1), (3, .int 2), (4, .int x4), (5, .int x5)], [.int 2, .ref (mi_RO + 3)], (0, 0), ks i a q r)) (by rw [(by decide : (0 + 2 : Int32) = 2)]) ?_
    refine ko_iaro2 mi_k13.1 (l := [1, 10, 11, 2, 20, 0, 0, 0, 0, 30, 0, 0, 0, 41, 40, 0, 0, 0, 50, 0, 0, 0, 0, 60, 70, 0, 0, 0, 0, 80, 0, 81]) (n := 32) (c := 32) (ax := (0, 0, 0, 0, 0)) (mi_k13.2 _ _ (by rfl)) (by rfl) (by rfl) rfl rfl (oz256 kn2) (oz1363 kn2) ?_
    have r5 : ((0 : Int) ≤ (([1, 10, 11, 2, 20, 0, 0, 0, 0, 30, 0, 0, 0, 41, 40, 0, 0, 0, 50, 0, 0, 0, 0, 60, 70, 0, 0, 0, 0, 80, 0, 81] : List Int32).getD (2 : Int32).toNatClampNeg 0).toInt) ∧ ((([1, 10, 11, 2, 20, 0, 0, 0, 0, 30, 0, 0, 0, 41, 40, 0, 0, 0, 50, 0, 0, 0, 0, 60, 70, 0, 0, 0, 0, 80, 0, 81] : List Int32).getD (2 : Int32).toNatClampNeg 0).toInt ≤ 81) := kro_rng (lo := 0) (hi := 81) (by decide) ((2 : Int32).toNatClampNeg)
    refine ko_eq (x1 := (26, [(6, .int 0), (0, .ref 94), (1, .int x1), (2, .int 1), (3, .int 2), (4, .int x4), (5, .int x5)], [.int 11], (0, 0), ks i a q r)) (by rw [(by decide : (([1, 10, 11, 2, 20, 0, 0, 0, 0, 30, 0, 0, 0, 41, 40, 0, 0, 0, 50, 0, 0, 0, 0, 60, 70, 0, 0, 0, 0, 80, 0, 81] : List Int32).getD (2 : Int32).toNatClampNeg 0) = 11)]) ?_
    refine ft_go mi_k13 4 34 [(7, .int 11), (6, .int 0), (0, .ref 94), (1, .int x1), (2, .int 1), (3, .int 2), (4, .int x4), (5, .int x5)] [.int 24, .int (i 6019)] i a q r (by rfl) ?_
    refine ft_if mi_k13 (decide (24 ≤ (i 6019))) 48 37 [(7, .int 11), (6, .int 0), (0, .ref 94), (1, .int x1), (2, .int 1), (3, .int 2), (4, .int x4), (5, .int x5)] [] (by rfl) (fun c => ?_) (fun c => ?_)
    ·
      have c6 : (24 : Int32).toInt ≤ (i 6019).toInt := kd_le c; clear c
      have s7 : ((i 6019) + 1).toInt = (i 6019).toInt + (1 : Int32).toInt := kd_add (oz1332 c6 kn24 kn1) (oz951 fi_6019.2 kn1)
      have hJ8 := kG_i hG 6019 rfl (v := ((i 6019) + 1)) ⟨(oz1333 c6 s7 kn24 kn1), (oz1334 hp3.2 s7 kn1)⟩
      have s9 : (x5 + 1).toInt = x5.toInt + (1 : Int32).toInt := kd_add (oz12 hp2.1 kn1) (oz1335 hp2.2 kn1)
      refine ft_go mi_k13 15 72 [(7, .int 11), (6, .int 0), (0, .ref 94), (1, .int x1), (2, .int 1), (3, .int 2), (4, .int x4), (5, .int x5)] [.int (x5 + 1), .int x4, .int 2, .int x1, .ref 94] (ku i 6019 ((i 6019) + 1)) a q r (by rfl) ?_
      refine ko_callI mi_k13.1 (pc := 72) (ls := [(7, .int 11), (6, .int 0), (0, .ref 94), (1, .int x1), (2, .int 1), (3, .int 2), (4, .int x4), (5, .int x5)]) (st := [.int (x5 + 1), .int x4, .int 2, .int x1, .ref 94]) (h := ks (ku i 6019 ((i 6019) + 1)) a q r) (i := (.invokevirtual 43, 3, 14, 0, 9, 0, 301)) (mi_k13.2 _ _ (by rfl)) (ft_invS mi_pq14 (by rfl)) (cy := mi_c14) mi_pq14 rfl (kc14_94_l12_K1 hJ8.I hJ8.R x1 x4 (x5 + 1) (oz1339 hp0.1 hp0.2) (oz1381 hp1) (oz1340 hp2.1 hp2.2 s9 kn1) (oz1341 c6 hp3.2 s7 kn24 kn1)) (by decide) ?_
      intro vg10 ig10 ag10 qg10 rg10 kg10 hg10
      have hGg10 := kG_call hJ8 kg10 (by decide +kernel)
      have efig10_6019 : (ig10 6019).toInt = ((i 6019) + 1).toInt := kg10.ti 6019 rfl
      exact ft_ret mi_k13 (by rfl) (hP vg10 _ _ _ _ hGg10 (oz1342 efig10_6019 s7 kn1))
    ·
      have c12 : (i 6019).toInt < (24 : Int32).toInt := kd_leF c; clear c
      refine ft_go mi_k13 5 47 [(7, .int 11), (6, .int 0), (0, .ref 94), (1, .int x1), (2, .int 1), (3, .int 2), (4, .int x4), (5, .int x5)] [.int 11, .int (i 6019), .ref 96] i a q r (by rfl) ?_
      refine ko_iast3 mi_k13.1 (n := 24) (c := 24) (ax := (0, 0, 0, 0, 0)) (mi_k13.2 _ _ (by rfl)) (by rfl) (ksG96 _ _ _ _) (ksA96 _ _ _ _) (hG.I.2.1 96) rfl (oz3 fi_6019.1) (oz1343 c12 kn24) ?_
      intro a13 ea13 fa13
      have hJ13 := kG_a3 hG 96 rfl ea13 fa13 (kd_bd _)
      have s14 : ((i 6019) + 1).toInt = (i 6019).toInt + (1 : Int32).toInt := kd_add (oz12 fi_6019.1 kn1) (oz951 fi_6019.2 kn1)
      have hJ15 := kG_i hJ13 6019 rfl (v := ((i 6019) + 1)) ⟨(oz14 fi_6019.1 s14 kn1), (oz1334 hp3.2 s14 kn1)⟩
      have s16 : (x5 + 1).toInt = x5.toInt + (1 : Int32).toInt := kd_add (oz12 hp2.1 kn1) (oz1335 hp2.2 kn1)
      refine ft_go mi_k13 15 72 [(7, .int 11), (6, .int 0), (0, .ref 94), (1, .int x1), (2, .int 1), (3, .int 2), (4, .int x4), (5, .int x5)] [.int (x5 + 1), .int x4, .int 2, .int x1, .ref 94] (ku i 6019 ((i 6019) + 1)) a13 q r (by rfl) ?_
      have r17 : ((0 : Int) ≤ ((a13 95).getD x1.toNatClampNeg 0).toInt) ∧ (((a13 95).getD x1.toNatClampNeg 0).toInt ≤ 7) := hJ15.I.2.2.1 95 (x1.toNatClampNeg)
      have u18 : ((a13 95).getD x1.toNatClampNeg 0).toInt = ((a 95).getD x1.toNatClampNeg 0).toInt := congrArg (fun z : List Int32 => (z.getD x1.toNatClampNeg 0).toInt) (fa13 95 (by decide))
      refine ko_callI mi_k13.1 (pc := 72) (ls := [(7, .int 11), (6, .int 0), (0, .ref 94), (1, .int x1), (2, .int 1), (3, .int 2), (4, .int x4), (5, .int x5)]) (st := [.int (x5 + 1), .int x4, .int 2, .int x1, .ref 94]) (h := ks (ku i 6019 ((i 6019) + 1)) a13 q r) (i := (.invokevirtual 43, 3, 14, 0, 9, 0, 301)) (mi_k13.2 _ _ (by rfl)) (ft_invS mi_pq14 (by rfl)) (cy := mi_c14) mi_pq14 rfl (kc14_94_l12_K1 hJ15.I hJ15.R x1 x4 (x5 + 1) (oz1339 hp0.1 hp0.2) (oz1383 hp1 u18) (oz1340 hp2.1 hp2.2 s16 kn1) (oz1345 fi_6019.1 hp3.2 s14 kn1)) (by decide) ?_
      intro vg19 ig19 ag19 qg19 rg19 kg19 hg19
      have hGg19 := kG_call hJ15 kg19 (by decide +kernel)
      have efig19_6019 : (ig19 6019).toInt = ((i 6019) + 1).toInt := kg19.ti 6019 rfl
      exact ft_ret mi_k13 (by rfl) (hP vg19 _ _ _ _ hGg19 (oz1342 efig19_6019 s14 kn1))
  ·
    have c21 : (40 : Int32).toInt ≤ x5.toInt := kd_ltF c; clear c
    exact (oz1346 c21 hp2.2 kn40).elim
set_option maxRecDepth 100000 in
theorem kc11_l01_l13 {i : Nat → Int32} {a : Nat → List Int32} {q : Nat → List Int64} {r : Nat → Nat} (hI : kI i a q) (hr : kr r)  : km 1 11 [.int 1, .int 3] (ks i a q r) (kPI (ks i a q r) (fun v => v.toInt = 0)) := by
  have hG := kG_self kW0 hI hr
  refine km_ofPI (q := (mi_h11, mi_c11)) rfl (by decide) (Nat.le_of_ble_eq_true rfl) ?_
  intro P hP
  refine ft_go mi_k11 16 26 [(3, .int 0), (2, .int 1), (0, .int 1), (1, .int 3)] [.int (1 * 4), .ref (mi_RO + 3)] i a q r (by rfl) ?_
  refine ko_eq (x1 := (26, [(3, .int 0), (2, .int 1), (0, .int 1), (1, .int 3)], [.int 4, .ref (mi_RO + 3)], (0, 0), ks i a q r)) (by rw [(by decide : (1 * 4 : Int32) = 4)]) ?_
  refine ft_go mi_k11 2 28 [(3, .int 0), (2, .int 1), (0, .int 1), (1, .int 3)] [.int (4 + 3), .ref (mi_RO + 3)] i a q r (by rfl) ?_
  refine ko_eq (x1 := (28, [(3, .int 0), (2, .int 1), (0, .int 1), (1, .int 3)], [.int 7, .ref (mi_RO + 3)], (0, 0), ks i a q r)) (by rw [(by decide : (4 + 3 : Int32) = 7)]) ?_
  refine ko_iaro2 mi_k11.1 (l := [1, 10, 11, 2, 20, 0, 0, 0, 0, 30, 0, 0, 0, 41, 40, 0, 0, 0, 50, 0, 0, 0, 0, 60, 70, 0, 0, 0, 0, 80, 0, 81]) (n := 32) (c := 32) (ax := (0, 0, 0, 0, 0)) (mi_k11.2 _ _ (by rfl)) (by rfl) (by rfl) rfl rfl (oz1133 kn7) (oz1393 kn7) ?_
  have r1 : ((0 : Int) ≤ (([1, 10, 11, 2, 20, 0, 0, 0, 0, 30, 0, 0, 0, 41, 40, 0, 0, 0, 50, 0, 0, 0, 0, 60, 70, 0, 0, 0, 0, 80, 0, 81] : List Int32).getD (7 : Int32).toNatClampNeg 0).toInt) ∧ ((([1, 10, 11, 2, 20, 0, 0, 0, 0, 30, 0, 0, 0, 41, 40, 0, 0, 0, 50, 0, 0, 0, 0, 60, 70, 0, 0, 0, 0, 80, 0, 81] : List Int32).getD (7 : Int32).toNatClampNeg 0).toInt ≤ 81) := kro_rng (lo := 0) (hi := 81) (by decide) ((7 : Int32).toNatClampNeg)
  refine ko_eq (x1 := (29, [(3, .int 0), (2, .int 1), (0, .int 1), (1, .int 3)], [.int 0], (0, 0), ks i a q r)) (by rw [(by decide : (([1, 10, 11, 2, 20, 0, 0, 0, 0, 30, 0, 0, 0, 41, 40, 0, 0, 0, 50, 0, 0, 0, 0, 60, 70, 0, 0, 0, 0, 80, 0, 81] : List Int32).getD (7 : Int32).toNatClampNeg 0) = 0)]) ?_
  refine ft_go mi_k11 3 38 [(3, .int 0), (2, .int 1), (0, .int 1), (1, .int 3)] [.int 1, .ref (mi_RO + 4)] i a q r (by rfl) ?_
  refine ko_iaro2 mi_k11.1 (l := [(-1), 0, 0, 2, 1, 3, 0, 4]) (n := 8) (c := 8) (ax := (0, 0, 0, 0, 0)) (mi_k11.2 _ _ (by rfl)) (by rfl) (by rfl) rfl rfl (oz246 kn1) (oz1382 kn1) ?_
  have r2 : ((-1 : Int) ≤ (([(-1), 0, 0, 2, 1, 3, 0, 4] : List Int32).getD (1 : Int32).toNatClampNeg 0).toInt) ∧ ((([(-1), 0, 0, 2, 1, 3, 0, 4] : List Int32).getD (1 : Int32).toNatClampNeg 0).toInt ≤ 4) := kro_rng (lo := -1) (hi := 4) (by decide) ((1 : Int32).toNatClampNeg)
  refine ko_eq (x1 := (39, [(3, .int 0), (2, .int 1), (0, .int 1), (1, .int 3)], [.int 0], (0, 0), ks i a q r)) (by rw [(by decide : (([(-1), 0, 0, 2, 1, 3, 0, 4] : List Int32).getD (1 : Int32).toNatClampNeg 0) = 0)]) ?_
  refine ft_go mi_k11 2 43 [(3, .int (0 + 1)), (2, .int 0), (0, .int 1), (1, .int 3)] [] i a q r (by rfl) ?_
  refine ko_eq (x1 := (43, [(3, .int 1), (2, .int 0), (0, .int 1), (1, .int 3)], [], (0, 0), ks i a q r)) (by rw [(by decide : (0 + 1 : Int32) = 1)]) ?_
  refine ft_go mi_k11 7 47 [(3, .int 1), (2, .int 0), (0, .int 1), (1, .int 3)] [.int 0] i a q r (by rfl) ?_
  exact ft_ret mi_k11 (by rfl) (hP 0 (oz236 kn0))
def w14_94_l13_K1 : kW := ([6019], [96], [], [])
set_option maxRecDepth 100000 in
theorem kc14_94_l13_K1 {i : Nat → Int32} {a : Nat → List Int32} {q : Nat → List Int64} {r : Nat → Nat} (hI : kI i a q) (hr : kr r) (x1 : Int32) (x3 : Int32) (x4 : Int32) (hp0 : ((0 : Int) ≤ x1.toInt) ∧ (x1.toInt ≤ 49)) (hp1 : ((a 95).getD x1.toNatClampNeg 0).toInt = 1) (hp2 : ((0 : Int) ≤ x4.toInt) ∧ ((x4.toInt + 3) ≤ 39)) (hp3 : ((0 : Int) ≤ (i 6019).toInt) ∧ (((i 6019).toInt + 4) ≤ 900)) : km 11 14 [.ref 94, .int x1, .int 3, .int x3, .int x4] (ks i a q r) (kVI w14_94_l13_K1 i a q r (fun v i1 a1 q1 r1 => (i1 6019).toInt = ((i 6019).toInt + 4))) := by
  have hG := kG_self w14_94_l13_K1 hI hr
  refine km_ofI (q := (mi_h14, mi_c14)) rfl (by decide) (Nat.le_of_ble_eq_true rfl) ?_
  intro P hP
  have r1 : ((0 : Int) ≤ ((a 95).getD x1.toNatClampNeg 0).toInt) ∧ (((a 95).getD x1.toNatClampNeg 0).toInt ≤ 7) := hG.I.2.2.1 95 (x1.toNatClampNeg)
  have fi_6019 : ((0 : Int) ≤ (i 6019).toInt) ∧ ((i 6019).toInt ≤ 1000) := hG.I.1 6019
  refine ft_go mi_k14 3 5 [(0, .ref 94), (1, .int x1), (2, .int 3), (3, .int x3), (4, .int x4)] [.int x1, .ref 95] i a q r (by rfl) ?_
  refine ko_iald3 mi_k14.1 (n := 50) (c := 50) (ax := (0, 0, 0, 0, 0)) (mi_k14.2 _ _ (by rfl)) (by rfl) (ksG95 _ _ _ _) (hG.I.2.1 95) rfl (oz3 hp0.1) (oz1336 hp0.2) ?_
  refine ko_eq (x1 := (6, [(0, .ref 94), (1, .int x1), (2, .int 3), (3, .int x3), (4, .int x4)], [.int 1], (0, 0), ks i a q r)) (by rw [(kj_eq (oz1381 hp1) (by decide) : ((a 95).getD x1.toNatClampNeg 0) = 1)]) ?_
  refine ft_go mi_k14 9 66 [(5, .int 1), (0, .ref 94), (1, .int x1), (2, .int 3), (3, .int x3), (4, .int x4)] [.int x4, .int x3, .int 1, .int 1, .int x1, .ref 94] i a q r (by rfl) ?_
  refine ko_callI mi_k14.1 (pc := 66) (ls := [(5, .int 1), (0, .ref 94), (1, .int x1), (2, .int 3), (3, .int x3), (4, .int x4)]) (st := [.int x4, .int x3, .int 1, .int 1, .int x1, .ref 94]) (h := ks i a q r) (i := (.invokevirtual 35, 3, 13, 0, 9, 0, 297)) (mi_k14.2 _ _ (by rfl)) (ft_invS mi_pq13 (by rfl)) (cy := mi_c13) mi_pq13 rfl (kc13_94_l11_l21_K1 hG.I hG.R x1 x3 x4 (oz1339 hp0.1 hp0.2) (oz1381 hp1) (oz1396 hp2.1 hp2.2) (oz1397 fi_6019.1 hp3.2)) (by decide) ?_
  intro vg2 ig2 ag2 qg2 rg2 kg2 hg2
  have hGg2 := kG_call hG kg2 (by decide +kernel)
  have fig2_6019 : ((0 : Int) ≤ (ig2 6019).toInt) ∧ ((ig2 6019).toInt ≤ 1000) := hGg2.I.1 6019
  have z3 : (ig2 6019).toInt = ((i 6019).toInt + 3) := hg2
  refine ft_go mi_k14 8 81 [(6, .int vg2), (5, .int 1), (0, .ref 94), (1, .int x1), (2, .int 3), (3, .int x3), (4, .int x4)] [.int x4, .int 1, .int 2, .int 1, .int x1, .ref 94, .int vg2] ig2 ag2 qg2 rg2 (by rfl) ?_
  have r4 : ((0 : Int) ≤ ((ag2 95).getD x1.toNatClampNeg 0).toInt) ∧ (((ag2 95).getD x1.toNatClampNeg 0).toInt ≤ 7) := hGg2.I.2.2.1 95 (x1.toNatClampNeg)
  have u5 : ((ag2 95).getD x1.toNatClampNeg 0).toInt = ((a 95).getD x1.toNatClampNeg 0).toInt := congrArg (fun z : List Int32 => (z.getD x1.toNatClampNeg 0).toInt) (kg2.fa 95 rfl)
  refine ko_callI mi_k14.1 (pc := 81) (ls := [(6, .int vg2), (5, .int 1), (0, .ref 94), (1, .int x1), (2, .int 3), (3, .int x3), (4, .int x4)]) (st := [.int x4, .int 1, .int 2, .int 1, .int x1, .ref 94, .int vg2]) (h := ks ig2 ag2 qg2 rg2) (i := (.invokevirtual 35, 3, 13, 0, 9, 0, 297)) (mi_k14.2 _ _ (by rfl)) (ft_invS mi_pq13 (by rfl)) (cy := mi_c13) mi_pq13 rfl (kc13_94_l11_l22_K1 hGg2.I hGg2.R x1 1 x4 (oz1339 hp0.1 hp0.2) (oz1383 hp1 u5) (oz1398 hp2.1 hp2.2) (oz1399 fig2_6019.1 hp3.2 z3)) (by decide) ?_
  intro vg6 ig6 ag6 qg6 rg6 kg6 hg6
  have hGg6 := kG_call hGg2 kg6 (by decide +kernel)
  have z7 : (ig6 6019).toInt = ((ig2 6019).toInt + 1) := hg6
  have b8 : ((-2147483648 : Int) ≤ vg2.toInt) ∧ (vg2.toInt ≤ 2147483647) := kd_bd vg2
  have b9 : ((-2147483648 : Int) ≤ vg6.toInt) ∧ (vg6.toInt ≤ 2147483647) := kd_bd vg6
  refine ft_go mi_k14 1 85 [(6, .int vg2), (5, .int 1), (0, .ref 94), (1, .int x1), (2, .int 3), (3, .int x3), (4, .int x4)] [.int (vg2 - vg6)] ig6 ag6 qg6 rg6 (by rfl) ?_
  exact ft_ret mi_k14 (by rfl) (hP (vg2 - vg6) _ _ _ _ hGg6 (oz1400 z3 z7))
def w13_94_l11_l23_K1 : kW := ([6019], [96], [], [])
set_option maxRecDepth 100000 in
theorem kc13_94_l11_l23_K1 {i : Nat → Int32} {a : Nat → List Int32} {q : Nat → List Int64} {r : Nat → Nat} (hI : kI i a q) (hr : kr r) (x1 : Int32) (x4 : Int32) (x5 : Int32) (hp0 : ((0 : Int) ≤ x1.toInt) ∧ (x1.toInt ≤ 49)) (hp1 : ((a 95).getD x1.toNatClampNeg 0).toInt = 1) (hp2 : ((0 : Int) ≤ x5.toInt) ∧ ((x5.toInt + 4) ≤ 39)) (hp3 : ((0 : Int) ≤ (i 6019).toInt) ∧ (((i 6019).toInt + 5) ≤ 900)) : km 13 13 [.ref 94, .int x1, .int 1, .int 3, .int x4, .int x5] (ks i a q r) (kVI w13_94_l11_l23_K1 i a q r (fun v i1 a1 q1 r1 => (i1 6019).toInt = ((i 6019).toInt + 5))) := by
  have hG := kG_self w13_94_l11_l23_K1 hI hr
  refine km_ofI (q := (mi_h13, mi_c13)) rfl (by decide) (Nat.le_of_ble_eq_true rfl) ?_
  intro P hP
  have r1 : ((0 : Int) ≤ ((a 95).getD x1.toNatClampNeg 0).toInt) ∧ (((a 95).getD x1.toNatClampNeg 0).toInt ≤ 7) := hG.I.2.2.1 95 (x1.toNatClampNeg)
  have fi_6019 : ((0 : Int) ≤ (i 6019).toInt) ∧ ((i 6019).toInt ≤ 1000) := hG.I.1 6019
  refine ft_go mi_k13 2 4 [(0, .ref 94), (1, .int x1), (2, .int 1), (3, .int 3), (4, .int x4), (5, .int x5)] [.int 40, .int x5] i a q r (by rfl) ?_
  refine ft_if mi_k13 (decide (x5 < 40)) 9 7 [(0, .ref 94), (1, .int x1), (2, .int 1), (3, .int 3), (4, .int x4), (5, .int x5)] [] (by rfl) (fun c => ?_) (fun c => ?_)
  ·
    have c2 : x5.toInt < (40 : Int32).toInt := kd_lt c; clear c
    refine ft_go mi_k13 2 11 [(0, .ref 94), (1, .int x1), (2, .int 1), (3, .int 3), (4, .int x4), (5, .int x5)] [.int 3, .int 1] i a q r (by rfl) ?_
    refine ko_callPI mi_k13.1 (pc := 11) (ls := [(0, .ref 94), (1, .int x1), (2, .int 1), (3, .int 3), (4, .int x4), (5, .int x5)]) (st := [.int 3, .int 1]) (h := ks i a q r) (i := (.invokestatic 39, 3, 11, 0, 9, 0, 298)) (mi_k13.2 _ _ (by rfl)) (ft_invS mi_pq11 (by rfl)) (cy := mi_c11) mi_pq11 rfl (kc11_l01_l13 hG.I hG.R ) (by decide) ?_
    intro vg3 hg3
    have z4 : vg3.toInt = 0 := hg3
    have evvg3 := kj_eq (oz236 z4) (by decide : (0 : Int32).toInt = 0)
    subst evvg3
    refine ft_go mi_k13 5 23 [(6, .int 0), (0, .ref 94), (1, .int x1), (2, .int 1), (3, .int 3), (4, .int x4), (5, .int x5)] [.int (0 * 4), .ref (mi_RO + 3)] i a q r (by rfl) ?_
    refine ko_eq (x1 := (23, [(6, .int 0), (0, .ref 94), (1, .int x1), (2, .int 1), (3, .int 3), (4, .int x4), (5, .int x5)], [.int 0, .ref (mi_RO + 3)], (0, 0), ks i a q r)) (by rw [(by decide : (0 * 4 : Int32) = 0)]) ?_
    refine ft_go mi_k13 2 25 [(6, .int 0), (0, .ref 94), (1, .int x1), (2, .int 1), (3, .int 3), (4, .int x4), (5, .int x5)] [.int (0 + 3), .ref (mi_RO + 3)] i a q r (by rfl) ?_
    refine ko_eq (x1 := (25, [(6, .int 0), (0, .ref 94), (1, .int x1), (2, .int 1), (3, .int 3), (4, .int x4), (5, .int x5)], [.int 3, .ref (mi_RO + 3)], (0, 0), ks i a q r)) (by rw [(by decide : (0 + 3 : Int32) = 3)]) ?_
    refine ko_iaro2 mi_k13.1 (l := [1, 10, 11, 2, 20, 0, 0, 0, 0, 30, 0, 0, 0, 41, 40, 0, 0, 0, 50, 0, 0, 0, 0, 60, 70, 0, 0, 0, 0, 80, 0, 81]) (n := 32) (c := 32) (ax := (0, 0, 0, 0, 0)) (mi_k13.2 _ _ (by rfl)) (by rfl) (by rfl) rfl rfl (oz260 kn3) (oz1364 kn3) ?_
    have r5 : ((0 : Int) ≤ (([1, 10, 11, 2, 20, 0, 0, 0, 0, 30, 0, 0, 0, 41, 40, 0, 0, 0, 50, 0, 0, 0, 0, 60, 70, 0, 0, 0, 0, 80, 0, 81] : List Int32).getD (3 : Int32).toNatClampNeg 0).toInt) ∧ ((([1, 10, 11, 2, 20, 0, 0, 0, 0, 30, 0, 0, 0, 41, 40, 0, 0, 0, 50, 0, 0, 0, 0, 60, 70, 0, 0, 0, 0, 80, 0, 81] : List Int32).getD (3 : Int32).toNatClampNeg 0).toInt ≤ 81) := kro_rng (lo := 0) (hi := 81) (by decide) ((3 : Int32).toNatClampNeg)
    refine ko_eq (x1 := (26, [(6, .int 0), (0, .ref 94), (1, .int x1), (2, .int 1), (3, .int 3), (4, .int x4), (5, .int x5)], [.int 2], (0, 0), ks i a q r)) (by rw [(by decide : (([1, 10, 11, 2, 20, 0, 0, 0, 0, 30, 0, 0, 0, 41, 40, 0, 0, 0, 50, 0, 0, 0, 0, 60, 70, 0, 0, 0, 0, 80, 0, 81] : List Int32).getD (3 : Int32).toNatClampNeg 0) = 2)]) ?_
    refine ft_go mi_k13 4 34 [(7, .int 2), (6, .int 0), (0, .ref 94), (1, .int x1), (2, .int 1), (3, .int 3), (4, .int x4), (5, .int x5)] [.int 24, .int (i 6019)] i a q r (by rfl) ?_
    refine ft_if mi_k13 (decide (24 ≤ (i 6019))) 48 37 [(7, .int 2), (6, .int 0), (0, .ref 94), (1, .int x1), (2, .int 1), (3, .int 3), (4, .int x4), (5, .int x5)] [] (by rfl) (fun c => ?_) (fun c => ?_)
    ·
      have c6 : (24 : Int32).toInt ≤ (i 6019).toInt := kd_le c; clear c
      have s7 : ((i 6019) + 1).toInt = (i 6019).toInt + (1 : Int32).toInt := kd_add (oz1332 c6 kn24 kn1) (oz951 fi_6019.2 kn1)
      have hJ8 := kG_i hG 6019 rfl (v := ((i 6019) + 1)) ⟨(oz1333 c6 s7 kn24 kn1), (oz1394 hp3.2 s7 kn1)⟩
      have s9 : (x5 + 1).toInt = x5.toInt + (1 : Int32).toInt := kd_add (oz12 hp2.1 kn1) (oz1395 hp2.2 kn1)
      refine ft_go mi_k13 15 72 [(7, .int 2), (6, .int 0), (0, .ref 94), (1, .int x1), (2, .int 1), (3, .int 3), (4, .int x4), (5, .int x5)] [.int (x5 + 1), .int x4, .int 3, .int x1, .ref 94] (ku i 6019 ((i 6019) + 1)) a q r (by rfl) ?_
      refine ko_callI mi_k13.1 (pc := 72) (ls := [(7, .int 2), (6, .int 0), (0, .ref 94), (1, .int x1), (2, .int 1), (3, .int 3), (4, .int x4), (5, .int x5)]) (st := [.int (x5 + 1), .int x4, .int 3, .int x1, .ref 94]) (h := ks (ku i 6019 ((i 6019) + 1)) a q r) (i := (.invokevirtual 43, 3, 14, 0, 9, 0, 301)) (mi_k13.2 _ _ (by rfl)) (ft_invS mi_pq14 (by rfl)) (cy := mi_c14) mi_pq14 rfl (kc14_94_l13_K1 hJ8.I hJ8.R x1 x4 (x5 + 1) (oz1339 hp0.1 hp0.2) (oz1381 hp1) (oz1401 hp2.1 hp2.2 s9 kn1) (oz1402 c6 hp3.2 s7 kn24 kn1)) (by decide) ?_
      intro vg10 ig10 ag10 qg10 rg10 kg10 hg10
      have hGg10 := kG_call hJ8 kg10 (by decide +kernel)
      have z11 : (ig10 6019).toInt = (((i 6019) + 1).toInt + 4) := hg10
      exact ft_ret mi_k13 (by rfl) (hP vg10 _ _ _ _ hGg10 (oz1403 s7 z11 kn1))
    ·
      have c12 : (i 6019).toInt < (24 : Int32).toInt := kd_leF c; clear c
      refine ft_go mi_k13 5 47 [(7, .int 2), (6, .int 0), (0, .ref 94), (1, .int x1), (2, .int 1), (3, .int 3), (4, .int x4), (5, .int x5)] [.int 2, .int (i 6019), .ref 96] i a q r (by rfl) ?_
      refine ko_iast3 mi_k13.1 (n := 24) (c := 24) (ax := (0, 0, 0, 0, 0)) (mi_k13.2 _ _ (by rfl)) (by rfl) (ksG96 _ _ _ _) (ksA96 _ _ _ _) (hG.I.2.1 96) rfl (oz3 fi_6019.1) (oz1343 c12 kn24) ?_
      intro a13 ea13 fa13
      have hJ13 := kG_a3 hG 96 rfl ea13 fa13 (kd_bd _)
      have s14 : ((i 6019) + 1).toInt = (i 6019).toInt + (1 : Int32).toInt := kd_add (oz12 fi_6019.1 kn1) (oz951 fi_6019.2 kn1)
      have hJ15 := kG_i hJ13 6019 rfl (v := ((i 6019) + 1)) ⟨(oz14 fi_6019.1 s14 kn1), (oz1394 hp3.2 s14 kn1)⟩
      have s16 : (x5 + 1).toInt = x5.toInt + (1 : Int32).toInt := kd_add (oz12 hp2.1 kn1) (oz1395 hp2.2 kn1)
      refine ft_go mi_k13 15 72 [(7, .int 2), (6, .int 0), (0, .ref 94), (1, .int x1), (2, .int 1), (3, .int 3), (4, .int x4), (5, .int x5)] [.int (x5 + 1), .int x4, .int 3, .int x1, .ref 94] (ku i 6019 ((i 6019) + 1)) a13 q r (by rfl) ?_
      have r17 : ((0 : Int) ≤ ((a13 95).getD x1.toNatClampNeg 0).toInt) ∧ (((a13 95).getD x1.toNatClampNeg 0).toInt ≤ 7) := hJ15.I.2.2.1 95 (x1.toNatClampNeg)
      have u18 : ((a13 95).getD x1.toNatClampNeg 0).toInt = ((a 95).getD x1.toNatClampNeg 0).toInt := congrArg (fun z : List Int32 => (z.getD x1.toNatClampNeg 0).toInt) (fa13 95 (by decide))
      refine ko_callI mi_k13.1 (pc := 72) (ls := [(7, .int 2), (6, .int 0), (0, .ref 94), (1, .int x1), (2, .int 1), (3, .int 3), (4, .int x4), (5, .int x5)]) (st := [.int (x5 + 1), .int x4, .int 3, .int x1, .ref 94]) (h := ks (ku i 6019 ((i 6019) + 1)) a13 q r) (i := (.invokevirtual 43, 3, 14, 0, 9, 0, 301)) (mi_k13.2 _ _ (by rfl)) (ft_invS mi_pq14 (by rfl)) (cy := mi_c14) mi_pq14 rfl (kc14_94_l13_K1 hJ15.I hJ15.R x1 x4 (x5 + 1) (oz1339 hp0.1 hp0.2) (oz1383 hp1 u18) (oz1401 hp2.1 hp2.2 s16 kn1) (oz1404 fi_6019.1 hp3.2 s14 kn1)) (by decide) ?_
      intro vg19 ig19 ag19 qg19 rg19 kg19 hg19
      have hGg19 := kG_call hJ15 kg19 (by decide +kernel)
      have z20 : (ig19 6019).toInt = (((i 6019) + 1).toInt + 4) := hg19
      exact ft_ret mi_k13 (by rfl) (hP vg19 _ _ _ _ hGg19 (oz1403 s14 z20 kn1))
  ·
    have c21 : (40 : Int32).toInt ≤ x5.toInt := kd_ltF c; clear c
    exact (oz1405 c21 hp2.2 kn40).elim
set_option maxRecDepth 100000 in
theorem kc11_l02_l10 {i : Nat → Int32} {a : Nat → List Int32} {q : Nat → List Int64} {r : Nat → Nat} (hI : kI i a q) (hr : kr r)  : km 1 11 [.int 2, .int 0] (ks i a q r) (kPI (ks i a q r) (fun v => v.toInt = 0)) := by
  have hG := kG_self kW0 hI hr
  refine km_ofPI (q := (mi_h11, mi_c11)) rfl (by decide) (Nat.le_of_ble_eq_true rfl) ?_
  intro P hP
  refine ft_go mi_k11 16 26 [(3, .int 0), (2, .int 2), (0, .int 2), (1, .int 0)] [.int (2 * 4), .ref (mi_RO + 3)] i a q r (by rfl) ?_
  refine ko_eq (x1 := (26, [(3, .int 0), (2, .int 2), (0, .int 2), (1, .int 0)], [.int 8, .ref (mi_RO + 3)], (0, 0), ks i a q r)) (by rw [(by decide : (2 * 4 : Int32) = 8)]) ?_
  refine ft_go mi_k11 2 28 [(3, .int 0), (2, .int 2), (0, .int 2), (1, .int 0)] [.int (8 + 0), .ref (mi_RO + 3)] i a q r (by rfl) ?_
  refine ko_eq (x1 := (28, [(3, .int 0), (2, .int 2), (0, .int 2), (1, .int 0)], [.int 8, .ref (mi_RO + 3)], (0, 0), ks i a q r)) (by rw [(by decide : (8 + 0 : Int32) = 8)]) ?_
  refine ko_iaro2 mi_k11.1 (l := [1, 10, 11, 2, 20, 0, 0, 0, 0, 30, 0, 0, 0, 41, 40, 0, 0, 0, 50, 0, 0, 0, 0, 60, 70, 0, 0, 0, 0, 80, 0, 81]) (n := 32) (c := 32) (ax := (0, 0, 0, 0, 0)) (mi_k11.2 _ _ (by rfl)) (by rfl) (by rfl) rfl rfl (oz85 kn8) (oz1409 kn8) ?_
  have r1 : ((0 : Int) ≤ (([1, 10, 11, 2, 20, 0, 0, 0, 0, 30, 0, 0, 0, 41, 40, 0, 0, 0, 50, 0, 0, 0, 0, 60, 70, 0, 0, 0, 0, 80, 0, 81] : List Int32).getD (8 : Int32).toNatClampNeg 0).toInt) ∧ ((([1, 10, 11, 2, 20, 0, 0, 0, 0, 30, 0, 0, 0, 41, 40, 0, 0, 0, 50, 0, 0, 0, 0, 60, 70, 0, 0, 0, 0, 80, 0, 81] : List Int32).getD (8 : Int32).toNatClampNeg 0).toInt ≤ 81) := kro_rng (lo := 0) (hi := 81) (by decide) ((8 : Int32).toNatClampNeg)
  refine ko_eq (x1 := (29, [(3, .int 0), (2, .int 2), (0, .int 2), (1, .int 0)], [.int 0], (0, 0), ks i a q r)) (by rw [(by decide : (([1, 10, 11, 2, 20, 0, 0, 0, 0, 30, 0, 0, 0, 41, 40, 0, 0, 0, 50, 0, 0, 0, 0, 60, 70, 0, 0, 0, 0, 80, 0, 81] : List Int32).getD (8 : Int32).toNatClampNeg 0) = 0)]) ?_
  refine ft_go mi_k11 3 38 [(3, .int 0), (2, .int 2), (0, .int 2), (1, .int 0)] [.int 2, .ref (mi_RO + 4)] i a q r (by rfl) ?_
  refine ko_iaro2 mi_k11.1 (l := [(-1), 0, 0, 2, 1, 3, 0, 4]) (n := 8) (c := 8) (ax := (0, 0, 0, 0, 0)) (mi_k11.2 _ _ (by rfl)) (by rfl) (by rfl) rfl rfl (oz256 kn2) (oz1410 kn2) ?_
  have r2 : ((-1 : Int) ≤ (([(-1), 0, 0, 2, 1, 3, 0, 4] : List Int32).getD (2 : Int32).toNatClampNeg 0).toInt) ∧ ((([(-1), 0, 0, 2, 1, 3, 0, 4] : List Int32).getD (2 : Int32).toNatClampNeg 0).toInt ≤ 4) := kro_rng (lo := -1) (hi := 4) (by decide) ((2 : Int32).toNatClampNeg)
  refine ko_eq (x1 := (39, [(3, .int 0), (2, .int 2), (0, .int 2), (1, .int 0)], [.int 0], (0, 0), ks i a q r)) (by rw [(by decide : (([(-1), 0, 0, 2, 1, 3, 0, 4] : List Int32).getD (2 : Int32).toNatClampNeg 0) = 0)]) ?_
  refine ft_go mi_k11 2 43 [(3, .int (0 + 1)), (2, .int 0), (0, .int 2), (1, .int 0)] [] i a q r (by rfl) ?_
  refine ko_eq (x1 := (43, [(3, .int 1), (2, .int 0), (0, .int 2), (1, .int 0)], [], (0, 0), ks i a q r)) (by rw [(by decide : (0 + 1 : Int32) = 1)]) ?_
  refine ft_go mi_k11 7 47 [(3, .int 1), (2, .int 0), (0, .int 2), (1, .int 0)] [.int 0] i a q r (by rfl) ?_
  exact ft_ret mi_k11 (by rfl) (hP 0 (oz236 kn0))
def w14_94_l10_K2 : kW := ([], [], [], [])
set_option maxRecDepth 100000 in
theorem kc14_94_l10_K2 {i : Nat → Int32} {a : Nat → List Int32} {q : Nat → List Int64} {r : Nat → Nat} (hI : kI i a q) (hr : kr r) (x1 : Int32) (x3 : Int32) (x4 : Int32) (hp0 : ((0 : Int) ≤ x1.toInt) ∧ (x1.toInt ≤ 49)) (hp1 : ((a 95).getD x1.toNatClampNeg 0).toInt = 2) (hp2 : ((0 : Int) ≤ x4.toInt) ∧ ((x4.toInt + 0) ≤ 39)) (hp3 : ((0 : Int) ≤ (i 6019).toInt) ∧ (((i 6019).toInt + 0) ≤ 900)) : km 1 14 [.ref 94, .int x1, .int 0, .int x3, .int x4] (ks i a q r) (kVI w14_94_l10_K2 i a q r (fun v i1 a1 q1 r1 => (i1 6019).toInt = ((i 6019).toInt + 0))) := by
  have hG := kG_self w14_94_l10_K2 hI hr
  refine km_ofI (q := (mi_h14, mi_c14)) rfl (by decide) (Nat.le_of_ble_eq_true rfl) ?_
  intro P hP
  have r1 : ((0 : Int) ≤ ((a 95).getD x1.toNatClampNeg 0).toInt) ∧ (((a 95).getD x1.toNatClampNeg 0).toInt ≤ 7) := hG.I.2.2.1 95 (x1.toNatClampNeg)
  refine ft_go mi_k14 3 5 [(0, .ref 94), (1, .int x1), (2, .int 0), (3, .int x3), (4, .int x4)] [.int x1, .ref 95] i a q r (by rfl) ?_
  refine ko_iald3 mi_k14.1 (n := 50) (c := 50) (ax := (0, 0, 0, 0, 0)) (mi_k14.2 _ _ (by rfl)) (by rfl) (ksG95 _ _ _ _) (hG.I.2.1 95) rfl (oz3 hp0.1) (oz1336 hp0.2) ?_
  refine ko_eq (x1 := (6, [(0, .ref 94), (1, .int x1), (2, .int 0), (3, .int x3), (4, .int x4)], [.int 2], (0, 0), ks i a q r)) (by rw [(kj_eq (oz1411 hp1) (by decide) : ((a 95).getD x1.toNatClampNeg 0) = 2)]) ?_
  have b2 : ((-2147483648 : Int) ≤ x3.toInt) ∧ (x3.toInt ≤ 2147483647) := kd_bd x3
  have b3 : ((-2147483648 : Int) ≤ x1.toInt) ∧ (x1.toInt ≤ 2147483647) := kd_bd x1
  refine ft_go mi_k14 6 39 [(5, .int 2), (0, .ref 94), (1, .int x1), (2, .int 0), (3, .int x3), (4, .int x4)] [.int (x3 + x1)] i a q r (by rfl) ?_
  exact ft_ret mi_k14 (by rfl) (hP (x3 + x1) _ _ _ _ hG oz1338)
def w13_94_l12_l20_K2 : kW := ([6019], [96], [], [])
set_option maxRecDepth 100000 in
theorem kc13_94_l12_l20_K2 {i : Nat → Int32} {a : Nat → List Int32} {q : Nat → List Int64} {r : Nat → Nat} (hI : kI i a q) (hr : kr r) (x1 : Int32) (x4 : Int32) (x5 : Int32) (hp0 : ((0 : Int) ≤ x1.toInt) ∧ (x1.toInt ≤ 49)) (hp1 : ((a 95).getD x1.toNatClampNeg 0).toInt = 2) (hp2 : ((0 : Int) ≤ x5.toInt) ∧ ((x5.toInt + 1) ≤ 39)) (hp3 : ((0 : Int) ≤ (i 6019).toInt) ∧ (((i 6019).toInt + 1) ≤ 900)) : km 3 13 [.ref 94, .int x1, .int 2, .int 0, .int x4, .int x5] (ks i a q r) (kVI w13_94_l12_l20_K2 i a q r (fun v i1 a1 q1 r1 => (i1 6019).toInt = ((i 6019).toInt + 1))) := by
  have hG := kG_self w13_94_l12_l20_K2 hI hr
  refine km_ofI (q := (mi_h13, mi_c13)) rfl (by decide) (Nat.le_of_ble_eq_true rfl) ?_
  intro P hP
  have r1 : ((0 : Int) ≤ ((a 95).getD x1.toNatClampNeg 0).toInt) ∧ (((a 95).getD x1.toNatClampNeg 0).toInt ≤ 7) := hG.I.2.2.1 95 (x1.toNatClampNeg)
  have fi_6019 : ((0 : Int) ≤ (i 6019).toInt) ∧ ((i 6019).toInt ≤ 1000) := hG.I.1 6019
  refine ft_go mi_k13 2 4 [(0, .ref 94), (1, .int x1), (2, .int 2), (3, .int 0), (4, .int x4), (5, .int x5)] [.int 40, .int x5] i a q r (by rfl) ?_
  refine ft_if mi_k13 (decide (x5 < 40)) 9 7 [(0, .ref 94), (1, .int x1), (2, .int 2), (3, .int 0), (4, .int x4), (5, .int x5)] [] (by rfl) (fun c => ?_) (fun c => ?_)
  ·
    have c2 : x5.toInt < (40 : Int32).toInt := kd_lt c; clear c
    refine ft_go mi_k13 2 11 [(0, .ref 94), (1, .int x1), (2, .int 2), (3, .int 0), (4, .int x4), (5, .int x5)] [.int 0, .int 2] i a q r (by rfl) ?_
    refine ko_callPI mi_k13.1 (pc := 11) (ls := [(0, .ref 94), (1, .int x1), (2, .int 2), (3, .int 0), (4, .int x4), (5, .int x5)]) (st := [.int 0, .int 2]) (h := ks i a q r) (i := (.invokestatic 39, 3, 11, 0, 9, 0, 298)) (mi_k13.2 _ _ (by rfl)) (ft_invS mi_pq11 (by rfl)) (cy := mi_c11) mi_pq11 rfl (kc11_l02_l10 hG.I hG.R ) (by decide) ?_
    intro vg3 hg3
    have z4 : vg3.toInt = 0 := hg3
    have evvg3 := kj_eq (oz236 z4) (by decide : (0 : Int32).toInt = 0)
    subst evvg3
    refine ft_go mi_k13 5 23 [(6, .int 0), (0, .ref 94), (1, .int x1), (2, .int 2), (3, .int 0), (4, .int x4), (5, .int x5)] [.int (0 * 4), .ref (mi_RO + 3)] i a q r (by rfl) ?_
    refine ko_eq (x1 := (23, [(6, .int 0), (0, .ref 94), (1, .int x1), (2, .int 2), (3, .int 0), (4, .int x4), (5, .int x5)], [.int 0, .ref (mi_RO + 3)], (0, 0), ks i a q r)) (by rw [(by decide : (0 * 4 : Int32) = 0)]) ?_
    refine ft_go mi_k13 2 25 [(6, .int 0), (0, .ref 94), (1, .int x1), (2, .int 2), (3, .int 0), (4, .int x4), (5, .int x5)] [.int (0 + 0), .ref (mi_RO + 3)] i a q r (by rfl) ?_
    refine ko_eq (x1 := (25, [(6, .int 0), (0, .ref 94), (1, .int x1), (2, .int 2), (3, .int 0), (4, .int x4), (5, .int x5)], [.int 0, .ref (mi_RO + 3)], (0, 0), ks i a q r)) (by rw [(by decide : (0 + 0 : Int32) = 0)]) ?_
    refine ko_iaro2 mi_k13.1 (l := [1, 10, 11, 2, 20, 0, 0, 0, 0, 30, 0, 0, 0, 41, 40, 0, 0, 0, 50, 0, 0, 0, 0, 60, 70, 0, 0, 0, 0, 80, 0, 81]) (n := 32) (c := 32) (ax := (0, 0, 0, 0, 0)) (mi_k13.2 _ _ (by rfl)) (by rfl) (by rfl) rfl rfl (oz46 kn0) (oz1228 kn0) ?_
    have r5 : ((0 : Int) ≤ (([1, 10, 11, 2, 20, 0, 0, 0, 0, 30, 0, 0, 0, 41, 40, 0, 0, 0, 50, 0, 0, 0, 0, 60, 70, 0, 0, 0, 0, 80, 0, 81] : List Int32).getD (0 : Int32).toNatClampNeg 0).toInt) ∧ ((([1, 10, 11, 2, 20, 0, 0, 0, 0, 30, 0, 0, 0, 41, 40, 0, 0, 0, 50, 0, 0, 0, 0, 60, 70, 0, 0, 0, 0, 80, 0, 81] : List Int32).getD (0 : Int32).toNatClampNeg 0).toInt ≤ 81) := kro_rng (lo := 0) (hi := 81) (by decide) ((0 : Int32).toNatClampNeg)
    refine ko_eq (x1 := (26, [(6, .int 0), (0, .ref 94), (1, .int x1), (2, .int 2), (3, .int 0), (4, .int x4), (5, .int x5)], [.int 1], (0, 0), ks i a q r)) (by rw [(by decide : (([1, 10, 11, 2, 20, 0, 0, 0, 0, 30, 0, 0, 0, 41, 40, 0, 0, 0, 50, 0, 0, 0, 0, 60, 70, 0, 0, 0, 0, 80, 0, 81] : List Int32).getD (0 : Int32).toNatClampNeg 0) = 1)]) ?_
    refine ft_go mi_k13 4 34 [(7, .int 1), (6, .int 0), (0, .ref 94), (1, .int x1), (2, .int 2), (3, .int 0), (4, .int x4), (5, .int x5)] [.int 24, .int (i 6019)] i a q r (by rfl) ?_
    refine ft_if mi_k13 (decide (24 ≤ (i 6019))) 48 37 [(7, .int 1), (6, .int 0), (0, .ref 94), (1, .int x1), (2, .int 2), (3, .int 0), (4, .int x4), (5, .int x5)] [] (by rfl) (fun c => ?_) (fun c => ?_)
    ·
      have c6 : (24 : Int32).toInt ≤ (i 6019).toInt := kd_le c; clear c
      have s7 : ((i 6019) + 1).toInt = (i 6019).toInt + (1 : Int32).toInt := kd_add (oz1332 c6 kn24 kn1) (oz951 fi_6019.2 kn1)
      have hJ8 := kG_i hG 6019 rfl (v := ((i 6019) + 1)) ⟨(oz1333 c6 s7 kn24 kn1), (oz1334 hp3.2 s7 kn1)⟩
      have s9 : (x5 + 1).toInt = x5.toInt + (1 : Int32).toInt := kd_add (oz12 hp2.1 kn1) (oz1335 hp2.2 kn1)
      refine ft_go mi_k13 15 72 [(7, .int 1), (6, .int 0), (0, .ref 94), (1, .int x1), (2, .int 2), (3, .int 0), (4, .int x4), (5, .int x5)] [.int (x5 + 1), .int x4, .int 0, .int x1, .ref 94] (ku i 6019 ((i 6019) + 1)) a q r (by rfl) ?_
      refine ko_callI mi_k13.1 (pc := 72) (ls := [(7, .int 1), (6, .int 0), (0, .ref 94), (1, .int x1), (2, .int 2), (3, .int 0), (4, .int x4), (5, .int x5)]) (st := [.int (x5 + 1), .int x4, .int 0, .int x1, .ref 94]) (h := ks (ku i 6019 ((i 6019) + 1)) a q r) (i := (.invokevirtual 43, 3, 14, 0, 9, 0, 301)) (mi_k13.2 _ _ (by rfl)) (ft_invS mi_pq14 (by rfl)) (cy := mi_c14) mi_pq14 rfl (kc14_94_l10_K2 hJ8.I hJ8.R x1 x4 (x5 + 1) (oz1339 hp0.1 hp0.2) (oz1411 hp1) (oz1340 hp2.1 hp2.2 s9 kn1) (oz1341 c6 hp3.2 s7 kn24 kn1)) (by decide) ?_
      intro vg10 ig10 ag10 qg10 rg10 kg10 hg10
      have hGg10 := kG_call hJ8 kg10 (by decide +kernel)
      have efig10_6019 : (ig10 6019).toInt = ((i 6019) + 1).toInt := kg10.ti 6019 rfl
      exact ft_ret mi_k13 (by rfl) (hP vg10 _ _ _ _ hGg10 (oz1342 efig10_6019 s7 kn1))
    ·
      have c12 : (i 6019).toInt < (24 : Int32).toInt := kd_leF c; clear c
      refine ft_go mi_k13 5 47 [(7, .int 1), (6, .int 0), (0, .ref 94), (1, .int x1), (2, .int 2), (3, .int 0), (4, .int x4), (5, .int x5)] [.int 1, .int (i 6019), .ref 96] i a q r (by rfl) ?_
      refine ko_iast3 mi_k13.1 (n := 24) (c := 24) (ax := (0, 0, 0, 0, 0)) (mi_k13.2 _ _ (by rfl)) (by rfl) (ksG96 _ _ _ _) (ksA96 _ _ _ _) (hG.I.2.1 96) rfl (oz3 fi_6019.1) (oz1343 c12 kn24) ?_
      intro a13 ea13 fa13
      have hJ13 := kG_a3 hG 96 rfl ea13 fa13 (kd_bd _)
      have s14 : ((i 6019) + 1).toInt = (i 6019).toInt + (1 : Int32).toInt := kd_add (oz12 fi_6019.1 kn1) (oz951 fi_6019.2 kn1)
      have hJ15 := kG_i hJ13 6019 rfl (v := ((i 6019) + 1)) ⟨(oz14 fi_6019.1 s14 kn1), (oz1334 hp3.2 s14 kn1)⟩
      have s16 : (x5 + 1).toInt = x5.toInt + (1 : Int32).toInt := kd_add (oz12 hp2.1 kn1) (oz1335 hp2.2 kn1)
      refine ft_go mi_k13 15 72 [(7, .int 1), (6, .int 0), (0, .ref 94), (1, .int x1), (2, .int 2), (3, .int 0), (4, .int x4), (5, .int x5)] [.int (x5 + 1), .int x4, .int 0, .int x1, .ref 94] (ku i 6019 ((i 6019) + 1)) a13 q r (by rfl) ?_
      have r17 : ((0 : Int) ≤ ((a13 95).getD x1.toNatClampNeg 0).toInt) ∧ (((a13 95).getD x1.toNatClampNeg 0).toInt ≤ 7) := hJ15.I.2.2.1 95 (x1.toNatClampNeg)
      have u18 : ((a13 95).getD x1.toNatClampNeg 0).toInt = ((a 95).getD x1.toNatClampNeg 0).toInt := congrArg (fun z : List Int32 => (z.getD x1.toNatClampNeg 0).toInt) (fa13 95 (by decide))
      refine ko_callI mi_k13.1 (pc := 72) (ls := [(7, .int 1), (6, .int 0), (0, .ref 94), (1, .int x1), (2, .int 2), (3, .int 0), (4, .int x4), (5, .int x5)]) (st := [.int (x5 + 1), .int x4, .int 0, .int x1, .ref 94]) (h := ks (ku i 6019 ((i 6019) + 1)) a13 q r) (i := (.invokevirtual 43, 3, 14, 0, 9, 0, 301)) (mi_k13.2 _ _ (by rfl)) (ft_invS mi_pq14 (by rfl)) (cy := mi_c14) mi_pq14 rfl (kc14_94_l10_K2 hJ15.I hJ15.R x1 x4 (x5 + 1) (oz1339 hp0.1 hp0.2) (oz1412 hp1 u18) (oz1340 hp2.1 hp2.2 s16 kn1) (oz1345 fi_6019.1 hp3.2 s14 kn1)) (by decide) ?_
      intro vg19 ig19 ag19 qg19 rg19 kg19 hg19
      have hGg19 := kG_call hJ15 kg19 (by decide +kernel)
      have efig19_6019 : (ig19 6019).toInt = ((i 6019) + 1).toInt := kg19.ti 6019 rfl
      exact ft_ret mi_k13 (by rfl) (hP vg19 _ _ _ _ hGg19 (oz1342 efig19_6019 s14 kn1))
  ·
    have c21 : (40 : Int32).toInt ≤ x5.toInt := kd_ltF c; clear c
    exact (oz1346 c21 hp2.2 kn40).elim
set_option maxRecDepth 100000 in
theorem kc11_l02_l11 {i : Nat → Int32} {a : Nat → List Int32} {q : Nat → List Int64} {r : Nat → Nat} (hI : kI i a q) (hr : kr r)  : km 1 11 [.int 2, .int 1] (ks i a q r) (kPI (ks i a q r) (fun v => v.toInt = 2)) := by
  have hG := kG_self kW0 hI hr
  refine km_ofPI (q := (mi_h11, mi_c11)) rfl (by decide) (Nat.le_of_ble_eq_true rfl) ?_
  intro P hP
  refine ft_go mi_k11 16 26 [(3, .int 0), (2, .int 2), (0, .int 2), (1, .int 1)] [.int (2 * 4), .ref (mi_RO + 3)] i a q r (by rfl) ?_
  refine ko_eq (x1 := (26, [(3, .int 0), (2, .int 2), (0, .int 2), (1, .int 1)], [.int 8, .ref (mi_RO + 3)], (0, 0), ks i a q r)) (by rw [(by decide : (2 * 4 : Int32) = 8)]) ?_
  refine ft_go mi_k11 2 28 [(3, .int 0), (2, .int 2), (0, .int 2), (1, .int 1)] [.int (8 + 1), .ref (mi_RO + 3)] i a q r (by rfl) ?_
  refine ko_eq (x1 := (28, [(3, .int 0), (2, .int 2), (0, .int 2), (1, .int 1)], [.int 9, .ref (mi_RO + 3)], (0, 0), ks i a q r)) (by rw [(by decide : (8 + 1 : Int32) = 9)]) ?_
  refine ko_iaro2 mi_k11.1 (l := [1, 10, 11, 2, 20, 0, 0, 0, 0, 30, 0, 0, 0, 41, 40, 0, 0, 0, 50, 0, 0, 0, 0, 60, 70, 0, 0, 0, 0, 80, 0, 81]) (n := 32) (c := 32) (ax := (0, 0, 0, 0, 0)) (mi_k11.2 _ _ (by rfl)) (by rfl) (by rfl) rfl rfl (oz258 kn9) (oz1413 kn9) ?_
  have r1 : ((0 : Int) ≤ (([1, 10, 11, 2, 20, 0, 0, 0, 0, 30, 0, 0, 0, 41, 40, 0, 0, 0, 50, 0, 0, 0, 0, 60, 70, 0, 0, 0, 0, 80, 0, 81] : List Int32).getD (9 : Int32).toNatClampNeg 0).toInt) ∧ ((([1, 10, 11, 2, 20, 0, 0, 0, 0, 30, 0, 0, 0, 41, 40, 0, 0, 0, 50, 0, 0, 0, 0, 60, 70, 0, 0, 0, 0, 80, 0, 81] : List Int32).getD (9 : Int32).toNatClampNeg 0).toInt ≤ 81) := kro_rng (lo := 0) (hi := 81) (by decide) ((9 : Int32).toNatClampNeg)
  refine ko_eq (x1 := (29, [(3, .int 0), (2, .int 2), (0, .int 2), (1, .int 1)], [.int 30], (0, 0), ks i a q r)) (by rw [(by decide : (([1, 10, 11, 2, 20, 0, 0, 0, 0, 30, 0, 0, 0, 41, 40, 0, 0, 0, 50, 0, 0, 0, 0, 60, 70, 0, 0, 0, 0, 80, 0, 81] : List Int32).getD (9 : Int32).toNatClampNeg 0) = 30)]) ?_
  refine ft_go mi_k11 2 33 [(3, .int 0), (2, .int 2), (0, .int 2), (1, .int 1)] [.int 2] i a q r (by rfl) ?_
  exact ft_ret mi_k11 (by rfl) (hP 2 (oz1411 kn2))
def w14_94_l11_K2 : kW := ([6019], [96], [], [])
set_option maxRecDepth 100000 in
theorem kc14_94_l11_K2 {i : Nat → Int32} {a : Nat → List Int32} {q : Nat → List Int64} {r : Nat → Nat} (hI : kI i a q) (hr : kr r) (x1 : Int32) (x3 : Int32) (x4 : Int32) (hp0 : ((0 : Int) ≤ x1.toInt) ∧ (x1.toInt ≤ 49)) (hp1 : ((a 95).getD x1.toNatClampNeg 0).toInt = 2) (hp2 : ((0 : Int) ≤ x4.toInt) ∧ ((x4.toInt + 1) ≤ 39)) (hp3 : ((0 : Int) ≤ (i 6019).toInt) ∧ (((i 6019).toInt + 1) ≤ 900)) : km 5 14 [.ref 94, .int x1, .int 1, .int x3, .int x4] (ks i a q r) (kVI w14_94_l11_K2 i a q r (fun v i1 a1 q1 r1 => (i1 6019).toInt = ((i 6019).toInt + 1))) := by
  have hG := kG_self w14_94_l11_K2 hI hr
  refine km_ofI (q := (mi_h14, mi_c14)) rfl (by decide) (Nat.le_of_ble_eq_true rfl) ?_
  intro P hP
  have r1 : ((0 : Int) ≤ ((a 95).getD x1.toNatClampNeg 0).toInt) ∧ (((a 95).getD x1.toNatClampNeg 0).toInt ≤ 7) := hG.I.2.2.1 95 (x1.toNatClampNeg)
  have fi_6019 : ((0 : Int) ≤ (i 6019).toInt) ∧ ((i 6019).toInt ≤ 1000) := hG.I.1 6019
  refine ft_go mi_k14 3 5 [(0, .ref 94), (1, .int x1), (2, .int 1), (3, .int x3), (4, .int x4)] [.int x1, .ref 95] i a q r (by rfl) ?_
  refine ko_iald3 mi_k14.1 (n := 50) (c := 50) (ax := (0, 0, 0, 0, 0)) (mi_k14.2 _ _ (by rfl)) (by rfl) (ksG95 _ _ _ _) (hG.I.2.1 95) rfl (oz3 hp0.1) (oz1336 hp0.2) ?_
  refine ko_eq (x1 := (6, [(0, .ref 94), (1, .int x1), (2, .int 1), (3, .int x3), (4, .int x4)], [.int 2], (0, 0), ks i a q r)) (by rw [(kj_eq (oz1411 hp1) (by decide) : ((a 95).getD x1.toNatClampNeg 0) = 2)]) ?_
  refine ft_go mi_k14 9 48 [(5, .int 2), (0, .ref 94), (1, .int x1), (2, .int 1), (3, .int x3), (4, .int x4)] [.int x4, .int x3, .int 0, .int 2, .int x1, .ref 94] i a q r (by rfl) ?_
  refine ko_callI mi_k14.1 (pc := 48) (ls := [(5, .int 2), (0, .ref 94), (1, .int x1), (2, .int 1), (3, .int x3), (4, .int x4)]) (st := [.int x4, .int x3, .int 0, .int 2, .int x1, .ref 94]) (h := ks i a q r) (i := (.invokevirtual 35, 3, 13, 0, 9, 0, 297)) (mi_k14.2 _ _ (by rfl)) (ft_invS mi_pq13 (by rfl)) (cy := mi_c13) mi_pq13 rfl (kc13_94_l12_l20_K2 hG.I hG.R x1 x3 x4 (oz1339 hp0.1 hp0.2) (oz1411 hp1) (oz1353 hp2.1 hp2.2) (oz1354 fi_6019.1 hp3.2)) (by decide) ?_
  intro vg2 ig2 ag2 qg2 rg2 kg2 hg2
  have hGg2 := kG_call hG kg2 (by decide +kernel)
  have z3 : (ig2 6019).toInt = ((i 6019).toInt + 1) := hg2
  have b4 : ((-2147483648 : Int) ≤ vg2.toInt) ∧ (vg2.toInt ≤ 2147483647) := kd_bd vg2
  refine ft_go mi_k14 2 53 [(5, .int 2), (0, .ref 94), (1, .int x1), (2, .int 1), (3, .int x3), (4, .int x4)] [.int (vg2 * 2)] ig2 ag2 qg2 rg2 (by rfl) ?_
  exact ft_ret mi_k14 (by rfl) (hP (vg2 * 2) _ _ _ _ hGg2 (oz1355 z3))
def w13_94_l10_l21_K2 : kW := ([6019], [96], [], [])
set_option maxRecDepth 100000 in
theorem kc13_94_l10_l21_K2 {i : Nat → Int32} {a : Nat → List Int32} {q : Nat → List Int64} {r : Nat → Nat} (hI : kI i a q) (hr : kr r) (x1 : Int32) (x4 : Int32) (x5 : Int32) (hp0 : ((0 : Int) ≤ x1.toInt) ∧ (x1.toInt ≤ 49)) (hp1 : ((a 95).getD x1.toNatClampNeg 0).toInt = 2) (hp2 : ((0 : Int) ≤ x5.toInt) ∧ ((x5.toInt + 2) ≤ 39)) (hp3 : ((0 : Int) ≤ (i 6019).toInt) ∧ (((i 6019).toInt + 2) ≤ 900)) : km 7 13 [.ref 94, .int x1, .int 0, .int 1, .int x4, .int x5] (ks i a q r) (kVI w13_94_l10_l21_K2 i a q r (fun v i1 a1 q1 r1 => (i1 6019).toInt = ((i 6019).toInt + 2))) := by
  have hG := kG_self w13_94_l10_l21_K2 hI hr
  refine km_ofI (q := (mi_h13, mi_c13)) rfl (by decide) (Nat.le_of_ble_eq_true rfl) ?_
  intro P hP
  have r1 : ((0 : Int) ≤ ((a 95).getD x1.toNatClampNeg 0).toInt) ∧ (((a 95).getD x1.toNatClampNeg 0).toInt ≤ 7) := hG.I.2.2.1 95 (x1.toNatClampNeg)
  have fi_6019 : ((0 : Int) ≤ (i 6019).toInt) ∧ ((i 6019).toInt ≤ 1000) := hG.I.1 6019
  refine ft_go mi_k13 2 4 [(0, .ref 94), (1, .int x1), (2, .int 0), (3, .int 1), (4, .int x4), (5, .int x5)] [.int 40, .int x5] i a q r (by rfl) ?_
  refine ft_if mi_k13 (decide (x5 < 40)) 9 7 [(0, .ref 94), (1, .int x1), (2, .int 0), (3, .int 1), (4, .int x4), (5, .int x5)] [] (by rfl) (fun c => ?_) (fun c => ?_)
  ·
    have c2 : x5.toInt < (40 : Int32).toInt := kd_lt c; clear c
    refine ft_go mi_k13 2 11 [(0, .ref 94), (1, .int x1), (2, .int 0), (3, .int 1), (4, .int x4), (5, .int x5)] [.int 1, .int 0] i a q r (by rfl) ?_
    refine ko_callPI mi_k13.1 (pc := 11) (ls := [(0, .ref 94), (1, .int x1), (2, .int 0), (3, .int 1), (4, .int x4), (5, .int x5)]) (st := [.int 1, .int 0]) (h := ks i a q r) (i := (.invokestatic 39, 3, 11, 0, 9, 0, 298)) (mi_k13.2 _ _ (by rfl)) (ft_invS mi_pq11 (by rfl)) (cy := mi_c11) mi_pq11 rfl (kc11_l00_l11 hG.I hG.R ) (by decide) ?_
    intro vg3 hg3
    have z4 : vg3.toInt = 0 := hg3
    have evvg3 := kj_eq (oz236 z4) (by decide : (0 : Int32).toInt = 0)
    subst evvg3
    refine ft_go mi_k13 5 23 [(6, .int 0), (0, .ref 94), (1, .int x1), (2, .int 0), (3, .int 1), (4, .int x4), (5, .int x5)] [.int (0 * 4), .ref (mi_RO + 3)] i a q r (by rfl) ?_
    refine ko_eq (x1 := (23, [(6, .int 0), (0, .ref 94), (1, .int x1), (2, .int 0), (3, .int 1), (4, .int x4), (5, .int x5)], [.int 0, .ref (mi_RO + 3)], (0, 0), ks i a q r)) (by rw [(by decide : (0 * 4 : Int32) = 0)]) ?_
    refine ft_go mi_k13 2 25 [(6, .int 0), (0, .ref 94), (1, .int x1), (2, .int 0), (3, .int 1), (4, .int x4), (5, .int x5)] [.int (0 + 1), .ref (mi_RO + 3)] i a q r (by rfl) ?_
    refine ko_eq (x1 := (25, [(6, .int 0), (0, .ref 94), (1, .int x1), (2, .int 0), (3, .int 1), (4, .int x4), (5, .int x5)], [.int 1, .ref (mi_RO + 3)], (0, 0), ks i a q r)) (by rw [(by decide : (0 + 1 : Int32) = 1)]) ?_
    refine ko_iaro2 mi_k13.1 (l := [1, 10, 11, 2, 20, 0, 0, 0, 0, 30, 0, 0, 0, 41, 40, 0, 0, 0, 50, 0, 0, 0, 0, 60, 70, 0, 0, 0, 0, 80, 0, 81]) (n := 32) (c := 32) (ax := (0, 0, 0, 0, 0)) (mi_k13.2 _ _ (by rfl)) (by rfl) (by rfl) rfl rfl (oz246 kn1) (oz1229 kn1) ?_
    have r5 : ((0 : Int) ≤ (([1, 10, 11, 2, 20, 0, 0, 0, 0, 30, 0, 0, 0, 41, 40, 0, 0, 0, 50, 0, 0, 0, 0, 60, 70, 0, 0, 0, 0, 80, 0, 81] : List Int32).getD (1 : Int32).toNatClampNeg 0).toInt) ∧ ((([1, 10, 11, 2, 20, 0, 0, 0, 0, 30, 0, 0, 0, 41, 40, 0, 0, 0, 50, 0, 0, 0, 0, 60, 70, 0, 0, 0, 0, 80, 0, 81] : List Int32).getD (1 : Int32).toNatClampNeg 0).toInt ≤ 81) := kro_rng (lo := 0) (hi := 81) (by decide) ((1 : Int32).toNatClampNeg)
    refine ko_eq (x1 := (26, [(6, .int 0), (0, .ref 94), (1, .int x1), (2, .int 0), (3, .int 1), (4, .int x4), (5, .int x5)], [.int 10], (0, 0), ks i a q r)) (by rw [(by decide : (([1, 10, 11, 2, 20, 0, 0, 0, 0, 30, 0, 0, 0, 41, 40, 0, 0, 0, 50, 0, 0, 0, 0, 60, 70, 0, 0, 0, 0, 80, 0, 81] : List Int32).getD (1 : Int32).toNatClampNeg 0) = 10)]) ?_
    refine ft_go mi_k13 4 34 [(7, .int 10), (6, .int 0), (0, .ref 94), (1, .int x1), (2, .int 0), (3, .int 1), (4, .int x4), (5, .int x5)] [.int 24, .int (i 6019)] i a q r (by rfl) ?_
    refine ft_if mi_k13 (decide (24 ≤ (i 6019))) 48 37 [(7, .int 10), (6, .int 0), (0, .ref 94), (1, .int x1), (2, .int 0), (3, .int 1), (4, .int x4), (5, .int x5)] [] (by rfl) (fun c => ?_) (fun c => ?_)
    ·
      have c6 : (24 : Int32).toInt ≤ (i 6019).toInt := kd_le c; clear c
      have s7 : ((i 6019) + 1).toInt = (i 6019).toInt + (1 : Int32).toInt := kd_add (oz1332 c6 kn24 kn1) (oz951 fi_6019.2 kn1)
      have hJ8 := kG_i hG 6019 rfl (v := ((i 6019) + 1)) ⟨(oz1333 c6 s7 kn24 kn1), (oz1351 hp3.2 s7 kn1)⟩
      have s9 : (x5 + 1).toInt = x5.toInt + (1 : Int32).toInt := kd_add (oz12 hp2.1 kn1) (oz1352 hp2.2 kn1)
      refine ft_go mi_k13 15 72 [(7, .int 10), (6, .int 0), (0, .ref 94), (1, .int x1), (2, .int 0), (3, .int 1), (4, .int x4), (5, .int x5)] [.int (x5 + 1), .int x4, .int 1, .int x1, .ref 94] (ku i 6019 ((i 6019) + 1)) a q r (by rfl) ?_
      refine ko_callI mi_k13.1 (pc := 72) (ls := [(7, .int 10), (6, .int 0), (0, .ref 94), (1, .int x1), (2, .int 0), (3, .int 1), (4, .int x4), (5, .int x5)]) (st := [.int (x5 + 1), .int x4, .int 1, .int x1, .ref 94]) (h := ks (ku i 6019 ((i 6019) + 1)) a q r) (i := (.invokevirtual 43, 3, 14, 0, 9, 0, 301)) (mi_k13.2 _ _ (by rfl)) (ft_invS mi_pq14 (by rfl)) (cy := mi_c14) mi_pq14 rfl (kc14_94_l11_K2 hJ8.I hJ8.R x1 x4 (x5 + 1) (oz1339 hp0.1 hp0.2) (oz1411 hp1) (oz1356 hp2.1 hp2.2 s9 kn1) (oz1357 c6 hp3.2 s7 kn24 kn1)) (by decide) ?_
      intro vg10 ig10 ag10 qg10 rg10 kg10 hg10
      have hGg10 := kG_call hJ8 kg10 (by decide +kernel)
      have z11 : (ig10 6019).toInt = (((i 6019) + 1).toInt + 1) := hg10
      exact ft_ret mi_k13 (by rfl) (hP vg10 _ _ _ _ hGg10 (oz1358 s7 z11 kn1))
    ·
      have c12 : (i 6019).toInt < (24 : Int32).toInt := kd_leF c; clear c
      refine ft_go mi_k13 5 47 [(7, .int 10), (6, .int 0), (0, .ref 94), (1, .int x1), (2, .int 0), (3, .int 1), (4, .int x4), (5, .int x5)] [.int 10, .int (i 6019), .ref 96] i a q r (by rfl) ?_
      refine ko_iast3 mi_k13.1 (n := 24) (c := 24) (ax := (0, 0, 0, 0, 0)) (mi_k13.2 _ _ (by rfl)) (by rfl) (ksG96 _ _ _ _) (ksA96 _ _ _ _) (hG.I.2.1 96) rfl (oz3 fi_6019.1) (oz1343 c12 kn24) ?_
      intro a13 ea13 fa13
      have hJ13 := kG_a3 hG 96 rfl ea13 fa13 (kd_bd _)
      have s14 : ((i 6019) + 1).toInt = (i 6019).toInt + (1 : Int32).toInt := kd_add (oz12 fi_6019.1 kn1) (oz951 fi_6019.2 kn1)
      have hJ15 := kG_i hJ13 6019 rfl (v := ((i 6019) + 1)) ⟨(oz14 fi_6019.1 s14 kn1), (oz1351 hp3.2 s14 kn1)⟩
      have s16 : (x5 + 1).toInt = x5.toInt + (1 : Int32).toInt := kd_add (oz12 hp2.1 kn1) (oz1352 hp2.2 kn1)
      refine ft_go mi_k13 15 72 [(7, .int 10), (6, .int 0), (0, .ref 94), (1, .int x1), (2, .int 0), (3, .int 1), (4, .int x4), (5, .int x5)] [.int (x5 + 1), .int x4, .int 1, .int x1, .ref 94] (ku i 6019 ((i 6019) + 1)) a13 q r (by rfl) ?_
      have r17 : ((0 : Int) ≤ ((a13 95).getD x1.toNatClampNeg 0).toInt) ∧ (((a13 95).getD x1.toNatClampNeg 0).toInt ≤ 7) := hJ15.I.2.2.1 95 (x1.toNatClampNeg)
      have u18 : ((a13 95).getD x1.toNatClampNeg 0).toInt = ((a 95).getD x1.toNatClampNeg 0).toInt := congrArg (fun z : List Int32 => (z.getD x1.toNatClampNeg 0).toInt) (fa13 95 (by decide))
      refine ko_callI mi_k13.1 (pc := 72) (ls := [(7, .int 10), (6, .int 0), (0, .ref 94), (1, .int x1), (2, .int 0), (3, .int 1), (4, .int x4), (5, .int x5)]) (st := [.int (x5 + 1), .int x4, .int 1, .int x1, .ref 94]) (h := ks (ku i 6019 ((i 6019) + 1)) a13 q r) (i := (.invokevirtual 43, 3, 14, 0, 9, 0, 301)) (mi_k13.2 _ _ (by rfl)) (ft_invS mi_pq14 (by rfl)) (cy := mi_c14) mi_pq14 rfl (kc14_94_l11_K2 hJ15.I hJ15.R x1 x4 (x5 + 1) (oz1339 hp0.1 hp0.2) (oz1412 hp1 u18) (oz1356 hp2.1 hp2.2 s16 kn1) (oz1359 fi_6019.1 hp3.2 s14 kn1)) (by decide) ?_
      intro vg19 ig19 ag19 qg19 rg19 kg19 hg19
      have hGg19 := kG_call hJ15 kg19 (by decide +kernel)
      have z20 : (ig19 6019).toInt = (((i 6019) + 1).toInt + 1) := hg19
      exact ft_ret mi_k13 (by rfl) (hP vg19 _ _ _ _ hGg19 (oz1358 s14 z20 kn1))
  ·
    have c21 : (40 : Int32).toInt ≤ x5.toInt := kd_ltF c; clear c
    exact (oz1360 c21 hp2.2 kn40).elim
def w13_94_l12_l21_K2 : kW := ([6019], [96], [], [])
set_option maxRecDepth 100000 in
theorem kc13_94_l12_l21_K2 {i : Nat → Int32} {a : Nat → List Int32} {q : Nat → List Int64} {r : Nat → Nat} (hI : kI i a q) (hr : kr r) (x1 : Int32) (x4 : Int32) (x5 : Int32) (hp0 : ((0 : Int) ≤ x1.toInt) ∧ (x1.toInt ≤ 49)) (hp1 : ((a 95).getD x1.toNatClampNeg 0).toInt = 2) (hp2 : ((0 : Int) ≤ x5.toInt) ∧ ((x5.toInt + 3) ≤ 39)) (hp3 : ((0 : Int) ≤ (i 6019).toInt) ∧ (((i 6019).toInt + 3) ≤ 900)) : km 9 13 [.ref 94, .int x1, .int 2, .int 1, .int x4, .int x5] (ks i a q r) (kVI w13_94_l12_l21_K2 i a q r (fun v i1 a1 q1 r1 => (i1 6019).toInt = ((i 6019).toInt + 3))) := by
  have hG := kG_self w13_94_l12_l21_K2 hI hr
  refine km_ofI (q := (mi_h13, mi_c13)) rfl (by decide) (Nat.le_of_ble_eq_true rfl) ?_
  intro P hP
  have r1 : ((0 : Int) ≤ ((a 95).getD x1.toNatClampNeg 0).toInt) ∧ (((a 95).getD x1.toNatClampNeg 0).toInt ≤ 7) := hG.I.2.2.1 95 (x1.toNatClampNeg)
  have fi_6019 : ((0 : Int) ≤ (i 6019).toInt) ∧ ((i 6019).toInt ≤ 1000) := hG.I.1 6019
  refine ft_go mi_k13 2 4 [(0, .ref 94), (1, .int x1), (2, .int 2), (3, .int 1), (4, .int x4), (5, .int x5)] [.int 40, .int x5] i a q r (by rfl) ?_
  refine ft_if mi_k13 (decide (x5 < 40)) 9 7 [(0, .ref 94), (1, .int x1), (2, .int 2), (3, .int 1), (4, .int x4), (5, .int x5)] [] (by rfl) (fun c => ?_) (fun c => ?_)
  ·
    have c2 : x5.toInt < (40 : Int32).toInt := kd_lt c; clear c
    refine ft_go mi_k13 2 11 [(0, .ref 94), (1, .int x1), (2, .int 2), (3, .int 1), (4, .int x4), (5, .int x5)] [.int 1, .int 2] i a q r (by rfl) ?_
    refine ko_callPI mi_k13.1 (pc := 11) (ls := [(0, .ref 94), (1, .int x1), (2, .int 2), (3, .int 1), (4, .int x4), (5, .int x5)]) (st := [.int 1, .int 2]) (h := ks i a q r) (i := (.invokestatic 39, 3, 11, 0, 9, 0, 298)) (mi_k13.2 _ _ (by rfl)) (ft_invS mi_pq11 (by rfl)) (cy := mi_c11) mi_pq11 rfl (kc11_l02_l11 hG.I hG.R ) (by decide) ?_
    intro vg3 hg3
    have z4 : vg3.toInt = 2 := hg3
    have evvg3 := kj_eq (oz1411 z4) (by decide : (2 : Int32).toInt = 2)
    subst evvg3
    refine ft_go mi_k13 5 23 [(6, .int 2), (0, .ref 94), (1, .int x1), (2, .int 2), (3, .int 1), (4, .int x4), (5, .int x5)] [.int (2 * 4), .ref (mi_RO + 3)] i a q r (by rfl) ?_
    refine ko_eq (x1 := (23, [(6, .int 2), (0, .ref 94), (1, .int x1), (2, .int 2), (3, .int 1), (4, .int x4), (5, .int x5)], [.int 8, .ref (mi_RO + 3)], (0, 0), ks i a q r)) (by rw [(by decide : (2 * 4 : Int32) = 8)]) ?_
    refine ft_go mi_k13 2 25 [(6, .int 2), (0, .ref 94), (1, .int x1), (2, .int 2), (3, .int 1), (4, .int x4), (5, .int x5)] [.int (8 + 1), .ref (mi_RO + 3)] i a q r (by rfl) ?_
    refine ko_eq (x1 := (25, [(6, .int 2), (0, .ref 94), (1, .int x1), (2, .int 2), (3, .int 1), (4, .int x4), (5, .int x5)], [.int 9, .ref (mi_RO + 3)], (0, 0), ks i a q r)) (by rw [(by decide : (8 + 1 : Int32) = 9)]) ?_
    refine ko_iaro2 mi_k13.1 (l := [1, 10, 11, 2, 20, 0, 0, 0, 0, 30, 0, 0, 0, 41, 40, 0, 0, 0, 50, 0, 0, 0, 0, 60, 70, 0, 0, 0, 0, 80, 0, 81]) (n := 32) (c := 32) (ax := (0, 0, 0, 0, 0)) (mi_k13.2 _ _ (by rfl)) (by rfl) (by rfl) rfl rfl (oz258 kn9) (oz1413 kn9) ?_
    have r5 : ((0 : Int) ≤ (([1, 10, 11, 2, 20, 0, 0, 0, 0, 30, 0, 0, 0, 41, 40, 0, 0, 0, 50, 0, 0, 0, 0, 60, 70, 0, 0, 0, 0, 80, 0, 81] : List Int32).getD (9 : Int32).toNatClampNeg 0).toInt) ∧ ((([1, 10, 11, 2, 20, 0, 0, 0, 0, 30, 0, 0, 0, 41, 40, 0, 0, 0, 50, 0, 0, 0, 0, 60, 70, 0, 0, 0, 0, 80, 0, 81] : List Int32).getD (9 : Int32).toNatClampNeg 0).toInt ≤ 81) := kro_rng (lo := 0) (hi := 81) (by decide) ((9 : Int32).toNatClampNeg)
    refine ko_eq (x1 := (26, [(6, .int 2), (0, .ref 94), (1, .int x1), (2, .int 2), (3, .int 1), (4, .int x4), (5, .int x5)], [.int 30], (0, 0), ks i a q r)) (by rw [(by decide : (([1, 10, 11, 2, 20, 0, 0, 0, 0, 30, 0, 0, 0, 41, 40, 0, 0, 0, 50, 0, 0, 0, 0, 60, 70, 0, 0, 0, 0, 80, 0, 81] : List Int32).getD (9 : Int32).toNatClampNeg 0) = 30)]) ?_
    refine ft_go mi_k13 4 34 [(7, .int 30), (6, .int 2), (0, .ref 94), (1, .int x1), (2, .int 2), (3, .int 1), (4, .int x4), (5, .int x5)] [.int 24, .int (i 6019)] i a q r (by rfl) ?_
    refine ft_if mi_k13 (decide (24 ≤ (i 6019))) 48 37 [(7, .int 30), (6, .int 2), (0, .ref 94), (1, .int x1), (2, .int 2), (3, .int 1), (4, .int x4), (5, .int x5)] [] (by rfl) (fun c => ?_) (fun c => ?_)
    ·
      have c6 : (24 : Int32).toInt ≤ (i 6019).toInt := kd_le c; clear c
      have s7 : ((i 6019) + 1).toInt = (i 6019).toInt + (1 : Int32).toInt := kd_add (oz1332 c6 kn24 kn1) (oz951 fi_6019.2 kn1)
      have hJ8 := kG_i hG 6019 rfl (v := ((i 6019) + 1)) ⟨(oz1333 c6 s7 kn24 kn1), (oz1385 hp3.2 s7 kn1)⟩
      refine ft_go mi_k13 12 83 [(7, .int 30), (6, .int 2), (0, .ref 94), (1, .int x1), (2, .int 2), (3, .int 1), (4, .int x4), (5, .int x5)] [.int 2, .ref (mi_RO + 4), .int x1, .ref 94] (ku i 6019 ((i 6019) + 1)) a q r (by rfl) ?_
      refine ko_iaro2 mi_k13.1 (l := [(-1), 0, 0, 2, 1, 3, 0, 4]) (n := 8) (c := 8) (ax := (0, 0, 0, 0, 0)) (mi_k13.2 _ _ (by rfl)) (by rfl) (by rfl) rfl rfl (oz256 kn2) (oz1410 kn2) ?_
      have r9 : ((-1 : Int) ≤ (([(-1), 0, 0, 2, 1, 3, 0, 4] : List Int32).getD (2 : Int32).toNatClampNeg 0).toInt) ∧ ((([(-1), 0, 0, 2, 1, 3, 0, 4] : List Int32).getD (2 : Int32).toNatClampNeg 0).toInt ≤ 4) := kro_rng (lo := -1) (hi := 4) (by decide) ((2 : Int32).toNatClampNeg)
      refine ko_eq (x1 := (84, [(7, .int 30), (6, .int 2), (0, .ref 94), (1, .int x1), (2, .int 2), (3, .int 1), (4, .int x4), (5, .int x5)], [.int 0, .int x1, .ref 94], (0, 0), ks (ku i 6019 ((i 6019) + 1)) a q r)) (by rw [(by decide : (([(-1), 0, 0, 2, 1, 3, 0, 4] : List Int32).getD (2 : Int32).toNatClampNeg 0) = 0)]) ?_
      have s10 : (x5 + 1).toInt = x5.toInt + (1 : Int32).toInt := kd_add (oz12 hp2.1 kn1) (oz1366 hp2.2 kn1)
      refine ft_go mi_k13 8 105 [(7, .int 30), (6, .int 2), (0, .ref 94), (1, .int x1), (2, .int 2), (3, .int 1), (4, .int x4), (5, .int x5)] [.int (x5 + 1), .int x4, .int 1, .int 0, .int x1, .ref 94] (ku i 6019 ((i 6019) + 1)) a q r (by rfl) ?_
      refine ko_callI mi_k13.1 (pc := 105) (ls := [(7, .int 30), (6, .int 2), (0, .ref 94), (1, .int x1), (2, .int 2), (3, .int 1), (4, .int x4), (5, .int x5)]) (st := [.int (x5 + 1), .int x4, .int 1, .int 0, .int x1, .ref 94]) (h := ks (ku i 6019 ((i 6019) + 1)) a q r) (i := (.invokevirtual 35, 3, 13, 0, 9, 0, 297)) (mi_k13.2 _ _ (by rfl)) (ft_invS mi_pq13 (by rfl)) (cy := mi_c13) mi_pq13 rfl (kc13_94_l10_l21_K2 hJ8.I hJ8.R x1 x4 (x5 + 1) (oz1339 hp0.1 hp0.2) (oz1411 hp1) (oz1372 hp2.1 hp2.2 s10 kn1) (oz1388 c6 hp3.2 s7 kn24 kn1)) (by decide) ?_
      intro vg11 ig11 ag11 qg11 rg11 kg11 hg11
      have hGg11 := kG_call hJ8 kg11 (by decide +kernel)
      have z12 : (ig11 6019).toInt = (((i 6019) + 1).toInt + 2) := hg11
      refine ft_go mi_k13 5 196 [(8, .int vg11), (7, .int 30), (6, .int 2), (0, .ref 94), (1, .int x1), (2, .int 2), (3, .int 1), (4, .int x4), (5, .int x5)] [.int (-vg11)] ig11 ag11 qg11 rg11 (by rfl) ?_
      exact ft_ret mi_k13 (by rfl) (hP (-vg11) _ _ _ _ hGg11 (oz1389 s7 z12 kn1))
    ·
      have c13 : (i 6019).toInt < (24 : Int32).toInt := kd_leF c; clear c
      refine ft_go mi_k13 5 47 [(7, .int 30), (6, .int 2), (0, .ref 94), (1, .int x1), (2, .int 2), (3, .int 1), (4, .int x4), (5, .int x5)] [.int 30, .int (i 6019), .ref 96] i a q r (by rfl) ?_
      refine ko_iast3 mi_k13.1 (n := 24) (c := 24) (ax := (0, 0, 0, 0, 0)) (mi_k13.2 _ _ (by rfl)) (by rfl) (ksG96 _ _ _ _) (ksA96 _ _ _ _) (hG.I.2.1 96) rfl (oz3 fi_6019.1) (oz1343 c13 kn24) ?_
      intro a14 ea14 fa14
      have hJ14 := kG_a3 hG 96 rfl ea14 fa14 (kd_bd _)
      have s15 : ((i 6019) + 1).toInt = (i 6019).toInt + (1 : Int32).toInt := kd_add (oz12 fi_6019.1 kn1) (oz951 fi_6019.2 kn1)
      have hJ16 := kG_i hJ14 6019 rfl (v := ((i 6019) + 1)) ⟨(oz14 fi_6019.1 s15 kn1), (oz1385 hp3.2 s15 kn1)⟩
      refine ft_go mi_k13 12 83 [(7, .int 30), (6, .int 2), (0, .ref 94), (1, .int x1), (2, .int 2), (3, .int 1), (4, .int x4), (5, .int x5)] [.int 2, .ref (mi_RO + 4), .int x1, .ref 94] (ku i 6019 ((i 6019) + 1)) a14 q r (by rfl) ?_
      refine ko_iaro2 mi_k13.1 (l := [(-1), 0, 0, 2, 1, 3, 0, 4]) (n := 8) (c := 8) (ax := (0, 0, 0, 0, 0)) (mi_k13.2 _ _ (by rfl)) (by rfl) (by rfl) rfl rfl (oz256 kn2) (oz1410 kn2) ?_
      have r17 : ((-1 : Int) ≤ (([(-1), 0, 0, 2, 1, 3, 0, 4] : List Int32).getD (2 : Int32).toNatClampNeg 0).toInt) ∧ ((([(-1), 0, 0, 2, 1, 3, 0, 4] : List Int32).getD (2 : Int32).toNatClampNeg 0).toInt ≤ 4) := kro_rng (lo := -1) (hi := 4) (by decide) ((2 : Int32).toNatClampNeg)
      refine ko_eq (x1 := (84, [(7, .int 30), (6, .int 2), (0, .ref 94), (1, .int x1), (2, .int 2), (3, .int 1), (4, .int x4), (5, .int x5)], [.int 0, .int x1, .ref 94], (0, 0), ks (ku i 6019 ((i 6019) + 1)) a14 q r)) (by rw [(by decide : (([(-1), 0, 0, 2, 1, 3, 0, 4] : List Int32).getD (2 : Int32).toNatClampNeg 0) = 0)]) ?_
      have s18 : (x5 + 1).toInt = x5.toInt + (1 : Int32).toInt := kd_add (oz12 hp2.1 kn1) (oz1366 hp2.2 kn1)
      refine ft_go mi_k13 8 105 [(7, .int 30), (6, .int 2), (0, .ref 94), (1, .int x1), (2, .int 2), (3, .int 1), (4, .int x4), (5, .int x5)] [.int (x5 + 1), .int x4, .int 1, .int 0, .int x1, .ref 94] (ku i 6019 ((i 6019) + 1)) a14 q r (by rfl) ?_
      have r19 : ((0 : Int) ≤ ((a14 95).getD x1.toNatClampNeg 0).toInt) ∧ (((a14 95).getD x1.toNatClampNeg 0).toInt ≤ 7) := hJ16.I.2.2.1 95 (x1.toNatClampNeg)
      have u20 : ((a14 95).getD x1.toNatClampNeg 0).toInt = ((a 95).getD x1.toNatClampNeg 0).toInt := congrArg (fun z : List Int32 => (z.getD x1.toNatClampNeg 0).toInt) (fa14 95 (by decide))
      refine ko_callI mi_k13.1 (pc := 105) (ls := [(7, .int 30), (6, .int 2), (0, .ref 94), (1, .int x1), (2, .int 2), (3, .int 1), (4, .int x4), (5, .int x5)]) (st := [.int (x5 + 1), .int x4, .int 1, .int 0, .int x1, .ref 94]) (h := ks (ku i 6019 ((i 6019) + 1)) a14 q r) (i := (.invokevirtual 35, 3, 13, 0, 9, 0, 297)) (mi_k13.2 _ _ (by rfl)) (ft_invS mi_pq13 (by rfl)) (cy := mi_c13) mi_pq13 rfl (kc13_94_l10_l21_K2 hJ16.I hJ16.R x1 x4 (x5 + 1) (oz1339 hp0.1 hp0.2) (oz1412 hp1 u20) (oz1372 hp2.1 hp2.2 s18 kn1) (oz1390 fi_6019.1 hp3.2 s15 kn1)) (by decide) ?_
      intro vg21 ig21 ag21 qg21 rg21 kg21 hg21
      have hGg21 := kG_call hJ16 kg21 (by decide +kernel)
      have z22 : (ig21 6019).toInt = (((i 6019) + 1).toInt + 2) := hg21
      refine ft_go mi_k13 5 196 [(8, .int vg21), (7, .int 30), (6, .int 2), (0, .ref 94), (1, .int x1), (2, .int 2), (3, .int 1), (4, .int x4), (5, .int x5)] [.int (-vg21)] ig21 ag21 qg21 rg21 (by rfl) ?_
      exact ft_ret mi_k13 (by rfl) (hP (-vg21) _ _ _ _ hGg21 (oz1389 s15 z22 kn1))
  ·
    have c23 : (40 : Int32).toInt ≤ x5.toInt := kd_ltF c; clear c
    exact (oz1376 c23 hp2.2 kn40).elim

