section
theorem oz1283 {a0 a1 : Int} (h0 : a0 ≤ 50) (h1 : a1 < a0) : a1 < 50 := by omega
theorem oz1284 {a0 a1 : Int} (h0 : a0 ≤ 120) (h1 : (2 * a1) ≤ a0) : a1 < 61 := by omega
theorem oz1285 {a0 a1 a2 : Int} (h0 : a0 = a1) (h1 : a2 ≤ 120) (h2 : (2 * a1) ≤ a2) : a0 < 61 := by omega
theorem oz1286 {a0 : Int} (h0 : a0 = 63) : (0 : Int) ≤ a0 := by omega
theorem oz1287 {a0 a1 a2 a3 : Int} (h0 : a0 = a1) (h1 : a2 = a0) (h2 : a3 ≤ 120) (h3 : (2 * a1) ≤ a3) : a2 < 61 := by omega
theorem oz1288 {a0 a1 : Int} (h0 : a0 ≤ 61) (h1 : a1 = 1) : a0 + a1 ≤ 2147483647 := by omega
theorem oz1293 {a0 : Int} (h0 : a0 ≤ 200) : a0 ≤ 200 := by omega
theorem oz1294 {a0 a1 a2 a3 a4 a5 : Int} (h0 : a0 = a1) (h1 : a2 = a0) (h2 : a3 ≤ 120) (h3 : (2 * a1) ≤ a3) (h4 : a4 = a2 + a5) (h5 : a5 = 1) : a4 ≤ 61 := by omega
theorem oz1297 {a0 : Int} (h0 : a0 = 0) : a0 ≤ 120 := by omega
theorem oz1298 {a0 : Int} (h0 : a0 = 0) : a0 ≤ 200 := by omega
theorem oz1299 {a0 : Int} (h0 : a0 = 0) : a0 ≤ 61 := by omega
theorem oz1300 {a0 a1 : Int} (h0 : (0 : Int) ≤ a0) (h1 : a1 = 0) : (a1 = 0) ∧ (a1 ≤ a1) ∧ (a1 ≤ a0) := by omega
theorem oz1301 {a0 : Int} (h0 : a0 = 0) : (2 * a0) ≤ a0 := by omega
theorem oz1302 {a0 a1 : Int} (h0 : a0 ≤ 120) (h1 : a1 = (-100)) : (-2147483648 : Int) ≤ a1 - a0 := by omega
theorem oz1304 {a0 : Int} (h0 : a0 = 59) : (0 : Int) ≤ a0 := by omega
theorem oz1318 {a0 a1 a2 : Int} (h0 : a0 ≤ a1) (h1 : a0 = a2) : a2 ≤ a1 := by omega
theorem oz1319 {a0 a1 a2 a3 : Int} (h0 : a0 ≤ a1) (h1 : a2 = a3) (h2 : a0 = a2) : a3 ≤ a1 := by omega
theorem oz1320 {a0 a1 a2 a3 : Int} (h0 : a0 < a1) (h1 : (0 : Int) ≤ a0) (h2 : a2 = a0 + a3) (h3 : a3 = 1) : ((0 : Int) ≤ a2) ∧ (a2 ≤ a1) := by omega
theorem oz1321 {a0 a1 : Int} (h0 : (0 : Int) ≤ a0) (h1 : a1 = 0) : ((0 : Int) ≤ a1) ∧ (a1 ≤ a0) := by omega
theorem oz1322 {a0 a1 : Int} (h0 : a0 < a1) (h1 : a1 ≤ 60) : a0 < 61 := by omega
theorem oz1324 {a0 a1 : Int} (h0 : (0 : Int) ≤ a0) (h1 : a1 = (-100)) : a1 - a0 ≤ 2147483647 := by omega
theorem oz1327 {a0 a1 a2 a3 a4 a5 a6 a7 : Int} (h0 : a0 ≠ a1) (h1 : a2 = a3) (h2 : a4 ≤ 120) (h3 : (0 : Int) ≤ a0) (h4 : a0 ≤ 1) (h5 : ((a0 = 1) → ((a5 = 0) ∧ (a6 ≤ a4) ∧ (a4 ≤ a7) ∧ ((2 * a3) ≤ (a4 + 1))))) (h6 : a1 = 0) : a2 ≤ 60 := by omega
theorem oz1328 {a0 : Int} (h0 : a0 = 0) : a0 ≤ 1 := by omega
theorem oz1329 {a0 : Int} (h0 : (0 : Int) ≤ a0) : (a0 = (-1)) ∨ ((0 : Int) ≤ a0) := by omega
theorem oz1330 {a0 : Int} (h0 : a0 = (-1)) : (a0 = (-1)) ∨ ((0 : Int) ≤ a0) := by omega
theorem oz1331 {a0 : Int} (h0 : a0 = 0) : a0 ≤ 1000 := by omega
theorem oz1332 {a0 a1 a2 : Int} (h0 : a0 ≤ a1) (h1 : a0 = 24) (h2 : a2 = 1) : (-2147483648 : Int) ≤ a1 + a2 := by omega
theorem oz1333 {a0 a1 a2 a3 : Int} (h0 : a0 ≤ a1) (h1 : a2 = a1 + a3) (h2 : a0 = 24) (h3 : a3 = 1) : (0 : Int) ≤ a2 := by omega
theorem oz1334 {a0 a1 a2 : Int} (h0 : (a0 + 1) ≤ 900) (h1 : a1 = a0 + a2) (h2 : a2 = 1) : a1 ≤ 1000 := by omega
theorem oz1335 {a0 a1 : Int} (h0 : (a0 + 1) ≤ 39) (h1 : a1 = 1) : a0 + a1 ≤ 2147483647 := by omega
theorem oz1336 {a0 : Int} (h0 : a0 ≤ 49) : a0 < 50 := by omega
theorem oz1337 {a0 : Int} (h0 : a0 = 0) (h1 : (0 : Int) ≤ a0) : a0 = 0 := by omega
theorem oz1338 {a0 : Int}  : a0 = (a0 + 0) := by omega
theorem oz1339 {a0 : Int} (h0 : (0 : Int) ≤ a0) (h1 : a0 ≤ 49) : ((0 : Int) ≤ a0) ∧ (a0 ≤ 49) := by omega
theorem oz1340 {a0 a1 a2 : Int} (h0 : (0 : Int) ≤ a0) (h1 : (a0 + 1) ≤ 39) (h2 : a1 = a0 + a2) (h3 : a2 = 1) : ((0 : Int) ≤ a1) ∧ ((a1 + 0) ≤ 39) := by omega
theorem oz1341 {a0 a1 a2 a3 : Int} (h0 : a0 ≤ a1) (h1 : (a1 + 1) ≤ 900) (h2 : a2 = a1 + a3) (h3 : a0 = 24) (h4 : a3 = 1) : ((0 : Int) ≤ a2) ∧ ((a2 + 0) ≤ 900) := by omega
theorem oz1342 {a0 a1 a2 a3 : Int} (h0 : a0 = a1) (h1 : a1 = a2 + a3) (h2 : a3 = 1) : a0 = (a2 + 1) := by omega
theorem oz1343 {a0 a1 : Int} (h0 : a0 < a1) (h1 : a1 = 24) : a0 < 24 := by omega
theorem oz1344 {a0 a1 : Int} (h0 : a0 = 0) (h1 : (0 : Int) ≤ a1) (h2 : a1 = a0) : a1 = 0 := by omega
theorem oz1345 {a0 a1 a2 : Int} (h0 : (0 : Int) ≤ a0) (h1 : (a0 + 1) ≤ 900) (h2 : a1 = a0 + a2) (h3 : a2 = 1) : ((0 : Int) ≤ a1) ∧ ((a1 + 0) ≤ 900) := by omega
theorem oz1346 {a0 a1 : Int} (h0 : a0 ≤ a1) (h1 : (a1 + 1) ≤ 39) (h2 : a0 = 40) : False := by omega
theorem oz1347 {a0 a1 : Int} (h0 : a0 ≤ 50) (h1 : (0 : Int) ≤ a1) (h2 : a1 < a0) : ((0 : Int) ≤ a1) ∧ (a1 ≤ 49) := by omega
theorem oz1348 {a0 : Int} (h0 : (0 : Int) ≤ a0) (h1 : a0 = 0) : a0 = 0 := by omega
theorem oz1349 {a0 : Int} (h0 : a0 = 0) : ((0 : Int) ≤ a0) ∧ ((a0 + 1) ≤ 39) := by omega
theorem oz1350 {a0 : Int} (h0 : a0 = 0) : ((0 : Int) ≤ a0) ∧ ((a0 + 1) ≤ 900) := by omega
theorem oz1351 {a0 a1 a2 : Int} (h0 : (a0 + 2) ≤ 900) (h1 : a1 = a0 + a2) (h2 : a2 = 1) : a1 ≤ 1000 := by omega
theorem oz1352 {a0 a1 : Int} (h0 : (a0 + 2) ≤ 39) (h1 : a1 = 1) : a0 + a1 ≤ 2147483647 := by omega
theorem oz1353 {a0 : Int} (h0 : (0 : Int) ≤ a0) (h1 : (a0 + 1) ≤ 39) : ((0 : Int) ≤ a0) ∧ ((a0 + 1) ≤ 39) := by omega
theorem oz1354 {a0 : Int} (h0 : (0 : Int) ≤ a0) (h1 : (a0 + 1) ≤ 900) : ((0 : Int) ≤ a0) ∧ ((a0 + 1) ≤ 900) := by omega
theorem oz1355 {a0 a1 : Int} (h0 : a0 = (a1 + 1)) : a0 = (a1 + 1) := by omega
theorem oz1356 {a0 a1 a2 : Int} (h0 : (0 : Int) ≤ a0) (h1 : (a0 + 2) ≤ 39) (h2 : a1 = a0 + a2) (h3 : a2 = 1) : ((0 : Int) ≤ a1) ∧ ((a1 + 1) ≤ 39) := by omega
theorem oz1357 {a0 a1 a2 a3 : Int} (h0 : a0 ≤ a1) (h1 : (a1 + 2) ≤ 900) (h2 : a2 = a1 + a3) (h3 : a0 = 24) (h4 : a3 = 1) : ((0 : Int) ≤ a2) ∧ ((a2 + 1) ≤ 900) := by omega
theorem oz1358 {a0 a1 a2 a3 : Int} (h0 : a0 = a1 + a2) (h1 : a3 = (a0 + 1)) (h2 : a2 = 1) : a3 = (a1 + 2) := by omega
theorem oz1359 {a0 a1 a2 : Int} (h0 : (0 : Int) ≤ a0) (h1 : (a0 + 2) ≤ 900) (h2 : a1 = a0 + a2) (h3 : a2 = 1) : ((0 : Int) ≤ a1) ∧ ((a1 + 1) ≤ 900) := by omega
theorem oz1360 {a0 a1 : Int} (h0 : a0 ≤ a1) (h1 : (a1 + 2) ≤ 39) (h2 : a0 = 40) : False := by omega
theorem oz1361 {a0 : Int} (h0 : a0 = 0) : ((0 : Int) ≤ a0) ∧ ((a0 + 2) ≤ 39) := by omega
theorem oz1362 {a0 : Int} (h0 : a0 = 0) : ((0 : Int) ≤ a0) ∧ ((a0 + 2) ≤ 900) := by omega
theorem oz1365 {a0 a1 a2 : Int} (h0 : (a0 + 4) ≤ 900) (h1 : a1 = a0 + a2) (h2 : a2 = 1) : a1 ≤ 1000 := by omega
theorem oz1366 {a0 a1 : Int} (h0 : (a0 + 3) ≤ 39) (h1 : a1 = 1) : a0 + a1 ≤ 2147483647 := by omega
theorem oz1367 {a0 : Int} (h0 : (0 : Int) ≤ a0) (h1 : (a0 + 2) ≤ 39) : ((0 : Int) ≤ a0) ∧ ((a0 + 2) ≤ 39) := by omega
theorem oz1368 {a0 : Int} (h0 : (0 : Int) ≤ a0) (h1 : (a0 + 3) ≤ 900) : ((0 : Int) ≤ a0) ∧ ((a0 + 2) ≤ 900) := by omega
theorem oz1369 {a0 : Int} (h0 : (0 : Int) ≤ a0) (h1 : (a0 + 2) ≤ 39) : ((0 : Int) ≤ a0) ∧ ((a0 + 1) ≤ 39) := by omega
theorem oz1370 {a0 a1 : Int} (h0 : (0 : Int) ≤ a0) (h1 : (a1 + 3) ≤ 900) (h2 : a0 = (a1 + 2)) : ((0 : Int) ≤ a0) ∧ ((a0 + 1) ≤ 900) := by omega
theorem oz1371 {a0 a1 a2 : Int} (h0 : a0 = (a1 + 2)) (h1 : a2 = (a0 + 1)) : a2 = (a1 + 3) := by omega
theorem oz1372 {a0 a1 a2 : Int} (h0 : (0 : Int) ≤ a0) (h1 : (a0 + 3) ≤ 39) (h2 : a1 = a0 + a2) (h3 : a2 = 1) : ((0 : Int) ≤ a1) ∧ ((a1 + 2) ≤ 39) := by omega
theorem oz1373 {a0 a1 a2 a3 : Int} (h0 : a0 ≤ a1) (h1 : (a1 + 4) ≤ 900) (h2 : a2 = a1 + a3) (h3 : a0 = 24) (h4 : a3 = 1) : ((0 : Int) ≤ a2) ∧ ((a2 + 3) ≤ 900) := by omega
theorem oz1374 {a0 a1 a2 a3 : Int} (h0 : a0 = a1 + a2) (h1 : a3 = (a0 + 3)) (h2 : a2 = 1) : a3 = (a1 + 4) := by omega
theorem oz1375 {a0 a1 a2 : Int} (h0 : (0 : Int) ≤ a0) (h1 : (a0 + 4) ≤ 900) (h2 : a1 = a0 + a2) (h3 : a2 = 1) : ((0 : Int) ≤ a1) ∧ ((a1 + 3) ≤ 900) := by omega
theorem oz1376 {a0 a1 : Int} (h0 : a0 ≤ a1) (h1 : (a1 + 3) ≤ 39) (h2 : a0 = 40) : False := by omega
theorem oz1377 {a0 : Int} (h0 : a0 = 0) : ((0 : Int) ≤ a0) ∧ ((a0 + 3) ≤ 39) := by omega
theorem oz1378 {a0 : Int} (h0 : a0 = 0) : ((0 : Int) ≤ a0) ∧ ((a0 + 4) ≤ 900) := by omega
theorem oz1379 {a0 a1 a2 : Int} (h0 : a0 ≤ a1) (h1 : a1 < a2) (h2 : ¬ (a1 = 1)) (h3 : ¬ (a1 = 2)) (h4 : ¬ (a1 = 3)) (h5 : ¬ (a1 = 0)) (h6 : a0 = 0) (h7 : a2 = 4) : False := by omega
theorem oz1381 {a0 : Int} (h0 : a0 = 1) : a0 = 1 := by omega
theorem oz1382 {a0 : Int} (h0 : a0 = 1) : a0 < 8 := by omega
theorem oz1383 {a0 a1 : Int} (h0 : a0 = 1) (h1 : a1 = a0) : a1 = 1 := by omega
theorem oz1385 {a0 a1 a2 : Int} (h0 : (a0 + 3) ≤ 900) (h1 : a1 = a0 + a2) (h2 : a2 = 1) : a1 ≤ 1000 := by omega
theorem oz1386 {a0 : Int} (h0 : (0 : Int) ≤ a0) (h1 : (a0 + 2) ≤ 900) : ((0 : Int) ≤ a0) ∧ ((a0 + 2) ≤ 900) := by omega
theorem oz1387 {a0 a1 : Int} (h0 : a0 = (a1 + 2)) : a0 = (a1 + 2) := by omega
theorem oz1388 {a0 a1 a2 a3 : Int} (h0 : a0 ≤ a1) (h1 : (a1 + 3) ≤ 900) (h2 : a2 = a1 + a3) (h3 : a0 = 24) (h4 : a3 = 1) : ((0 : Int) ≤ a2) ∧ ((a2 + 2) ≤ 900) := by omega
theorem oz1389 {a0 a1 a2 a3 : Int} (h0 : a0 = a1 + a2) (h1 : a3 = (a0 + 2)) (h2 : a2 = 1) : a3 = (a1 + 3) := by omega
theorem oz1390 {a0 a1 a2 : Int} (h0 : (0 : Int) ≤ a0) (h1 : (a0 + 3) ≤ 900) (h2 : a1 = a0 + a2) (h3 : a2 = 1) : ((0 : Int) ≤ a1) ∧ ((a1 + 2) ≤ 900) := by omega
theorem oz1391 {a0 : Int} (h0 : a0 = 0) : ((0 : Int) ≤ a0) ∧ ((a0 + 3) ≤ 900) := by omega
theorem oz1394 {a0 a1 a2 : Int} (h0 : (a0 + 5) ≤ 900) (h1 : a1 = a0 + a2) (h2 : a2 = 1) : a1 ≤ 1000 := by omega
theorem oz1395 {a0 a1 : Int} (h0 : (a0 + 4) ≤ 39) (h1 : a1 = 1) : a0 + a1 ≤ 2147483647 := by omega
theorem oz1396 {a0 : Int} (h0 : (0 : Int) ≤ a0) (h1 : (a0 + 3) ≤ 39) : ((0 : Int) ≤ a0) ∧ ((a0 + 3) ≤ 39) := by omega
theorem oz1397 {a0 : Int} (h0 : (0 : Int) ≤ a0) (h1 : (a0 + 4) ≤ 900) : ((0 : Int) ≤ a0) ∧ ((a0 + 3) ≤ 900) := by omega
theorem oz1398 {a0 : Int} (h0 : (0 : Int) ≤ a0) (h1 : (a0 + 3) ≤ 39) : ((0 : Int) ≤ a0) ∧ ((a0 + 1) ≤ 39) := by omega
theorem oz1399 {a0 a1 : Int} (h0 : (0 : Int) ≤ a0) (h1 : (a1 + 4) ≤ 900) (h2 : a0 = (a1 + 3)) : ((0 : Int) ≤ a0) ∧ ((a0 + 1) ≤ 900) := by omega
theorem oz1400 {a0 a1 a2 : Int} (h0 : a0 = (a1 + 3)) (h1 : a2 = (a0 + 1)) : a2 = (a1 + 4) := by omega
theorem oz1401 {a0 a1 a2 : Int} (h0 : (0 : Int) ≤ a0) (h1 : (a0 + 4) ≤ 39) (h2 : a1 = a0 + a2) (h3 : a2 = 1) : ((0 : Int) ≤ a1) ∧ ((a1 + 3) ≤ 39) := by omega
theorem oz1402 {a0 a1 a2 a3 : Int} (h0 : a0 ≤ a1) (h1 : (a1 + 5) ≤ 900) (h2 : a2 = a1 + a3) (h3 : a0 = 24) (h4 : a3 = 1) : ((0 : Int) ≤ a2) ∧ ((a2 + 4) ≤ 900) := by omega
theorem oz1403 {a0 a1 a2 a3 : Int} (h0 : a0 = a1 + a2) (h1 : a3 = (a0 + 4)) (h2 : a2 = 1) : a3 = (a1 + 5) := by omega
theorem oz1404 {a0 a1 a2 : Int} (h0 : (0 : Int) ≤ a0) (h1 : (a0 + 5) ≤ 900) (h2 : a1 = a0 + a2) (h3 : a2 = 1) : ((0 : Int) ≤ a1) ∧ ((a1 + 4) ≤ 900) := by omega
theorem oz1405 {a0 a1 : Int} (h0 : a0 ≤ a1) (h1 : (a1 + 4) ≤ 39) (h2 : a0 = 40) : False := by omega
theorem oz1406 {a0 : Int} (h0 : a0 = 0) : ((0 : Int) ≤ a0) ∧ ((a0 + 4) ≤ 39) := by omega
theorem oz1407 {a0 : Int} (h0 : a0 = 0) : ((0 : Int) ≤ a0) ∧ ((a0 + 5) ≤ 900) := by omega
theorem oz1408 {a0 a1 a2 : Int} (h0 : a0 ≤ a1) (h1 : a1 < a2) (h2 : ¬ (a1 = 0)) (h3 : ¬ (a1 = 1)) (h4 : ¬ (a1 = 2)) (h5 : ¬ (a1 = 3)) (h6 : a0 = 0) (h7 : a2 = 4) : False := by omega
theorem oz1410 {a0 : Int} (h0 : a0 = 2) : a0 < 8 := by omega
theorem oz1411 {a0 : Int} (h0 : a0 = 2) : a0 = 2 := by omega
theorem oz1412 {a0 a1 : Int} (h0 : a0 = 2) (h1 : a1 = a0) : a1 = 2 := by omega
set_option maxRecDepth 100000 in
theorem kc10 {i : Nat → Int32} {a : Nat → List Int32} {q : Nat → List Int64} {r : Nat → Nat} (hI : kI i a q) (hr : kr r) (x1 : Int32) (x2 : Int32) : km 1 10 [.int x1, .int x2] (ks i a q r) (kPI (ks i a q r) (fun v => (v = 1 ∧ (True)) ∨ (v = 0 ∧ (True)))) := by
  have hG := kG_self kW0 hI hr
  refine km_ofPI (q := (mi_h10, mi_c10)) rfl (by decide) (Nat.le_of_ble_eq_true rfl) ?_
  intro P hP
  first | refine ft_goL mi_k10 4 4 [(3, .int 0), (2, .int x1), (0, .int x1), (1, .int x2)] [] (by rfl) ?_
  have lp1 : ∀ (nz : Nat) (l3_1 : Int32) (l2_1 : Int32), (0 : Int) ≤ l3_1.toInt → ((8 - l3_1.toInt)).toNat < nz → ko 1 (mi_h10, mi_c10) P (4, [(3, .int l3_1), (2, .int l2_1), (0, .int x1), (1, .int x2)], [], (0, 0), ks i a q r) := by
    intro nz
    induction nz with
    | zero =>
      intro _ _ _ hm
      exact absurd hm (Nat.not_lt_zero _)
    | succ nz ih1 =>
      intro l3_1 l2_1 p1_0 hm1
      refine ft_goL mi_k10 2 7 [(3, .int l3_1), (2, .int l2_1), (0, .int x1), (1, .int x2)] [.int 8, .int l3_1] (by rfl) ?_
      refine ft_ifS mi_k10 (decide (8 ≤ l3_1)) 39 10 [] (by rfl) (fun c => ?_) (fun c => ?_)
      ·
        have c2 : (8 : Int32).toInt ≤ l3_1.toInt := kd_le c; clear c
        refine ft_goS mi_k10 1 40 [.int 0] (by rfl) ?_
        exact ft_ret mi_k10 (by rfl) (hP 0 (Or.inr ⟨rfl, trivial⟩))
      ·
        have c3 : l3_1.toInt < (8 : Int32).toInt := kd_leF c; clear c
        refine ft_goS mi_k10 1 11 [.int l2_1] (by rfl) ?_
        refine ft_ifS mi_k10 (decide (l2_1 < 0)) 39 14 [] (by rfl) (fun c => ?_) (fun c => ?_)
        ·
          have c4 : l2_1.toInt < (0 : Int32).toInt := kd_lt c; clear c
          refine ft_goS mi_k10 1 40 [.int 0] (by rfl) ?_
          exact ft_ret mi_k10 (by rfl) (hP 0 (Or.inr ⟨rfl, trivial⟩))
        ·
          have c5 : (0 : Int32).toInt ≤ l2_1.toInt := kd_ltF c; clear c
          refine ft_goS mi_k10 2 17 [.int 8, .int l2_1] (by rfl) ?_
          refine ft_ifS mi_k10 (decide (8 ≤ l2_1)) 39 20 [] (by rfl) (fun c => ?_) (fun c => ?_)
          ·
            have c6 : (8 : Int32).toInt ≤ l2_1.toInt := kd_le c; clear c
            refine ft_goS mi_k10 1 40 [.int 0] (by rfl) ?_
            exact ft_ret mi_k10 (by rfl) (hP 0 (Or.inr ⟨rfl, trivial⟩))
          ·
            have c7 : l2_1.toInt < (8 : Int32).toInt := kd_leF c; clear c
            refine ft_goS mi_k10 2 22 [.int x2, .int l2_1] (by rfl) ?_
            refine ft_ifS mi_k10 (l2_1 != x2) 27 25 [] (by rfl) (fun c => ?_) (fun c => ?_)
            ·
              have c8 : l2_1.toInt ≠ x2.toInt := kd_ne c; clear c
              refine ft_goS mi_k10 2 31 [.int l2_1, .ref (mi_RO + 4)] (by rfl) ?_
              refine ko_iaro2 mi_k10.1 (l := [(-1), 0, 0, 2, 1, 3, 0, 4]) (n := 8) (c := 8) (ax := (0, 0, 0, 0, 0)) (mi_k10.2 _ _ (by rfl)) (by rfl) (by rfl) rfl rfl (oz389 c5 kn0) (oz936 c7 kn8) ?_
              have r9 : ((-1 : Int) ≤ (([(-1), 0, 0, 2, 1, 3, 0, 4] : List Int32).getD l2_1.toNatClampNeg 0).toInt) ∧ ((([(-1), 0, 0, 2, 1, 3, 0, 4] : List Int32).getD l2_1.toNatClampNeg 0).toInt ≤ 4) := kro_rng (lo := -1) (hi := 4) (by decide) (l2_1.toNatClampNeg)
              have s10 : (l3_1 + 1).toInt = l3_1.toInt + (1 : Int32).toInt := kd_add (oz12 p1_0 kn1) (oz474 c3 kn8 kn1)
              first | refine ft_goL mi_k10 3 4 [(3, .int (l3_1 + 1)), (2, .int (([(-1), 0, 0, 2, 1, 3, 0, 4] : List Int32).getD l2_1.toNatClampNeg 0)), (0, .int x1), (1, .int x2)] [] (by rfl) ?_
              exact ih1 _ _ (oz14 p1_0 s10 kn1) (kj_meas (oz475 s10 kn1) (oz476 c3 kn8) hm1)
            ·
              have c11 : l2_1.toInt = x2.toInt := kd_neF c; clear c
              refine ft_goS mi_k10 1 26 [.int 1] (by rfl) ?_
              exact ft_ret mi_k10 (by rfl) (hP 1 (Or.inl ⟨rfl, trivial⟩))
  exact lp1 _ _ _ (oz46 kn0) (Nat.lt_succ_self _)
set_option maxRecDepth 100000 in
theorem kc118_0 {i : Nat → Int32} {a : Nat → List Int32} {q : Nat → List Int64} {r : Nat → Nat} (hI : kI i a q) (hr : kr r) (x1 : Int32) (x2 : Int32) : km 5 118 [.ref 0, .int x1, .int x2] (ks i a q r) (kPI (ks i a q r) (fun v => True)) := by
  have hG := kG_self kW0 hI hr
  refine km_ofPI (q := (mi_h118, mi_c118)) rfl (by decide) (Nat.le_of_ble_eq_true rfl) ?_
  intro P hP
  first | refine ft_goL mi_k118 1 1 [(0, .ref 0), (1, .int x1), (2, .int x2)] [.int x1] (by rfl) ?_ | refine ko_steps mi_in118 1 _ (1, [(0, .ref 0), (1, .int x1), (2, .int x2)], [.int x1], (0, 0), ks i a q r) (by rfl) ?_
  refine ko_callPI mi_k118.1 (pc := 1) (ls := [(0, .ref 0), (1, .int x1), (2, .int x2)]) (st := [.int x1]) (h := ks i a q r) (i := (.invokestatic 70, 3, 121, 0, 9, 0, 157)) (mi_k118.2 _ _ (by rfl)) (ft_invS mi_pq121 (by rfl)) (cy := mi_c121) mi_pq121 rfl (kc121 hG.I hG.R x1) (by decide) ?_
  intro vg1 hg1
  rcases hg1 with ⟨eg1, hg1⟩ | ⟨eg1, hg1⟩
  ·
    subst eg1
    have z2 : ((0 : Int) ≤ x1.toInt) ∧ (x1.toInt ≤ 5) := hg1
    first | refine ft_goS mi_k118 4 11 [.int 7, .int 0, .int x2] (by rfl) ?_ | refine ko_steps mi_in118 4 _ (11, [(0, .ref 0), (1, .int x1), (2, .int x2)], [.int 7, .int 0, .int x2], (0, 0), ks i a q r) (by rfl) ?_
    refine ko_callPI mi_k118.1 (pc := 11) (ls := [(0, .ref 0), (1, .int x1), (2, .int x2)]) (st := [.int 7, .int 0, .int x2]) (h := ks i a q r) (i := (.invokestatic 74, 3, 120, 0, 9, 0, 152)) (mi_k118.2 _ _ (by rfl)) (ft_invS mi_pq120 (by rfl)) (cy := mi_c120) mi_pq120 rfl (kc120 hG.I hG.R x2 0 7) (by decide) ?_
    intro vg3 hg3
    rcases hg3 with ⟨eg3, hg3⟩ | ⟨eg3, hg3⟩
    ·
      subst eg3
      first | refine ft_goS mi_k118 4 24 [.int x1, .ref 97] (by rfl) ?_ | refine ko_steps mi_in118 4 _ (24, [(0, .ref 0), (1, .int x1), (2, .int x2)], [.int x1, .ref 97], (0, 0), ks i a q r) (by rfl) ?_
      by_cases w5 : x1.toInt = 0
      ·
        refine ko_eq (x1 := (24, [(0, .ref 0), (1, .int x1), (2, .int x2)], [.int 0, .ref 97], (0, 0), ks i a q r)) (by rw [(kj_eq w5 (by decide) : x1 = 0)]) ?_
        first | refine ft_goL mi_k118 4 30 [(3, .ref 104), (0, .ref 0), (1, .int x1), (2, .int x2)] [.int (i 6656)] (by rfl) ?_ | refine ko_steps mi_in118 4 _ (30, [(3, .ref 104), (0, .ref 0), (1, .int x1), (2, .int x2)], [.int (i 6656)], (0, 0), ks i a q r) (by rfl) ?_
        refine ft_ifS mi_k118 ((i 6656) != 0) 36 33 [] (by rfl) (fun c => ?_) (fun c => ?_)
        ·
          have c6 : (i 6656).toInt ≠ (0 : Int32).toInt := kd_ne c; clear c
          refine fo_goS mi_k118 fz118_36_3_41 [.int 1, .int (i 6656)] rfl ?_
          refine ft_ifS mi_k118 ((i 6656) != 1) 58 44 [] (by rfl) (fun c => ?_) (fun c => ?_)
          ·
            have c7 : (i 6656).toInt ≠ (1 : Int32).toInt := kd_ne c; clear c
            refine fo_goS mi_k118 fz118_58_1_60 [.int (-12)] rfl ?_
            exact ft_ret mi_k118 (by rfl) (hP (-12) trivial)
          ·
            have c8 : (i 6656).toInt = (1 : Int32).toInt := kd_neF c; clear c
            refine fo_goS mi_k118 fz118_44_4_52 [.int (i 6657), .ref 94] rfl ?_
            refine ko_callPI mi_k118.1 (pc := 52) (ls := [(3, .ref 104), (0, .ref 0), (1, .int x1), (2, .int x2)]) (st := [.int (i 6657), .ref 94]) (h := ks i a q r) (i := (.invokevirtual 301, 3, 8, 0, 9, 0, 304)) (mi_k118.2 _ _ (by rfl)) (ft_invS mi_pq8 (by rfl)) (cy := mi_c8) mi_pq8 rfl (kc8_94 hG.I hG.R (i 6657)) (by decide) ?_
            intro vg9 hg9
            rcases hg9 with ⟨eg9, hg9⟩ | ⟨eg9, hg9⟩
            ·
              subst eg9
              have fi_6017 : ((0 : Int) ≤ (i 6017).toInt) ∧ ((i 6017).toInt ≤ 50) := hG.I.1 6017
              have z10 : ((0 : Int) ≤ (i 6657).toInt) ∧ ((i 6657).toInt < (i 6017).toInt) := hg9
              refine fo_goS mi_k118 fz118_55_6_72 [.int (i 6657), .ref 95] rfl ?_
              refine ko_iald3 mi_k118.1 (n := 50) (c := 50) (ax := (0, 0, 0, 0, 0)) (mi_k118.2 _ _ (by rfl)) (by rfl) (ksG95 _ _ _ _) (hG.I.2.1 95) rfl (oz3 z10.1) (oz1283 fi_6017.2 z10.2) ?_
              have r11 : ((0 : Int) ≤ ((a 95).getD (i 6657).toNatClampNeg 0).toInt) ∧ (((a 95).getD (i 6657).toNatClampNeg 0).toInt ≤ 7) := hG.I.2.2.1 95 ((i 6657).toNatClampNeg)
              refine fo_goL mi_k118 fz118_73_3_78 [(4, .int ((a 95).getD (i 6657).toNatClampNeg 0)), (3, .ref 104), (0, .ref 0), (1, .int x1), (2, .int x2)] [.int x2, .int ((a 95).getD (i 6657).toNatClampNeg 0)] rfl ?_
              refine ko_callPI mi_k118.1 (pc := 78) (ls := [(4, .int ((a 95).getD (i 6657).toNatClampNeg 0)), (3, .ref 104), (0, .ref 0), (1, .int x1), (2, .int x2)]) (st := [.int x2, .int ((a 95).getD (i 6657).toNatClampNeg 0)]) (h := ks i a q r) (i := (.invokestatic 339, 3, 10, 0, 9, 0, 319)) (mi_k118.2 _ _ (by rfl)) (ft_invS mi_pq10 (by rfl)) (cy := mi_c10) mi_pq10 rfl (kc10 hG.I hG.R ((a 95).getD (i 6657).toNatClampNeg 0) x2) (by decide) ?_
              intro vg12 hg12
              rcases hg12 with ⟨eg12, hg12⟩ | ⟨eg12, hg12⟩
              ·
                subst eg12
                first | refine fo_goS mi_k118 fz118_81_3_91 [.int ((a 95).getD (i 6657).toNatClampNeg 0)] (by rfl) ?_ | refine ft_goS mi_k118 3 91 [.int ((a 95).getD (i 6657).toNatClampNeg 0)] (by rfl) ?_ | refine ko_steps mi_in118 3 _ (91, [(4, .int ((a 95).getD (i 6657).toNatClampNeg 0)), (3, .ref 104), (0, .ref 0), (1, .int x1), (2, .int x2)], [.int ((a 95).getD (i 6657).toNatClampNeg 0)], (0, 0), ks i a q r) (by rfl) ?_
                exact ft_ret mi_k118 (by rfl) (hP ((a 95).getD (i 6657).toNatClampNeg 0) trivial)
              ·
                subst eg12
                first | refine fo_goS mi_k118 fz118_84_2_91 [.int (-12)] (by rfl) ?_ | refine fo_goS mi_k118 fz118_81_2_91 [.int (-12)] (by rfl) ?_
                exact ft_ret mi_k118 (by rfl) (hP (-12) trivial)
            ·
              subst eg9
              first | refine fo_goS mi_k118 fz118_55_2_60 [.int (-12)] (by rfl) ?_ | refine ft_goS mi_k118 2 60 [.int (-12)] (by rfl) ?_ | refine ko_steps mi_in118 2 _ (60, [(3, .ref 104), (0, .ref 0), (1, .int x1), (2, .int x2)], [.int (-12)], (0, 0), ks i a q r) (by rfl) ?_
              exact ft_ret mi_k118 (by rfl) (hP (-12) trivial)
        ·
          have c14 : (i 6656).toInt = (0 : Int32).toInt := kd_neF c; clear c
          refine fo_goS mi_k118 fz118_33_1_35 [.int (-11)] rfl ?_
          exact ft_ret mi_k118 (by rfl) (hP (-11) trivial)
      by_cases w15 : x1.toInt = 1
      ·
        refine ko_eq (x1 := (24, [(0, .ref 0), (1, .int x1), (2, .int x2)], [.int 1, .ref 97], (0, 0), ks i a q r)) (by rw [(kj_eq w15 (by decide) : x1 = 1)]) ?_
        first | refine ft_goL mi_k118 4 30 [(3, .ref 106), (0, .ref 0), (1, .int x1), (2, .int x2)] [.int (i 6784)] (by rfl) ?_ | refine ko_steps mi_in118 4 _ (30, [(3, .ref 106), (0, .ref 0), (1, .int x1), (2, .int x2)], [.int (i 6784)], (0, 0), ks i a q r) (by rfl) ?_
        refine ft_ifS mi_k118 ((i 6784) != 0) 36 33 [] (by rfl) (fun c => ?_) (fun c => ?_)
        ·
          have c16 : (i 6784).toInt ≠ (0 : Int32).toInt := kd_ne c; clear c
          refine fo_goS mi_k118 fz118_36_3_41 [.int 1, .int (i 6784)] rfl ?_
          refine ft_ifS mi_k118 ((i 6784) != 1) 58 44 [] (by rfl) (fun c => ?_) (fun c => ?_)
          ·
            have c17 : (i 6784).toInt ≠ (1 : Int32).toInt := kd_ne c; clear c
            refine fo_goS mi_k118 fz118_58_1_60 [.int (-12)] rfl ?_
            exact ft_ret mi_k118 (by rfl) (hP (-12) trivial)
          ·
            have c18 : (i 6784).toInt = (1 : Int32).toInt := kd_neF c; clear c
            refine fo_goS mi_k118 fz118_44_4_52 [.int (i 6785), .ref 94] rfl ?_
            refine ko_callPI mi_k118.1 (pc := 52) (ls := [(3, .ref 106), (0, .ref 0), (1, .int x1), (2, .int x2)]) (st := [.int (i 6785), .ref 94]) (h := ks i a q r) (i := (.invokevirtual 301, 3, 8, 0, 9, 0, 304)) (mi_k118.2 _ _ (by rfl)) (ft_invS mi_pq8 (by rfl)) (cy := mi_c8) mi_pq8 rfl (kc8_94 hG.I hG.R (i 6785)) (by decide) ?_
            intro vg19 hg19
            rcases hg19 with ⟨eg19, hg19⟩ | ⟨eg19, hg19⟩
            ·
              subst eg19
              have fi_6017 : ((0 : Int) ≤ (i 6017).toInt) ∧ ((i 6017).toInt ≤ 50) := hG.I.1 6017
              have z20 : ((0 : Int) ≤ (i 6785).toInt) ∧ ((i 6785).toInt < (i 6017).toInt) := hg19
              refine fo_goS mi_k118 fz118_55_6_72 [.int (i 6785), .ref 95] rfl ?_
              refine ko_iald3 mi_k118.1 (n := 50) (c := 50) (ax := (0, 0, 0, 0, 0)) (mi_k118.2 _ _ (by rfl)) (by rfl) (ksG95 _ _ _ _) (hG.I.2.1 95) rfl (oz3 z20.1) (oz1283 fi_6017.2 z20.2) ?_
              have r21 : ((0 : Int) ≤ ((a 95).getD (i 6785).toNatClampNeg 0).toInt) ∧ (((a 95).getD (i 6785).toNatClampNeg 0).toInt ≤ 7) := hG.I.2.2.1 95 ((i 6785).toNatClampNeg)
              refine fo_goL mi_k118 fz118_73_3_78 [(4, .int ((a 95).getD (i 6785).toNatClampNeg 0)), (3, .ref 106), (0, .ref 0), (1, .int x1), (2, .int x2)] [.int x2, .int ((a 95).getD (i 6785).toNatClampNeg 0)] rfl ?_
              refine ko_callPI mi_k118.1 (pc := 78) (ls := [(4, .int ((a 95).getD (i 6785).toNatClampNeg 0)), (3, .ref 106), (0, .ref 0), (1, .int x1), (2, .int x2)]) (st := [.int x2, .int ((a 95).getD (i 6785).toNatClampNeg 0)]) (h := ks i a q r) (i := (.invokestatic 339, 3, 10, 0, 9, 0, 319)) (mi_k118.2 _ _ (by rfl)) (ft_invS mi_pq10 (by rfl)) (cy := mi_c10) mi_pq10 rfl (kc10 hG.I hG.R ((a 95).getD (i 6785).toNatClampNeg 0) x2) (by decide) ?_
              intro vg22 hg22
              rcases hg22 with ⟨eg22, hg22⟩ | ⟨eg22, hg22⟩
              ·
                subst eg22
                first | refine fo_goS mi_k118 fz118_81_3_91 [.int ((a 95).getD (i 6785).toNatClampNeg 0)] (by rfl) ?_ | refine ft_goS mi_k118 3 91 [.int ((a 95).getD (i 6785).toNatClampNeg 0)] (by rfl) ?_ | refine ko_steps mi_in118 3 _ (91, [(4, .int ((a 95).getD (i 6785).toNatClampNeg 0)), (3, .ref 106), (0, .ref 0), (1, .int x1), (2, .int x2)], [.int ((a 95).getD (i 6785).toNatClampNeg 0)], (0, 0), ks i a q r) (by rfl) ?_
                exact ft_ret mi_k118 (by rfl) (hP ((a 95).getD (i 6785).toNatClampNeg 0) trivial)
              ·
                subst eg22
                first | refine fo_goS mi_k118 fz118_84_2_91 [.int (-12)] (by rfl) ?_ | refine fo_goS mi_k118 fz118_81_2_91 [.int (-12)] (by rfl) ?_
                exact ft_ret mi_k118 (by rfl) (hP (-12) trivial)
            ·
              subst eg19
              first | refine fo_goS mi_k118 fz118_55_2_60 [.int (-12)] (by rfl) ?_ | refine ft_goS mi_k118 2 60 [.int (-12)] (by rfl) ?_ | refine ko_steps mi_in118 2 _ (60, [(3, .ref 106), (0, .ref 0), (1, .int x1), (2, .int x2)], [.int (-12)], (0, 0), ks i a q r) (by rfl) ?_
              exact ft_ret mi_k118 (by rfl) (hP (-12) trivial)
        ·
          have c24 : (i 6784).toInt = (0 : Int32).toInt := kd_neF c; clear c
          refine fo_goS mi_k118 fz118_33_1_35 [.int (-11)] rfl ?_
          exact ft_ret mi_k118 (by rfl) (hP (-11) trivial)
      by_cases w25 : x1.toInt = 2
      ·
        refine ko_eq (x1 := (24, [(0, .ref 0), (1, .int x1), (2, .int x2)], [.int 2, .ref 97], (0, 0), ks i a q r)) (by rw [(kj_eq w25 (by decide) : x1 = 2)]) ?_
        first | refine ft_goL mi_k118 4 30 [(3, .ref 108), (0, .ref 0), (1, .int x1), (2, .int x2)] [.int (i 6912)] (by rfl) ?_ | refine ko_steps mi_in118 4 _ (30, [(3, .ref 108), (0, .ref 0), (1, .int x1), (2, .int x2)], [.int (i 6912)], (0, 0), ks i a q r) (by rfl) ?_
        refine ft_ifS mi_k118 ((i 6912) != 0) 36 33 [] (by rfl) (fun c => ?_) (fun c => ?_)
        ·
          have c26 : (i 6912).toInt ≠ (0 : Int32).toInt := kd_ne c; clear c
          refine fo_goS mi_k118 fz118_36_3_41 [.int 1, .int (i 6912)] rfl ?_
          refine ft_ifS mi_k118 ((i 6912) != 1) 58 44 [] (by rfl) (fun c => ?_) (fun c => ?_)
          ·
            have c27 : (i 6912).toInt ≠ (1 : Int32).toInt := kd_ne c; clear c
            refine fo_goS mi_k118 fz118_58_1_60 [.int (-12)] rfl ?_
            exact ft_ret mi_k118 (by rfl) (hP (-12) trivial)
          ·
            have c28 : (i 6912).toInt = (1 : Int32).toInt := kd_neF c; clear c
            refine fo_goS mi_k118 fz118_44_4_52 [.int (i 6913), .ref 94] rfl ?_
            refine ko_callPI mi_k118.1 (pc := 52) (ls := [(3, .ref 108), (0, .ref 0), (1, .int x1), (2, .int x2)]) (st := [.int (i 6913), .ref 94]) (h := ks i a q r) (i := (.invokevirtual 301, 3, 8, 0, 9, 0, 304)) (mi_k118.2 _ _ (by rfl)) (ft_invS mi_pq8 (by rfl)) (cy := mi_c8) mi_pq8 rfl (kc8_94 hG.I hG.R (i 6913)) (by decide) ?_
            intro vg29 hg29
            rcases hg29 with ⟨eg29, hg29⟩ | ⟨eg29, hg29⟩
            ·
              subst eg29
              have fi_6017 : ((0 : Int) ≤ (i 6017).toInt) ∧ ((i 6017).toInt ≤ 50) := hG.I.1 6017
              have z30 : ((0 : Int) ≤ (i 6913).toInt) ∧ ((i 6913).toInt < (i 6017).toInt) := hg29
              refine fo_goS mi_k118 fz118_55_6_72 [.int (i 6913), .ref 95] rfl ?_
              refine ko_iald3 mi_k118.1 (n := 50) (c := 50) (ax := (0, 0, 0, 0, 0)) (mi_k118.2 _ _ (by rfl)) (by rfl) (ksG95 _ _ _ _) (hG.I.2.1 95) rfl (oz3 z30.1) (oz1283 fi_6017.2 z30.2) ?_
              have r31 : ((0 : Int) ≤ ((a 95).getD (i 6913).toNatClampNeg 0).toInt) ∧ (((a 95).getD (i 6913).toNatClampNeg 0).toInt ≤ 7) := hG.I.2.2.1 95 ((i 6913).toNatClampNeg)
              refine fo_goL mi_k118 fz118_73_3_78 [(4, .int ((a 95).getD (i 6913).toNatClampNeg 0)), (3, .ref 108), (0, .ref 0), (1, .int x1), (2, .int x2)] [.int x2, .int ((a 95).getD (i 6913).toNatClampNeg 0)] rfl ?_
              refine ko_callPI mi_k118.1 (pc := 78) (ls := [(4, .int ((a 95).getD (i 6913).toNatClampNeg 0)), (3, .ref 108), (0, .ref 0), (1, .int x1), (2, .int x2)]) (st := [.int x2, .int ((a 95).getD (i 6913).toNatClampNeg 0)]) (h := ks i a q r) (i := (.invokestatic 339, 3, 10, 0, 9, 0, 319)) (mi_k118.2 _ _ (by rfl)) (ft_invS mi_pq10 (by rfl)) (cy := mi_c10) mi_pq10 rfl (kc10 hG.I hG.R ((a 95).getD (i 6913).toNatClampNeg 0) x2) (by decide) ?_
              intro vg32 hg32
              rcases hg32 with ⟨eg32, hg32⟩ | ⟨eg32, hg32⟩
              ·
                subst eg32
                first | refine fo_goS mi_k118 fz118_81_3_91 [.int ((a 95).getD (i 6913).toNatClampNeg 0)] (by rfl) ?_ | refine ft_goS mi_k118 3 91 [.int ((a 95).getD (i 6913).toNatClampNeg 0)] (by rfl) ?_ | refine ko_steps mi_in118 3 _ (91, [(4, .int ((a 95).getD (i 6913).toNatClampNeg 0)), (3, .ref 108), (0, .ref 0), (1, .int x1), (2, .int x2)], [.int ((a 95).getD (i 6913).toNatClampNeg 0)], (0, 0), ks i a q r) (by rfl) ?_
                exact ft_ret mi_k118 (by rfl) (hP ((a 95).getD (i 6913).toNatClampNeg 0) trivial)
              ·
                subst eg32
                first | refine fo_goS mi_k118 fz118_84_2_91 [.int (-12)] (by rfl) ?_ | refine fo_goS mi_k118 fz118_81_2_91 [.int (-12)] (by rfl) ?_
                exact ft_ret mi_k118 (by rfl) (hP (-12) trivial)
            ·
              subst eg29
              first | refine fo_goS mi_k118 fz118_55_2_60 [.int (-12)] (by rfl) ?_ | refine ft_goS mi_k118 2 60 [.int (-12)] (by rfl) ?_ | refine ko_steps mi_in118 2 _ (60, [(3, .ref 108), (0, .ref 0), (1, .int x1), (2, .int x2)], [.int (-12)], (0, 0), ks i a q r) (by rfl) ?_
              exact ft_ret mi_k118 (by rfl) (hP (-12) trivial)
        ·
          have c34 : (i 6912).toInt = (0 : Int32).toInt := kd_neF c; clear c
          refine fo_goS mi_k118 fz118_33_1_35 [.int (-11)] rfl ?_
          exact ft_ret mi_k118 (by rfl) (hP (-11) trivial)
      by_cases w35 : x1.toInt = 3
      ·
        refine ko_eq (x1 := (24, [(0, .ref 0), (1, .int x1), (2, .int x2)], [.int 3, .ref 97], (0, 0), ks i a q r)) (by rw [(kj_eq w35 (by decide) : x1 = 3)]) ?_
        first | refine ft_goL mi_k118 4 30 [(3, .ref 110), (0, .ref 0), (1, .int x1), (2, .int x2)] [.int (i 7040)] (by rfl) ?_ | refine ko_steps mi_in118 4 _ (30, [(3, .ref 110), (0, .ref 0), (1, .int x1), (2, .int x2)], [.int (i 7040)], (0, 0), ks i a q r) (by rfl) ?_
        refine ft_ifS mi_k118 ((i 7040) != 0) 36 33 [] (by rfl) (fun c => ?_) (fun c => ?_)
        ·
          have c36 : (i 7040).toInt ≠ (0 : Int32).toInt := kd_ne c; clear c
          refine fo_goS mi_k118 fz118_36_3_41 [.int 1, .int (i 7040)] rfl ?_
          refine ft_ifS mi_k118 ((i 7040) != 1) 58 44 [] (by rfl) (fun c => ?_) (fun c => ?_)
          ·
            have c37 : (i 7040).toInt ≠ (1 : Int32).toInt := kd_ne c; clear c
            refine fo_goS mi_k118 fz118_58_1_60 [.int (-12)] rfl ?_
            exact ft_ret mi_k118 (by rfl) (hP (-12) trivial)
          ·
            have c38 : (i 7040).toInt = (1 : Int32).toInt := kd_neF c; clear c
            refine fo_goS mi_k118 fz118_44_4_52 [.int (i 7041), .ref 94] rfl ?_
            refine ko_callPI mi_k118.1 (pc := 52) (ls := [(3, .ref 110), (0, .ref 0), (1, .int x1), (2, .int x2)]) (st := [.int (i 7041), .ref 94]) (h := ks i a q r) (i := (.invokevirtual 301, 3, 8, 0, 9, 0, 304)) (mi_k118.2 _ _ (by rfl)) (ft_invS mi_pq8 (by rfl)) (cy := mi_c8) mi_pq8 rfl (kc8_94 hG.I hG.R (i 7041)) (by decide) ?_
            intro vg39 hg39
            rcases hg39 with ⟨eg39, hg39⟩ | ⟨eg39, hg39⟩
            ·
              subst eg39
              have fi_6017 : ((0 : Int) ≤ (i 6017).toInt) ∧ ((i 6017).toInt ≤ 50) := hG.I.1 6017
              have z40 : ((0 : Int) ≤ (i 7041).toInt) ∧ ((i 7041).toInt < (i 6017).toInt) := hg39
              refine fo_goS mi_k118 fz118_55_6_72 [.int (i 7041), .ref 95] rfl ?_
              refine ko_iald3 mi_k118.1 (n := 50) (c := 50) (ax := (0, 0, 0, 0, 0)) (mi_k118.2 _ _ (by rfl)) (by rfl) (ksG95 _ _ _ _) (hG.I.2.1 95) rfl (oz3 z40.1) (oz1283 fi_6017.2 z40.2) ?_
              have r41 : ((0 : Int) ≤ ((a 95).getD (i 7041).toNatClampNeg 0).toInt) ∧ (((a 95).getD (i 7041).toNatClampNeg 0).toInt ≤ 7) := hG.I.2.2.1 95 ((i 7041).toNatClampNeg)
              refine fo_goL mi_k118 fz118_73_3_78 [(4, .int ((a 95).getD (i 7041).toNatClampNeg 0)), (3, .ref 110), (0, .ref 0), (1, .int x1), (2, .int x2)] [.int x2, .int ((a 95).getD (i 7041).toNatClampNeg 0)] rfl ?_
              refine ko_callPI mi_k118.1 (pc := 78) (ls := [(4, .int ((a 95).getD (i 7041).toNatClampNeg 0)), (3, .ref 110), (0, .ref 0), (1, .int x1), (2, .int x2)]) (st := [.int x2, .int ((a 95).getD (i 7041).toNatClampNeg 0)]) (h := ks i a q r) (i := (.invokestatic 339, 3, 10, 0, 9, 0, 319)) (mi_k118.2 _ _ (by rfl)) (ft_invS mi_pq10 (by rfl)) (cy := mi_c10) mi_pq10 rfl (kc10 hG.I hG.R ((a 95).getD (i 7041).toNatClampNeg 0) x2) (by decide) ?_
              intro vg42 hg42
              rcases hg42 with ⟨eg42, hg42⟩ | ⟨eg42, hg42⟩
              ·
                subst eg42
                first | refine fo_goS mi_k118 fz118_81_3_91 [.int ((a 95).getD (i 7041).toNatClampNeg 0)] (by rfl) ?_ | refine ft_goS mi_k118 3 91 [.int ((a 95).getD (i 7041).toNatClampNeg 0)] (by rfl) ?_ | refine ko_steps mi_in118 3 _ (91, [(4, .int ((a 95).getD (i 7041).toNatClampNeg 0)), (3, .ref 110), (0, .ref 0), (1, .int x1), (2, .int x2)], [.int ((a 95).getD (i 7041).toNatClampNeg 0)], (0, 0), ks i a q r) (by rfl) ?_
                exact ft_ret mi_k118 (by rfl) (hP ((a 95).getD (i 7041).toNatClampNeg 0) trivial)
              ·
                subst eg42
                first | refine fo_goS mi_k118 fz118_84_2_91 [.int (-12)] (by rfl) ?_ | refine fo_goS mi_k118 fz118_81_2_91 [.int (-12)] (by rfl) ?_
                exact ft_ret mi_k118 (by rfl) (hP (-12) trivial)
            ·
              subst eg39
              first | refine fo_goS mi_k118 fz118_55_2_60 [.int (-12)] (by rfl) ?_ | refine ft_goS mi_k118 2 60 [.int (-12)] (by rfl) ?_ | refine ko_steps mi_in118 2 _ (60, [(3, .ref 110), (0, .ref 0), (1, .int x1), (2, .int x2)], [.int (-12)], (0, 0), ks i a q r) (by rfl) ?_
              exact ft_ret mi_k118 (by rfl) (hP (-12) trivial)
        ·
          have c44 : (i 7040).toInt = (0 : Int32).toInt := kd_neF c; clear c
          refine fo_goS mi_k118 fz118_33_1_35 [.int (-11)] rfl ?_
          exact ft_ret mi_k118 (by rfl) (hP (-11) trivial)
      by_cases w45 : x1.toInt = 4
      ·
        refine ko_eq (x1 := (24, [(0, .ref 0), (1, .int x1), (2, .int x2)], [.int 4, .ref 97], (0, 0), ks i a q r)) (by rw [(kj_eq w45 (by decide) : x1 = 4)]) ?_
        first | refine ft_goL mi_k118 4 30 [(3, .ref 112), (0, .ref 0), (1, .int x1), (2, .int x2)] [.int (i 7168)] (by rfl) ?_ | refine ko_steps mi_in118 4 _ (30, [(3, .ref 112), (0, .ref 0), (1, .int x1), (2, .int x2)], [.int (i 7168)], (0, 0), ks i a q r) (by rfl) ?_
        refine ft_ifS mi_k118 ((i 7168) != 0) 36 33 [] (by rfl) (fun c => ?_) (fun c => ?_)
        ·
          have c46 : (i 7168).toInt ≠ (0 : Int32).toInt := kd_ne c; clear c
          refine fo_goS mi_k118 fz118_36_3_41 [.int 1, .int (i 7168)] rfl ?_
          refine ft_ifS mi_k118 ((i 7168) != 1) 58 44 [] (by rfl) (fun c => ?_) (fun c => ?_)
          ·
            have c47 : (i 7168).toInt ≠ (1 : Int32).toInt := kd_ne c; clear c
            refine fo_goS mi_k118 fz118_58_1_60 [.int (-12)] rfl ?_
            exact ft_ret mi_k118 (by rfl) (hP (-12) trivial)
          ·
            have c48 : (i 7168).toInt = (1 : Int32).toInt := kd_neF c; clear c
            refine fo_goS mi_k118 fz118_44_4_52 [.int (i 7169), .ref 94] rfl ?_
            refine ko_callPI mi_k118.1 (pc := 52) (ls := [(3, .ref 112), (0, .ref 0), (1, .int x1), (2, .int x2)]) (st := [.int (i 7169), .ref 94]) (h := ks i a q r) (i := (.invokevirtual 301, 3, 8, 0, 9, 0, 304)) (mi_k118.2 _ _ (by rfl)) (ft_invS mi_pq8 (by rfl)) (cy := mi_c8) mi_pq8 rfl (kc8_94 hG.I hG.R (i 7169)) (by decide) ?_
            intro vg49 hg49
            rcases hg49 with ⟨eg49, hg49⟩ | ⟨eg49, hg49⟩
            ·
              subst eg49
              have fi_6017 : ((0 : Int) ≤ (i 6017).toInt) ∧ ((i 6017).toInt ≤ 50) := hG.I.1 6017
              have z50 : ((0 : Int) ≤ (i 7169).toInt) ∧ ((i 7169).toInt < (i 6017).toInt) := hg49
              refine fo_goS mi_k118 fz118_55_6_72 [.int (i 7169), .ref 95] rfl ?_
              refine ko_iald3 mi_k118.1 (n := 50) (c := 50) (ax := (0, 0, 0, 0, 0)) (mi_k118.2 _ _ (by rfl)) (by rfl) (ksG95 _ _ _ _) (hG.I.2.1 95) rfl (oz3 z50.1) (oz1283 fi_6017.2 z50.2) ?_
              have r51 : ((0 : Int) ≤ ((a 95).getD (i 7169).toNatClampNeg 0).toInt) ∧ (((a 95).getD (i 7169).toNatClampNeg 0).toInt ≤ 7) := hG.I.2.2.1 95 ((i 7169).toNatClampNeg)
              refine fo_goL mi_k118 fz118_73_3_78 [(4, .int ((a 95).getD (i 7169).toNatClampNeg 0)), (3, .ref 112), (0, .ref 0), (1, .int x1), (2, .int x2)] [.int x2, .int ((a 95).getD (i 7169).toNatClampNeg 0)] rfl ?_
              refine ko_callPI mi_k118.1 (pc := 78) (ls := [(4, .int ((a 95).getD (i 7169).toNatClampNeg 0)), (3, .ref 112), (0, .ref 0), (1, .int x1), (2, .int x2)]) (st := [.int x2, .int ((a 95).getD (i 7169).toNatClampNeg 0)]) (h := ks i a q r) (i := (.invokestatic 339, 3, 10, 0, 9, 0, 319)) (mi_k118.2 _ _ (by rfl)) (ft_invS mi_pq10 (by rfl)) (cy := mi_c10) mi_pq10 rfl (kc10 hG.I hG.R ((a 95).getD (i 7169).toNatClampNeg 0) x2) (by decide) ?_
              intro vg52 hg52
              rcases hg52 with ⟨eg52, hg52⟩ | ⟨eg52, hg52⟩
              ·
                subst eg52
                first | refine fo_goS mi_k118 fz118_81_3_91 [.int ((a 95).getD (i 7169).toNatClampNeg 0)] (by rfl) ?_ | refine ft_goS mi_k118 3 91 [.int ((a 95).getD (i 7169).toNatClampNeg 0)] (by rfl) ?_ | refine ko_steps mi_in118 3 _ (91, [(4, .int ((a 95).getD (i 7169).toNatClampNeg 0)), (3, .ref 112), (0, .ref 0), (1, .int x1), (2, .int x2)], [.int ((a 95).getD (i 7169).toNatClampNeg 0)], (0, 0), ks i a q r) (by rfl) ?_
                exact ft_ret mi_k118 (by rfl) (hP ((a 95).getD (i 7169).toNatClampNeg 0) trivial)
              ·
                subst eg52
                first | refine fo_goS mi_k118 fz118_84_2_91 [.int (-12)] (by rfl) ?_ | refine fo_goS mi_k118 fz118_81_2_91 [.int (-12)] (by rfl) ?_
                exact ft_ret mi_k118 (by rfl) (hP (-12) trivial)
            ·
              subst eg49
              first | refine fo_goS mi_k118 fz118_55_2_60 [.int (-12)] (by rfl) ?_ | refine ft_goS mi_k118 2 60 [.int (-12)] (by rfl) ?_ | refine ko_steps mi_in118 2 _ (60, [(3, .ref 112), (0, .ref 0), (1, .int x1), (2, .int x2)], [.int (-12)], (0, 0), ks i a q r) (by rfl) ?_
              exact ft_ret mi_k118 (by rfl) (hP (-12) trivial)
        ·
          have c54 : (i 7168).toInt = (0 : Int32).toInt := kd_neF c; clear c
          refine fo_goS mi_k118 fz118_33_1_35 [.int (-11)] rfl ?_
          exact ft_ret mi_k118 (by rfl) (hP (-11) trivial)
      by_cases w55 : x1.toInt = 5
      ·
        refine ko_eq (x1 := (24, [(0, .ref 0), (1, .int x1), (2, .int x2)], [.int 5, .ref 97], (0, 0), ks i a q r)) (by rw [(kj_eq w55 (by decide) : x1 = 5)]) ?_
        first | refine ft_goL mi_k118 4 30 [(3, .ref 114), (0, .ref 0), (1, .int x1), (2, .int x2)] [.int (i 7296)] (by rfl) ?_ | refine ko_steps mi_in118 4 _ (30, [(3, .ref 114), (0, .ref 0), (1, .int x1), (2, .int x2)], [.int (i 7296)], (0, 0), ks i a q r) (by rfl) ?_
        refine ft_ifS mi_k118 ((i 7296) != 0) 36 33 [] (by rfl) (fun c => ?_) (fun c => ?_)
        ·
          have c56 : (i 7296).toInt ≠ (0 : Int32).toInt := kd_ne c; clear c
          refine fo_goS mi_k118 fz118_36_3_41 [.int 1, .int (i 7296)] rfl ?_
          refine ft_ifS mi_k118 ((i 7296) != 1) 58 44 [] (by rfl) (fun c => ?_) (fun c => ?_)
          ·
            have c57 : (i 7296).toInt ≠ (1 : Int32).toInt := kd_ne c; clear c
            refine fo_goS mi_k118 fz118_58_1_60 [.int (-12)] rfl ?_
            exact ft_ret mi_k118 (by rfl) (hP (-12) trivial)
          ·
            have c58 : (i 7296).toInt = (1 : Int32).toInt := kd_neF c; clear c
            refine fo_goS mi_k118 fz118_44_4_52 [.int (i 7297), .ref 94] rfl ?_
            refine ko_callPI mi_k118.1 (pc := 52) (ls := [(3, .ref 114), (0, .ref 0), (1, .int x1), (2, .int x2)]) (st := [.int (i 7297), .ref 94]) (h := ks i a q r) (i := (.invokevirtual 301, 3, 8, 0, 9, 0, 304)) (mi_k118.2 _ _ (by rfl)) (ft_invS mi_pq8 (by rfl)) (cy := mi_c8) mi_pq8 rfl (kc8_94 hG.I hG.R (i 7297)) (by decide) ?_
            intro vg59 hg59
            rcases hg59 with ⟨eg59, hg59⟩ | ⟨eg59, hg59⟩
            ·
              subst eg59
              have fi_6017 : ((0 : Int) ≤ (i 6017).toInt) ∧ ((i 6017).toInt ≤ 50) := hG.I.1 6017
              have z60 : ((0 : Int) ≤ (i 7297).toInt) ∧ ((i 7297).toInt < (i 6017).toInt) := hg59
              refine fo_goS mi_k118 fz118_55_6_72 [.int (i 7297), .ref 95] rfl ?_
              refine ko_iald3 mi_k118.1 (n := 50) (c := 50) (ax := (0, 0, 0, 0, 0)) (mi_k118.2 _ _ (by rfl)) (by rfl) (ksG95 _ _ _ _) (hG.I.2.1 95) rfl (oz3 z60.1) (oz1283 fi_6017.2 z60.2) ?_
              have r61 : ((0 : Int) ≤ ((a 95).getD (i 7297).toNatClampNeg 0).toInt) ∧ (((a 95).getD (i 7297).toNatClampNeg 0).toInt ≤ 7) := hG.I.2.2.1 95 ((i 7297).toNatClampNeg)
              refine fo_goL mi_k118 fz118_73_3_78 [(4, .int ((a 95).getD (i 7297).toNatClampNeg 0)), (3, .ref 114), (0, .ref 0), (1, .int x1), (2, .int x2)] [.int x2, .int ((a 95).getD (i 7297).toNatClampNeg 0)] rfl ?_
              refine ko_callPI mi_k118.1 (pc := 78) (ls := [(4, .int ((a 95).getD (i 7297).toNatClampNeg 0)), (3, .ref 114), (0, .ref 0), (1, .int x1), (2, .int x2)]) (st := [.int x2, .int ((a 95).getD (i 7297).toNatClampNeg 0)]) (h := ks i a q r) (i := (.invokestatic 339, 3, 10, 0, 9, 0, 319)) (mi_k118.2 _ _ (by rfl)) (ft_invS mi_pq10 (by rfl)) (cy := mi_c10) mi_pq10 rfl (kc10 hG.I hG.R ((a 95).getD (i 7297).toNatClampNeg 0) x2) (by decide) ?_
              intro vg62 hg62
              rcases hg62 with ⟨eg62, hg62⟩ | ⟨eg62, hg62⟩
              ·
                subst eg62
                first | refine fo_goS mi_k118 fz118_81_3_91 [.int ((a 95).getD (i 7297).toNatClampNeg 0)] (by rfl) ?_ | refine ft_goS mi_k118 3 91 [.int ((a 95).getD (i 7297).toNatClampNeg 0)] (by rfl) ?_ | refine ko_steps mi_in118 3 _ (91, [(4, .int ((a 95).getD (i 7297).toNatClampNeg 0)), (3, .ref 114), (0, .ref 0), (1, .int x1), (2, .int x2)], [.int ((a 95).getD (i 7297).toNatClampNeg 0)], (0, 0), ks i a q r) (by rfl) ?_
                exact ft_ret mi_k118 (by rfl) (hP ((a 95).getD (i 7297).toNatClampNeg 0) trivial)
              ·
                subst eg62
                first | refine fo_goS mi_k118 fz118_84_2_91 [.int (-12)] (by rfl) ?_ | refine fo_goS mi_k118 fz118_81_2_91 [.int (-12)] (by rfl) ?_
                exact ft_ret mi_k118 (by rfl) (hP (-12) trivial)
            ·
              subst eg59
              first | refine fo_goS mi_k118 fz118_55_2_60 [.int (-12)] (by rfl) ?_ | refine ft_goS mi_k118 2 60 [.int (-12)] (by rfl) ?_ | refine ko_steps mi_in118 2 _ (60, [(3, .ref 114), (0, .ref 0), (1, .int x1), (2, .int x2)], [.int (-12)], (0, 0), ks i a q r) (by rfl) ?_
              exact ft_ret mi_k118 (by rfl) (hP (-12) trivial)
        ·
          have c64 : (i 7296).toInt = (0 : Int32).toInt := kd_neF c; clear c
          refine fo_goS mi_k118 fz118_33_1_35 [.int (-11)] rfl ?_
          exact ft_ret mi_k118 (by rfl) (hP (-11) trivial)
      exact (oz1282 w15 w25 w35 w45 w5 w55 z2.1 z2.2).elim
    ·
      subst eg3
      first | refine ft_goS mi_k118 2 18 [.int (-1)] (by rfl) ?_ | refine ko_steps mi_in118 2 _ (18, [(0, .ref 0), (1, .int x1), (2, .int x2)], [.int (-1)], (0, 0), ks i a q r) (by rfl) ?_
      exact ft_ret mi_k118 (by rfl) (hP (-1) trivial)
  ·
    subst eg1
    first | refine ft_goS mi_k118 2 18 [.int (-1)] (by rfl) ?_ | refine ko_steps mi_in118 2 _ (18, [(0, .ref 0), (1, .int x1), (2, .int x2)], [.int (-1)], (0, 0), ks i a q r) (by rfl) ?_
    exact ft_ret mi_k118 (by rfl) (hP (-1) trivial)
set_option maxRecDepth 100000 in
theorem kc119_0 {i : Nat → Int32} {a : Nat → List Int32} {q : Nat → List Int64} {r : Nat → Nat} (hI : kI i a q) (hr : kr r) (x1 : Int32) : km 1 119 [.ref 0, .int x1] (ks i a q r) (kPI (ks i a q r) (fun v => True)) := by
  have hG := kG_self kW0 hI hr
  refine km_ofPI (q := (mi_h119, mi_c119)) rfl (by decide) (Nat.le_of_ble_eq_true rfl) ?_
  intro P hP
  refine ft_goL mi_k119 1 1 [(0, .ref 0), (1, .int x1)] [.int x1] (by rfl) ?_
  by_cases w1 : x1.toInt = 0
  ·
    refine ko_eq (x1 := (1, [(0, .ref 0), (1, .int x1)], [.int 0], (0, 0), ks i a q r)) (by rw [(kj_eq w1 (by decide) : x1 = 0)]) ?_
    refine ft_goS mi_k119 4 47 [.int (i 64)] (by rfl) ?_
    exact ft_ret mi_k119 (by rfl) (hP (i 64) trivial)
  by_cases w2 : x1.toInt = 1
  ·
    refine ko_eq (x1 := (1, [(0, .ref 0), (1, .int x1)], [.int 1], (0, 0), ks i a q r)) (by rw [(kj_eq w2 (by decide) : x1 = 1)]) ?_
    refine ft_goS mi_k119 5 58 [.int (i 450)] (by rfl) ?_
    exact ft_ret mi_k119 (by rfl) (hP (i 450) trivial)
  by_cases w3 : x1.toInt = 2
  ·
    refine ko_eq (x1 := (1, [(0, .ref 0), (1, .int x1)], [.int 2], (0, 0), ks i a q r)) (by rw [(kj_eq w3 (by decide) : x1 = 2)]) ?_
    refine ft_goS mi_k119 4 66 [.int (i 6273)] (by rfl) ?_
    exact ft_ret mi_k119 (by rfl) (hP (i 6273) trivial)
  by_cases w4 : x1.toInt = 3
  ·
    refine ko_eq (x1 := (1, [(0, .ref 0), (1, .int x1)], [.int 3], (0, 0), ks i a q r)) (by rw [(kj_eq w4 (by decide) : x1 = 3)]) ?_
    refine ft_goS mi_k119 4 74 [.int (i 5701)] (by rfl) ?_
    exact ft_ret mi_k119 (by rfl) (hP (i 5701) trivial)
  by_cases w5 : x1.toInt = 4
  ·
    refine ko_eq (x1 := (1, [(0, .ref 0), (1, .int x1)], [.int 4], (0, 0), ks i a q r)) (by rw [(kj_eq w5 (by decide) : x1 = 4)]) ?_
    refine ft_goS mi_k119 4 82 [.int (i 6017)] (by rfl) ?_
    exact ft_ret mi_k119 (by rfl) (hP (i 6017) trivial)
  by_cases w6 : x1.toInt = 5
  ·
    refine ko_eq (x1 := (1, [(0, .ref 0), (1, .int x1)], [.int 5], (0, 0), ks i a q r)) (by rw [(kj_eq w6 (by decide) : x1 = 5)]) ?_
    refine ft_goS mi_k119 4 90 [.int (i 6019)] (by rfl) ?_
    exact ft_ret mi_k119 (by rfl) (hP (i 6019) trivial)
  refine ko_sw (ls := [(0, .ref 0), (1, .int x1)]) (r := []) (h := ks i a q r) mi_in119 (v := x1) (i := (.tableswitch 90 0 5 #[39, 47, 58, 66, 74, 82], 39, 0, 0, 0, 0, 0)) (by rfl) rfl (oz660 w1 w2 w3 w4 w5 w6) 91 (by rfl) ?_
  refine ft_goS mi_k119 1 92 [.int (-1)] (by rfl) ?_
  exact ft_ret mi_k119 (by rfl) (hP (-1) trivial)
set_option maxRecDepth 100000 in
theorem kc43 (i : Nat → Int32) (a : Nat → List Int32) (q : Nat → List Int64) (r : Nat → Nat) (L : Nat) : km 1 43 [.ref 98, .ref L] (ks i a q r) (fun rv h1 => rv = some (.ref (r 2)) ∧ h1 = ks i a q (ku r 2 L)) := by
  refine km_of (q := (mi_h43, mi_c43)) rfl (by decide) (Nat.le_of_ble_eq_true rfl) ?_
  refine ko_steps mi_in43 7 _ (11, [(2, .ref (r 2)), (0, .ref 98), (1, .ref L)], [.ref (r 2)], (0, 0), ks i a q (ku r 2 L)) (by rfl) ?_
  exact ft_ret mi_k43 (by rfl) ⟨rfl, rfl⟩
set_option maxRecDepth 100000 in
theorem kc11_l00_l10 {i : Nat → Int32} {a : Nat → List Int32} {q : Nat → List Int64} {r : Nat → Nat} (hI : kI i a q) (hr : kr r)  : km 1 11 [.int 0, .int 0] (ks i a q r) (kPI (ks i a q r) (fun v => v.toInt = 0)) := by
  have hG := kG_self kW0 hI hr
  refine km_ofPI (q := (mi_h11, mi_c11)) rfl (by decide) (Nat.le_of_ble_eq_true rfl) ?_
  intro P hP
  first | refine ft_goL mi_k11 10 47 [(3, .int 0), (2, .int 0), (0, .int 0), (1, .int 0)] [.int 0] (by rfl) ?_
  exact ft_ret mi_k11 (by rfl) (hP 0 (oz236 kn0))
noncomputable def w14_94_l10_K0 : kW := ([], [], [], [])
set_option maxRecDepth 100000 in
theorem kc14_94_l10_K0 {i : Nat → Int32} {a : Nat → List Int32} {q : Nat → List Int64} {r : Nat → Nat} (hI : kI i a q) (hr : kr r) (x1 : Int32) (x3 : Int32) (x4 : Int32) (hp0 : ((0 : Int) ≤ x1.toInt) ∧ (x1.toInt ≤ 49)) (hp1 : ((a 95).getD x1.toNatClampNeg 0).toInt = 0) (hp2 : ((0 : Int) ≤ x4.toInt) ∧ ((x4.toInt + 0) ≤ 39)) (hp3 : ((0 : Int) ≤ (i 6019).toInt) ∧ (((i 6019).toInt + 0) ≤ 900)) : km 1 14 [.ref 94, .int x1, .int 0, .int x3, .int x4] (ks i a q r) (kVI w14_94_l10_K0 i a q r (fun v i1 a1 q1 r1 => (i1 6019).toInt = ((i 6019).toInt + 0))) := by
  have hG := kG_self w14_94_l10_K0 hI hr
  refine km_ofI (q := (mi_h14, mi_c14)) rfl (by decide) (Nat.le_of_ble_eq_true rfl) ?_
  intro P hP
  have r1 : ((0 : Int) ≤ ((a 95).getD x1.toNatClampNeg 0).toInt) ∧ (((a 95).getD x1.toNatClampNeg 0).toInt ≤ 7) := hG.I.2.2.1 95 (x1.toNatClampNeg)
  refine fo_goL mi_k14 fz14_0_3_5 [(0, .ref 94), (1, .int x1), (2, .int 0), (3, .int x3), (4, .int x4)] [.int x1, .ref 95] rfl ?_
  refine ko_iald3 mi_k14.1 (n := 50) (c := 50) (ax := (0, 0, 0, 0, 0)) (mi_k14.2 _ _ (by rfl)) (by rfl) (ksG95 _ _ _ _) (hG.I.2.1 95) rfl (oz3 hp0.1) (oz1336 hp0.2) ?_
  refine ko_top (kj_eq (oz1337 hp1 r1.1) (by decide) : ((a 95).getD x1.toNatClampNeg 0) = 0) ?_
  have b2 : ((-2147483648 : Int) ≤ x3.toInt) ∧ (x3.toInt ≤ 2147483647) := kd_bd x3
  have b3 : ((-2147483648 : Int) ≤ x1.toInt) ∧ (x1.toInt ≤ 2147483647) := kd_bd x1
  refine ft_goL mi_k14 6 39 [(5, .int 0), (0, .ref 94), (1, .int x1), (2, .int 0), (3, .int x3), (4, .int x4)] [.int (x3 + x1)] (by rfl) ?_
  exact ft_ret mi_k14 (by rfl) (hP (x3 + x1) _ _ _ _ hG oz1338)
noncomputable def w13_94_l10_l20_K0 : kW := ([6019], [96], [], [])
set_option maxRecDepth 100000 in
theorem kc13_94_l10_l20_K0 {i : Nat → Int32} {a : Nat → List Int32} {q : Nat → List Int64} {r : Nat → Nat} (hI : kI i a q) (hr : kr r) (x1 : Int32) (x4 : Int32) (x5 : Int32) (hp0 : ((0 : Int) ≤ x1.toInt) ∧ (x1.toInt ≤ 49)) (hp1 : ((a 95).getD x1.toNatClampNeg 0).toInt = 0) (hp2 : ((0 : Int) ≤ x5.toInt) ∧ ((x5.toInt + 1) ≤ 39)) (hp3 : ((0 : Int) ≤ (i 6019).toInt) ∧ (((i 6019).toInt + 1) ≤ 900)) : km 3 13 [.ref 94, .int x1, .int 0, .int 0, .int x4, .int x5] (ks i a q r) (kVI w13_94_l10_l20_K0 i a q r (fun v i1 a1 q1 r1 => (i1 6019).toInt = ((i 6019).toInt + 1))) := by
  have hG := kG_self w13_94_l10_l20_K0 hI hr
  refine km_ofI (q := (mi_h13, mi_c13)) rfl (by decide) (Nat.le_of_ble_eq_true rfl) ?_
  intro P hP
  have r1 : ((0 : Int) ≤ ((a 95).getD x1.toNatClampNeg 0).toInt) ∧ (((a 95).getD x1.toNatClampNeg 0).toInt ≤ 7) := hG.I.2.2.1 95 (x1.toNatClampNeg)
  have fi_6019 : ((0 : Int) ≤ (i 6019).toInt) ∧ ((i 6019).toInt ≤ 1000) := hG.I.1 6019
  refine fo_goL mi_k13 fz13_0_2_4 [(0, .ref 94), (1, .int x1), (2, .int 0), (3, .int 0), (4, .int x4), (5, .int x5)] [.int 40, .int x5] rfl ?_
  refine ft_ifS mi_k13 (decide (x5 < 40)) 9 7 [] (by rfl) (fun c => ?_) (fun c => ?_)
  ·
    have c2 : x5.toInt < (40 : Int32).toInt := kd_lt c; clear c
    refine fo_goS mi_k13 fz13_9_2_11 [.int 0, .int 0] rfl ?_
    refine ko_callPI mi_k13.1 (pc := 11) (ls := [(0, .ref 94), (1, .int x1), (2, .int 0), (3, .int 0), (4, .int x4), (5, .int x5)]) (st := [.int 0, .int 0]) (h := ks i a q r) (i := (.invokestatic 39, 3, 11, 0, 9, 0, 298)) (mi_k13.2 _ _ (by rfl)) (ft_invS mi_pq11 (by rfl)) (cy := mi_c11) mi_pq11 rfl (kc11_l00_l10 hG.I hG.R ) (by decide) ?_
    intro vg3 hg3
    have z4 : vg3.toInt = 0 := hg3
    have evvg3 := kj_eq (oz236 z4) (by decide : (0 : Int32).toInt = 0)
    subst evvg3
    refine ft_goL mi_k13 5 23 [(6, .int 0), (0, .ref 94), (1, .int x1), (2, .int 0), (3, .int 0), (4, .int x4), (5, .int x5)] [.int (0 * 4), .ref (mi_RO + 3)] (by rfl) ?_
    refine ko_top (by decide : (0 * 4 : Int32) = 0) ?_
    refine fo_goS mi_k13 fz13_23_2_25 [.int (0 + 0), .ref (mi_RO + 3)] rfl ?_
    refine ko_top (by decide : (0 + 0 : Int32) = 0) ?_
    refine ft_ro mi_k13 (w := 1) (by decide +kernel) (by decide +kernel) ?_
    refine fo_goL mi_k13 fz13_26_4_34 [(7, .int 1), (6, .int 0), (0, .ref 94), (1, .int x1), (2, .int 0), (3, .int 0), (4, .int x4), (5, .int x5)] [.int 24, .int (i 6019)] rfl ?_
    refine ft_ifS mi_k13 (decide (24 ≤ (i 6019))) 48 37 [] (by rfl) (fun c => ?_) (fun c => ?_)
    ·
      have c6 : (24 : Int32).toInt ≤ (i 6019).toInt := kd_le c; clear c
      have s7 : ((i 6019) + 1).toInt = (i 6019).toInt + (1 : Int32).toInt := kd_add (oz1332 c6 kn24 kn1) (oz951 fi_6019.2 kn1)
      have hJ8 := kG_i hG 6019 rfl (v := ((i 6019) + 1)) ⟨(oz1333 c6 s7 kn24 kn1), (oz1334 hp3.2 s7 kn1)⟩
      have s9 : (x5 + 1).toInt = x5.toInt + (1 : Int32).toInt := kd_add (oz12 hp2.1 kn1) (oz1335 hp2.2 kn1)
      first | refine fo_goI mi_k13 fz13_48_15_72 [.int (x5 + 1), .int x4, .int 0, .int x1, .ref 94] (ku i 6019 ((i 6019) + 1)) (by rfl) ?_ | refine ft_go mi_k13 15 72 [(7, .int 1), (6, .int 0), (0, .ref 94), (1, .int x1), (2, .int 0), (3, .int 0), (4, .int x4), (5, .int x5)] [.int (x5 + 1), .int x4, .int 0, .int x1, .ref 94] (ku i 6019 ((i 6019) + 1)) a q r (by rfl) ?_
      refine ko_callI mi_k13.1 (pc := 72) (ls := [(7, .int 1), (6, .int 0), (0, .ref 94), (1, .int x1), (2, .int 0), (3, .int 0), (4, .int x4), (5, .int x5)]) (st := [.int (x5 + 1), .int x4, .int 0, .int x1, .ref 94]) (h := ks (ku i 6019 ((i 6019) + 1)) a q r) (i := (.invokevirtual 43, 3, 14, 0, 9, 0, 301)) (mi_k13.2 _ _ (by rfl)) (ft_invS mi_pq14 (by rfl)) (cy := mi_c14) mi_pq14 rfl (kc14_94_l10_K0 hJ8.I hJ8.R x1 x4 (x5 + 1) (oz1339 hp0.1 hp0.2) (oz1337 hp1 r1.1) (oz1340 hp2.1 hp2.2 s9 kn1) (oz1341 c6 hp3.2 s7 kn24 kn1)) (by decide) ?_
      intro vg10 ig10 ag10 qg10 rg10 kg10 hg10
      have hGg10 := kG_call hJ8 kg10 (by decide +kernel)
      have efig10_6019 : (ig10 6019).toInt = ((i 6019) + 1).toInt := kg10.ti 6019 rfl
      exact ft_ret mi_k13 (by rfl) (hP vg10 _ _ _ _ hGg10 (oz1342 efig10_6019 s7 kn1))
    ·
      have c12 : (i 6019).toInt < (24 : Int32).toInt := kd_leF c; clear c
      refine fo_goS mi_k13 fz13_37_5_47 [.int 1, .int (i 6019), .ref 96] rfl ?_
      refine ko_iast3 mi_k13.1 (n := 24) (c := 24) (ax := (0, 0, 0, 0, 0)) (mi_k13.2 _ _ (by rfl)) (by rfl) (ksG96 _ _ _ _) (ksA96 _ _ _ _) (hG.I.2.1 96) rfl (oz3 fi_6019.1) (oz1343 c12 kn24) ?_
      intro a13 ea13 fa13
      have hJ13 := kG_a3 hG 96 rfl ea13 fa13 (kd_bd _)
      have s14 : ((i 6019) + 1).toInt = (i 6019).toInt + (1 : Int32).toInt := kd_add (oz12 fi_6019.1 kn1) (oz951 fi_6019.2 kn1)
      have hJ15 := kG_i hJ13 6019 rfl (v := ((i 6019) + 1)) ⟨(oz14 fi_6019.1 s14 kn1), (oz1334 hp3.2 s14 kn1)⟩
      have s16 : (x5 + 1).toInt = x5.toInt + (1 : Int32).toInt := kd_add (oz12 hp2.1 kn1) (oz1335 hp2.2 kn1)
      first | refine fo_goI mi_k13 fz13_48_15_72 [.int (x5 + 1), .int x4, .int 0, .int x1, .ref 94] (ku i 6019 ((i 6019) + 1)) (by rfl) ?_ | refine ft_go mi_k13 15 72 [(7, .int 1), (6, .int 0), (0, .ref 94), (1, .int x1), (2, .int 0), (3, .int 0), (4, .int x4), (5, .int x5)] [.int (x5 + 1), .int x4, .int 0, .int x1, .ref 94] (ku i 6019 ((i 6019) + 1)) a13 q r (by rfl) ?_
      have r17 : ((0 : Int) ≤ ((a13 95).getD x1.toNatClampNeg 0).toInt) ∧ (((a13 95).getD x1.toNatClampNeg 0).toInt ≤ 7) := hJ15.I.2.2.1 95 (x1.toNatClampNeg)
      have u18 : ((a13 95).getD x1.toNatClampNeg 0).toInt = ((a 95).getD x1.toNatClampNeg 0).toInt := congrArg (fun z : List Int32 => (z.getD x1.toNatClampNeg 0).toInt) (fa13 95 (by decide))
      refine ko_callI mi_k13.1 (pc := 72) (ls := [(7, .int 1), (6, .int 0), (0, .ref 94), (1, .int x1), (2, .int 0), (3, .int 0), (4, .int x4), (5, .int x5)]) (st := [.int (x5 + 1), .int x4, .int 0, .int x1, .ref 94]) (h := ks (ku i 6019 ((i 6019) + 1)) a13 q r) (i := (.invokevirtual 43, 3, 14, 0, 9, 0, 301)) (mi_k13.2 _ _ (by rfl)) (ft_invS mi_pq14 (by rfl)) (cy := mi_c14) mi_pq14 rfl (kc14_94_l10_K0 hJ15.I hJ15.R x1 x4 (x5 + 1) (oz1339 hp0.1 hp0.2) (oz1344 hp1 r17.1 u18) (oz1340 hp2.1 hp2.2 s16 kn1) (oz1345 fi_6019.1 hp3.2 s14 kn1)) (by decide) ?_
      intro vg19 ig19 ag19 qg19 rg19 kg19 hg19
      have hGg19 := kG_call hJ15 kg19 (by decide +kernel)
      have efig19_6019 : (ig19 6019).toInt = ((i 6019) + 1).toInt := kg19.ti 6019 rfl
      exact ft_ret mi_k13 (by rfl) (hP vg19 _ _ _ _ hGg19 (oz1342 efig19_6019 s14 kn1))
  ·
    have c21 : (40 : Int32).toInt ≤ x5.toInt := kd_ltF c; clear c
    exact (oz1346 c21 hp2.2 kn40).elim
set_option maxRecDepth 100000 in
theorem kc11_l00_l11 {i : Nat → Int32} {a : Nat → List Int32} {q : Nat → List Int64} {r : Nat → Nat} (hI : kI i a q) (hr : kr r)  : km 1 11 [.int 0, .int 1] (ks i a q r) (kPI (ks i a q r) (fun v => v.toInt = 0)) := by
  have hG := kG_self kW0 hI hr
  refine km_ofPI (q := (mi_h11, mi_c11)) rfl (by decide) (Nat.le_of_ble_eq_true rfl) ?_
  intro P hP
  first | refine ft_goL mi_k11 10 47 [(3, .int 0), (2, .int 0), (0, .int 0), (1, .int 1)] [.int 0] (by rfl) ?_
  exact ft_ret mi_k11 (by rfl) (hP 0 (oz236 kn0))
noncomputable def w14_94_l11_K0 : kW := ([6019], [96], [], [])
set_option maxRecDepth 100000 in
theorem kc14_94_l11_K0 {i : Nat → Int32} {a : Nat → List Int32} {q : Nat → List Int64} {r : Nat → Nat} (hI : kI i a q) (hr : kr r) (x1 : Int32) (x3 : Int32) (x4 : Int32) (hp0 : ((0 : Int) ≤ x1.toInt) ∧ (x1.toInt ≤ 49)) (hp1 : ((a 95).getD x1.toNatClampNeg 0).toInt = 0) (hp2 : ((0 : Int) ≤ x4.toInt) ∧ ((x4.toInt + 1) ≤ 39)) (hp3 : ((0 : Int) ≤ (i 6019).toInt) ∧ (((i 6019).toInt + 1) ≤ 900)) : km 5 14 [.ref 94, .int x1, .int 1, .int x3, .int x4] (ks i a q r) (kVI w14_94_l11_K0 i a q r (fun v i1 a1 q1 r1 => (i1 6019).toInt = ((i 6019).toInt + 1))) := by
  have hG := kG_self w14_94_l11_K0 hI hr
  refine km_ofI (q := (mi_h14, mi_c14)) rfl (by decide) (Nat.le_of_ble_eq_true rfl) ?_
  intro P hP
  have r1 : ((0 : Int) ≤ ((a 95).getD x1.toNatClampNeg 0).toInt) ∧ (((a 95).getD x1.toNatClampNeg 0).toInt ≤ 7) := hG.I.2.2.1 95 (x1.toNatClampNeg)
  have fi_6019 : ((0 : Int) ≤ (i 6019).toInt) ∧ ((i 6019).toInt ≤ 1000) := hG.I.1 6019
  refine fo_goL mi_k14 fz14_0_3_5 [(0, .ref 94), (1, .int x1), (2, .int 1), (3, .int x3), (4, .int x4)] [.int x1, .ref 95] rfl ?_
  refine ko_iald3 mi_k14.1 (n := 50) (c := 50) (ax := (0, 0, 0, 0, 0)) (mi_k14.2 _ _ (by rfl)) (by rfl) (ksG95 _ _ _ _) (hG.I.2.1 95) rfl (oz3 hp0.1) (oz1336 hp0.2) ?_
  refine ko_top (kj_eq (oz1337 hp1 r1.1) (by decide) : ((a 95).getD x1.toNatClampNeg 0) = 0) ?_
  refine ft_goL mi_k14 9 48 [(5, .int 0), (0, .ref 94), (1, .int x1), (2, .int 1), (3, .int x3), (4, .int x4)] [.int x4, .int x3, .int 0, .int 0, .int x1, .ref 94] (by rfl) ?_
  refine ko_callI mi_k14.1 (pc := 48) (ls := [(5, .int 0), (0, .ref 94), (1, .int x1), (2, .int 1), (3, .int x3), (4, .int x4)]) (st := [.int x4, .int x3, .int 0, .int 0, .int x1, .ref 94]) (h := ks i a q r) (i := (.invokevirtual 35, 3, 13, 0, 9, 0, 297)) (mi_k14.2 _ _ (by rfl)) (ft_invS mi_pq13 (by rfl)) (cy := mi_c13) mi_pq13 rfl (kc13_94_l10_l20_K0 hG.I hG.R x1 x3 x4 (oz1339 hp0.1 hp0.2) (oz1337 hp1 r1.1) (oz1353 hp2.1 hp2.2) (oz1354 fi_6019.1 hp3.2)) (by decide) ?_
  intro vg2 ig2 ag2 qg2 rg2 kg2 hg2
  have hGg2 := kG_call hG kg2 (by decide +kernel)
  have z3 : (ig2 6019).toInt = ((i 6019).toInt + 1) := hg2
  have b4 : ((-2147483648 : Int) ≤ vg2.toInt) ∧ (vg2.toInt ≤ 2147483647) := kd_bd vg2
  refine fo_goS mi_k14 fz14_51_2_53 [.int (vg2 * 2)] rfl ?_
  exact ft_ret mi_k14 (by rfl) (hP (vg2 * 2) _ _ _ _ hGg2 (oz1355 z3))
noncomputable def w13_94_l10_l21_K0 : kW := ([6019], [96], [], [])
set_option maxRecDepth 100000 in
theorem kc13_94_l10_l21_K0 {i : Nat → Int32} {a : Nat → List Int32} {q : Nat → List Int64} {r : Nat → Nat} (hI : kI i a q) (hr : kr r) (x1 : Int32) (x4 : Int32) (x5 : Int32) (hp0 : ((0 : Int) ≤ x1.toInt) ∧ (x1.toInt ≤ 49)) (hp1 : ((a 95).getD x1.toNatClampNeg 0).toInt = 0) (hp2 : ((0 : Int) ≤ x5.toInt) ∧ ((x5.toInt + 2) ≤ 39)) (hp3 : ((0 : Int) ≤ (i 6019).toInt) ∧ (((i 6019).toInt + 2) ≤ 900)) : km 7 13 [.ref 94, .int x1, .int 0, .int 1, .int x4, .int x5] (ks i a q r) (kVI w13_94_l10_l21_K0 i a q r (fun v i1 a1 q1 r1 => (i1 6019).toInt = ((i 6019).toInt + 2))) := by
  have hG := kG_self w13_94_l10_l21_K0 hI hr
  refine km_ofI (q := (mi_h13, mi_c13)) rfl (by decide) (Nat.le_of_ble_eq_true rfl) ?_
  intro P hP
  have r1 : ((0 : Int) ≤ ((a 95).getD x1.toNatClampNeg 0).toInt) ∧ (((a 95).getD x1.toNatClampNeg 0).toInt ≤ 7) := hG.I.2.2.1 95 (x1.toNatClampNeg)
  have fi_6019 : ((0 : Int) ≤ (i 6019).toInt) ∧ ((i 6019).toInt ≤ 1000) := hG.I.1 6019
  refine fo_goL mi_k13 fz13_0_2_4 [(0, .ref 94), (1, .int x1), (2, .int 0), (3, .int 1), (4, .int x4), (5, .int x5)] [.int 40, .int x5] rfl ?_
  refine ft_ifS mi_k13 (decide (x5 < 40)) 9 7 [] (by rfl) (fun c => ?_) (fun c => ?_)
  ·
    have c2 : x5.toInt < (40 : Int32).toInt := kd_lt c; clear c
    refine fo_goS mi_k13 fz13_9_2_11 [.int 1, .int 0] rfl ?_
    refine ko_callPI mi_k13.1 (pc := 11) (ls := [(0, .ref 94), (1, .int x1), (2, .int 0), (3, .int 1), (4, .int x4), (5, .int x5)]) (st := [.int 1, .int 0]) (h := ks i a q r) (i := (.invokestatic 39, 3, 11, 0, 9, 0, 298)) (mi_k13.2 _ _ (by rfl)) (ft_invS mi_pq11 (by rfl)) (cy := mi_c11) mi_pq11 rfl (kc11_l00_l11 hG.I hG.R ) (by decide) ?_
    intro vg3 hg3
    have z4 : vg3.toInt = 0 := hg3
    have evvg3 := kj_eq (oz236 z4) (by decide : (0 : Int32).toInt = 0)
    subst evvg3
    refine ft_goL mi_k13 5 23 [(6, .int 0), (0, .ref 94), (1, .int x1), (2, .int 0), (3, .int 1), (4, .int x4), (5, .int x5)] [.int (0 * 4), .ref (mi_RO + 3)] (by rfl) ?_
    refine ko_top (by decide : (0 * 4 : Int32) = 0) ?_
    refine fo_goS mi_k13 fz13_23_2_25 [.int (0 + 1), .ref (mi_RO + 3)] rfl ?_
    refine ko_top (by decide : (0 + 1 : Int32) = 1) ?_
    refine ft_ro mi_k13 (w := 10) (by decide +kernel) (by decide +kernel) ?_
    refine fo_goL mi_k13 fz13_26_4_34 [(7, .int 10), (6, .int 0), (0, .ref 94), (1, .int x1), (2, .int 0), (3, .int 1), (4, .int x4), (5, .int x5)] [.int 24, .int (i 6019)] rfl ?_
    refine ft_ifS mi_k13 (decide (24 ≤ (i 6019))) 48 37 [] (by rfl) (fun c => ?_) (fun c => ?_)
    ·
      have c6 : (24 : Int32).toInt ≤ (i 6019).toInt := kd_le c; clear c
      have s7 : ((i 6019) + 1).toInt = (i 6019).toInt + (1 : Int32).toInt := kd_add (oz1332 c6 kn24 kn1) (oz951 fi_6019.2 kn1)
      have hJ8 := kG_i hG 6019 rfl (v := ((i 6019) + 1)) ⟨(oz1333 c6 s7 kn24 kn1), (oz1351 hp3.2 s7 kn1)⟩
      have s9 : (x5 + 1).toInt = x5.toInt + (1 : Int32).toInt := kd_add (oz12 hp2.1 kn1) (oz1352 hp2.2 kn1)
      first | refine fo_goI mi_k13 fz13_48_15_72 [.int (x5 + 1), .int x4, .int 1, .int x1, .ref 94] (ku i 6019 ((i 6019) + 1)) (by rfl) ?_ | refine ft_go mi_k13 15 72 [(7, .int 10), (6, .int 0), (0, .ref 94), (1, .int x1), (2, .int 0), (3, .int 1), (4, .int x4), (5, .int x5)] [.int (x5 + 1), .int x4, .int 1, .int x1, .ref 94] (ku i 6019 ((i 6019) + 1)) a q r (by rfl) ?_
      refine ko_callI mi_k13.1 (pc := 72) (ls := [(7, .int 10), (6, .int 0), (0, .ref 94), (1, .int x1), (2, .int 0), (3, .int 1), (4, .int x4), (5, .int x5)]) (st := [.int (x5 + 1), .int x4, .int 1, .int x1, .ref 94]) (h := ks (ku i 6019 ((i 6019) + 1)) a q r) (i := (.invokevirtual 43, 3, 14, 0, 9, 0, 301)) (mi_k13.2 _ _ (by rfl)) (ft_invS mi_pq14 (by rfl)) (cy := mi_c14) mi_pq14 rfl (kc14_94_l11_K0 hJ8.I hJ8.R x1 x4 (x5 + 1) (oz1339 hp0.1 hp0.2) (oz1337 hp1 r1.1) (oz1356 hp2.1 hp2.2 s9 kn1) (oz1357 c6 hp3.2 s7 kn24 kn1)) (by decide) ?_
      intro vg10 ig10 ag10 qg10 rg10 kg10 hg10
      have hGg10 := kG_call hJ8 kg10 (by decide +kernel)
      have z11 : (ig10 6019).toInt = (((i 6019) + 1).toInt + 1) := hg10
      exact ft_ret mi_k13 (by rfl) (hP vg10 _ _ _ _ hGg10 (oz1358 s7 z11 kn1))
    ·
      have c12 : (i 6019).toInt < (24 : Int32).toInt := kd_leF c; clear c
      refine fo_goS mi_k13 fz13_37_5_47 [.int 10, .int (i 6019), .ref 96] rfl ?_
      refine ko_iast3 mi_k13.1 (n := 24) (c := 24) (ax := (0, 0, 0, 0, 0)) (mi_k13.2 _ _ (by rfl)) (by rfl) (ksG96 _ _ _ _) (ksA96 _ _ _ _) (hG.I.2.1 96) rfl (oz3 fi_6019.1) (oz1343 c12 kn24) ?_
      intro a13 ea13 fa13
      have hJ13 := kG_a3 hG 96 rfl ea13 fa13 (kd_bd _)
      have s14 : ((i 6019) + 1).toInt = (i 6019).toInt + (1 : Int32).toInt := kd_add (oz12 fi_6019.1 kn1) (oz951 fi_6019.2 kn1)
      have hJ15 := kG_i hJ13 6019 rfl (v := ((i 6019) + 1)) ⟨(oz14 fi_6019.1 s14 kn1), (oz1351 hp3.2 s14 kn1)⟩
      have s16 : (x5 + 1).toInt = x5.toInt + (1 : Int32).toInt := kd_add (oz12 hp2.1 kn1) (oz1352 hp2.2 kn1)
      first | refine fo_goI mi_k13 fz13_48_15_72 [.int (x5 + 1), .int x4, .int 1, .int x1, .ref 94] (ku i 6019 ((i 6019) + 1)) (by rfl) ?_ | refine ft_go mi_k13 15 72 [(7, .int 10), (6, .int 0), (0, .ref 94), (1, .int x1), (2, .int 0), (3, .int 1), (4, .int x4), (5, .int x5)] [.int (x5 + 1), .int x4, .int 1, .int x1, .ref 94] (ku i 6019 ((i 6019) + 1)) a13 q r (by rfl) ?_
      have r17 : ((0 : Int) ≤ ((a13 95).getD x1.toNatClampNeg 0).toInt) ∧ (((a13 95).getD x1.toNatClampNeg 0).toInt ≤ 7) := hJ15.I.2.2.1 95 (x1.toNatClampNeg)
      have u18 : ((a13 95).getD x1.toNatClampNeg 0).toInt = ((a 95).getD x1.toNatClampNeg 0).toInt := congrArg (fun z : List Int32 => (z.getD x1.toNatClampNeg 0).toInt) (fa13 95 (by decide))
      refine ko_callI mi_k13.1 (pc := 72) (ls := [(7, .int 10), (6, .int 0), (0, .ref 94), (1, .int x1), (2, .int 0), (3, .int 1), (4, .int x4), (5, .int x5)]) (st := [.int (x5 + 1), .int x4, .int 1, .int x1, .ref 94]) (h := ks (ku i 6019 ((i 6019) + 1)) a13 q r) (i := (.invokevirtual 43, 3, 14, 0, 9, 0, 301)) (mi_k13.2 _ _ (by rfl)) (ft_invS mi_pq14 (by rfl)) (cy := mi_c14) mi_pq14 rfl (kc14_94_l11_K0 hJ15.I hJ15.R x1 x4 (x5 + 1) (oz1339 hp0.1 hp0.2) (oz1344 hp1 r17.1 u18) (oz1356 hp2.1 hp2.2 s16 kn1) (oz1359 fi_6019.1 hp3.2 s14 kn1)) (by decide) ?_
      intro vg19 ig19 ag19 qg19 rg19 kg19 hg19
      have hGg19 := kG_call hJ15 kg19 (by decide +kernel)
      have z20 : (ig19 6019).toInt = (((i 6019) + 1).toInt + 1) := hg19
      exact ft_ret mi_k13 (by rfl) (hP vg19 _ _ _ _ hGg19 (oz1358 s14 z20 kn1))
  ·
    have c21 : (40 : Int32).toInt ≤ x5.toInt := kd_ltF c; clear c
    exact (oz1360 c21 hp2.2 kn40).elim
set_option maxRecDepth 100000 in
theorem kc11_l00_l12 {i : Nat → Int32} {a : Nat → List Int32} {q : Nat → List Int64} {r : Nat → Nat} (hI : kI i a q) (hr : kr r)  : km 1 11 [.int 0, .int 2] (ks i a q r) (kPI (ks i a q r) (fun v => v.toInt = 0)) := by
  have hG := kG_self kW0 hI hr
  refine km_ofPI (q := (mi_h11, mi_c11)) rfl (by decide) (Nat.le_of_ble_eq_true rfl) ?_
  intro P hP
  first | refine ft_goL mi_k11 10 47 [(3, .int 0), (2, .int 0), (0, .int 0), (1, .int 2)] [.int 0] (by rfl) ?_
  exact ft_ret mi_k11 (by rfl) (hP 0 (oz236 kn0))
noncomputable def w14_94_l12_K0 : kW := ([], [], [], [])
set_option maxRecDepth 100000 in
theorem kc14_94_l12_K0 {i : Nat → Int32} {a : Nat → List Int32} {q : Nat → List Int64} {r : Nat → Nat} (hI : kI i a q) (hr : kr r) (x1 : Int32) (x3 : Int32) (x4 : Int32) (hp0 : ((0 : Int) ≤ x1.toInt) ∧ (x1.toInt ≤ 49)) (hp1 : ((a 95).getD x1.toNatClampNeg 0).toInt = 0) (hp2 : ((0 : Int) ≤ x4.toInt) ∧ ((x4.toInt + 0) ≤ 39)) (hp3 : ((0 : Int) ≤ (i 6019).toInt) ∧ (((i 6019).toInt + 0) ≤ 900)) : km 1 14 [.ref 94, .int x1, .int 2, .int x3, .int x4] (ks i a q r) (kVI w14_94_l12_K0 i a q r (fun v i1 a1 q1 r1 => (i1 6019).toInt = ((i 6019).toInt + 0))) := by
  have hG := kG_self w14_94_l12_K0 hI hr
  refine km_ofI (q := (mi_h14, mi_c14)) rfl (by decide) (Nat.le_of_ble_eq_true rfl) ?_
  intro P hP
  have r1 : ((0 : Int) ≤ ((a 95).getD x1.toNatClampNeg 0).toInt) ∧ (((a 95).getD x1.toNatClampNeg 0).toInt ≤ 7) := hG.I.2.2.1 95 (x1.toNatClampNeg)
  refine fo_goL mi_k14 fz14_0_3_5 [(0, .ref 94), (1, .int x1), (2, .int 2), (3, .int x3), (4, .int x4)] [.int x1, .ref 95] rfl ?_
  refine ko_iald3 mi_k14.1 (n := 50) (c := 50) (ax := (0, 0, 0, 0, 0)) (mi_k14.2 _ _ (by rfl)) (by rfl) (ksG95 _ _ _ _) (hG.I.2.1 95) rfl (oz3 hp0.1) (oz1336 hp0.2) ?_
  refine ko_top (kj_eq (oz1337 hp1 r1.1) (by decide) : ((a 95).getD x1.toNatClampNeg 0) = 0) ?_
  refine ft_goL mi_k14 6 57 [(5, .int 0), (0, .ref 94), (1, .int x1), (2, .int 2), (3, .int x3), (4, .int x4)] [.int (x3 ^^^ x1)] (by rfl) ?_
  exact ft_ret mi_k14 (by rfl) (hP (x3 ^^^ x1) _ _ _ _ hG oz1338)
noncomputable def w13_94_l10_l22_K0 : kW := ([6019], [96], [], [])
set_option maxRecDepth 100000 in
theorem kc13_94_l10_l22_K0 {i : Nat → Int32} {a : Nat → List Int32} {q : Nat → List Int64} {r : Nat → Nat} (hI : kI i a q) (hr : kr r) (x1 : Int32) (x4 : Int32) (x5 : Int32) (hp0 : ((0 : Int) ≤ x1.toInt) ∧ (x1.toInt ≤ 49)) (hp1 : ((a 95).getD x1.toNatClampNeg 0).toInt = 0) (hp2 : ((0 : Int) ≤ x5.toInt) ∧ ((x5.toInt + 1) ≤ 39)) (hp3 : ((0 : Int) ≤ (i 6019).toInt) ∧ (((i 6019).toInt + 1) ≤ 900)) : km 3 13 [.ref 94, .int x1, .int 0, .int 2, .int x4, .int x5] (ks i a q r) (kVI w13_94_l10_l22_K0 i a q r (fun v i1 a1 q1 r1 => (i1 6019).toInt = ((i 6019).toInt + 1))) := by
  have hG := kG_self w13_94_l10_l22_K0 hI hr
  refine km_ofI (q := (mi_h13, mi_c13)) rfl (by decide) (Nat.le_of_ble_eq_true rfl) ?_
  intro P hP
  have r1 : ((0 : Int) ≤ ((a 95).getD x1.toNatClampNeg 0).toInt) ∧ (((a 95).getD x1.toNatClampNeg 0).toInt ≤ 7) := hG.I.2.2.1 95 (x1.toNatClampNeg)
  have fi_6019 : ((0 : Int) ≤ (i 6019).toInt) ∧ ((i 6019).toInt ≤ 1000) := hG.I.1 6019
  refine fo_goL mi_k13 fz13_0_2_4 [(0, .ref 94), (1, .int x1), (2, .int 0), (3, .int 2), (4, .int x4), (5, .int x5)] [.int 40, .int x5] rfl ?_
  refine ft_ifS mi_k13 (decide (x5 < 40)) 9 7 [] (by rfl) (fun c => ?_) (fun c => ?_)
  ·
    have c2 : x5.toInt < (40 : Int32).toInt := kd_lt c; clear c
    refine fo_goS mi_k13 fz13_9_2_11 [.int 2, .int 0] rfl ?_
    refine ko_callPI mi_k13.1 (pc := 11) (ls := [(0, .ref 94), (1, .int x1), (2, .int 0), (3, .int 2), (4, .int x4), (5, .int x5)]) (st := [.int 2, .int 0]) (h := ks i a q r) (i := (.invokestatic 39, 3, 11, 0, 9, 0, 298)) (mi_k13.2 _ _ (by rfl)) (ft_invS mi_pq11 (by rfl)) (cy := mi_c11) mi_pq11 rfl (kc11_l00_l12 hG.I hG.R ) (by decide) ?_
    intro vg3 hg3
    have z4 : vg3.toInt = 0 := hg3
    have evvg3 := kj_eq (oz236 z4) (by decide : (0 : Int32).toInt = 0)
    subst evvg3
    refine ft_goL mi_k13 5 23 [(6, .int 0), (0, .ref 94), (1, .int x1), (2, .int 0), (3, .int 2), (4, .int x4), (5, .int x5)] [.int (0 * 4), .ref (mi_RO + 3)] (by rfl) ?_
    refine ko_top (by decide : (0 * 4 : Int32) = 0) ?_
    refine fo_goS mi_k13 fz13_23_2_25 [.int (0 + 2), .ref (mi_RO + 3)] rfl ?_
    refine ko_top (by decide : (0 + 2 : Int32) = 2) ?_
    refine ft_ro mi_k13 (w := 11) (by decide +kernel) (by decide +kernel) ?_
    refine fo_goL mi_k13 fz13_26_4_34 [(7, .int 11), (6, .int 0), (0, .ref 94), (1, .int x1), (2, .int 0), (3, .int 2), (4, .int x4), (5, .int x5)] [.int 24, .int (i 6019)] rfl ?_
    refine ft_ifS mi_k13 (decide (24 ≤ (i 6019))) 48 37 [] (by rfl) (fun c => ?_) (fun c => ?_)
    ·
      have c6 : (24 : Int32).toInt ≤ (i 6019).toInt := kd_le c; clear c
      have s7 : ((i 6019) + 1).toInt = (i 6019).toInt + (1 : Int32).toInt := kd_add (oz1332 c6 kn24 kn1) (oz951 fi_6019.2 kn1)
      have hJ8 := kG_i hG 6019 rfl (v := ((i 6019) + 1)) ⟨(oz1333 c6 s7 kn24 kn1), (oz1334 hp3.2 s7 kn1)⟩
      have s9 : (x5 + 1).toInt = x5.toInt + (1 : Int32).toInt := kd_add (oz12 hp2.1 kn1) (oz1335 hp2.2 kn1)
      first | refine fo_goI mi_k13 fz13_48_15_72 [.int (x5 + 1), .int x4, .int 2, .int x1, .ref 94] (ku i 6019 ((i 6019) + 1)) (by rfl) ?_ | refine ft_go mi_k13 15 72 [(7, .int 11), (6, .int 0), (0, .ref 94), (1, .int x1), (2, .int 0), (3, .int 2), (4, .int x4), (5, .int x5)] [.int (x5 + 1), .int x4, .int 2, .int x1, .ref 94] (ku i 6019 ((i 6019) + 1)) a q r (by rfl) ?_
      refine ko_callI mi_k13.1 (pc := 72) (ls := [(7, .int 11), (6, .int 0), (0, .ref 94), (1, .int x1), (2, .int 0), (3, .int 2), (4, .int x4), (5, .int x5)]) (st := [.int (x5 + 1), .int x4, .int 2, .int x1, .ref 94]) (h := ks (ku i 6019 ((i 6019) + 1)) a q r) (i := (.invokevirtual 43, 3, 14, 0, 9, 0, 301)) (mi_k13.2 _ _ (by rfl)) (ft_invS mi_pq14 (by rfl)) (cy := mi_c14) mi_pq14 rfl (kc14_94_l12_K0 hJ8.I hJ8.R x1 x4 (x5 + 1) (oz1339 hp0.1 hp0.2) (oz1337 hp1 r1.1) (oz1340 hp2.1 hp2.2 s9 kn1) (oz1341 c6 hp3.2 s7 kn24 kn1)) (by decide) ?_
      intro vg10 ig10 ag10 qg10 rg10 kg10 hg10
      have hGg10 := kG_call hJ8 kg10 (by decide +kernel)
      have efig10_6019 : (ig10 6019).toInt = ((i 6019) + 1).toInt := kg10.ti 6019 rfl
      exact ft_ret mi_k13 (by rfl) (hP vg10 _ _ _ _ hGg10 (oz1342 efig10_6019 s7 kn1))
    ·
      have c12 : (i 6019).toInt < (24 : Int32).toInt := kd_leF c; clear c
      refine fo_goS mi_k13 fz13_37_5_47 [.int 11, .int (i 6019), .ref 96] rfl ?_
      refine ko_iast3 mi_k13.1 (n := 24) (c := 24) (ax := (0, 0, 0, 0, 0)) (mi_k13.2 _ _ (by rfl)) (by rfl) (ksG96 _ _ _ _) (ksA96 _ _ _ _) (hG.I.2.1 96) rfl (oz3 fi_6019.1) (oz1343 c12 kn24) ?_
      intro a13 ea13 fa13
      have hJ13 := kG_a3 hG 96 rfl ea13 fa13 (kd_bd _)
      have s14 : ((i 6019) + 1).toInt = (i 6019).toInt + (1 : Int32).toInt := kd_add (oz12 fi_6019.1 kn1) (oz951 fi_6019.2 kn1)
      have hJ15 := kG_i hJ13 6019 rfl (v := ((i 6019) + 1)) ⟨(oz14 fi_6019.1 s14 kn1), (oz1334 hp3.2 s14 kn1)⟩
      have s16 : (x5 + 1).toInt = x5.toInt + (1 : Int32).toInt := kd_add (oz12 hp2.1 kn1) (oz1335 hp2.2 kn1)
      first | refine fo_goI mi_k13 fz13_48_15_72 [.int (x5 + 1), .int x4, .int 2, .int x1, .ref 94] (ku i 6019 ((i 6019) + 1)) (by rfl) ?_ | refine ft_go mi_k13 15 72 [(7, .int 11), (6, .int 0), (0, .ref 94), (1, .int x1), (2, .int 0), (3, .int 2), (4, .int x4), (5, .int x5)] [.int (x5 + 1), .int x4, .int 2, .int x1, .ref 94] (ku i 6019 ((i 6019) + 1)) a13 q r (by rfl) ?_
      have r17 : ((0 : Int) ≤ ((a13 95).getD x1.toNatClampNeg 0).toInt) ∧ (((a13 95).getD x1.toNatClampNeg 0).toInt ≤ 7) := hJ15.I.2.2.1 95 (x1.toNatClampNeg)
      have u18 : ((a13 95).getD x1.toNatClampNeg 0).toInt = ((a 95).getD x1.toNatClampNeg 0).toInt := congrArg (fun z : List Int32 => (z.getD x1.toNatClampNeg 0).toInt) (fa13 95 (by decide))
      refine ko_callI mi_k13.1 (pc := 72) (ls := [(7, .int 11), (6, .int 0), (0, .ref 94), (1, .int x1), (2, .int 0), (3, .int 2), (4, .int x4), (5, .int x5)]) (st := [.int (x5 + 1), .int x4, .int 2, .int x1, .ref 94]) (h := ks (ku i 6019 ((i 6019) + 1)) a13 q r) (i := (.invokevirtual 43, 3, 14, 0, 9, 0, 301)) (mi_k13.2 _ _ (by rfl)) (ft_invS mi_pq14 (by rfl)) (cy := mi_c14) mi_pq14 rfl (kc14_94_l12_K0 hJ15.I hJ15.R x1 x4 (x5 + 1) (oz1339 hp0.1 hp0.2) (oz1344 hp1 r17.1 u18) (oz1340 hp2.1 hp2.2 s16 kn1) (oz1345 fi_6019.1 hp3.2 s14 kn1)) (by decide) ?_
      intro vg19 ig19 ag19 qg19 rg19 kg19 hg19
      have hGg19 := kG_call hJ15 kg19 (by decide +kernel)
      have efig19_6019 : (ig19 6019).toInt = ((i 6019) + 1).toInt := kg19.ti 6019 rfl
      exact ft_ret mi_k13 (by rfl) (hP vg19 _ _ _ _ hGg19 (oz1342 efig19_6019 s14 kn1))
  ·
    have c21 : (40 : Int32).toInt ≤ x5.toInt := kd_ltF c; clear c
    exact (oz1346 c21 hp2.2 kn40).elim
set_option maxRecDepth 100000 in
theorem kc11_l00_l13 {i : Nat → Int32} {a : Nat → List Int32} {q : Nat → List Int64} {r : Nat → Nat} (hI : kI i a q) (hr : kr r)  : km 1 11 [.int 0, .int 3] (ks i a q r) (kPI (ks i a q r) (fun v => v.toInt = 0)) := by
  have hG := kG_self kW0 hI hr
  refine km_ofPI (q := (mi_h11, mi_c11)) rfl (by decide) (Nat.le_of_ble_eq_true rfl) ?_
  intro P hP
  first | refine ft_goL mi_k11 10 47 [(3, .int 0), (2, .int 0), (0, .int 0), (1, .int 3)] [.int 0] (by rfl) ?_
  exact ft_ret mi_k11 (by rfl) (hP 0 (oz236 kn0))
noncomputable def w14_94_l13_K0 : kW := ([6019], [96], [], [])
set_option maxRecDepth 100000 in
theorem kc14_94_l13_K0 {i : Nat → Int32} {a : Nat → List Int32} {q : Nat → List Int64} {r : Nat → Nat} (hI : kI i a q) (hr : kr r) (x1 : Int32) (x3 : Int32) (x4 : Int32) (hp0 : ((0 : Int) ≤ x1.toInt) ∧ (x1.toInt ≤ 49)) (hp1 : ((a 95).getD x1.toNatClampNeg 0).toInt = 0) (hp2 : ((0 : Int) ≤ x4.toInt) ∧ ((x4.toInt + 2) ≤ 39)) (hp3 : ((0 : Int) ≤ (i 6019).toInt) ∧ (((i 6019).toInt + 3) ≤ 900)) : km 9 14 [.ref 94, .int x1, .int 3, .int x3, .int x4] (ks i a q r) (kVI w14_94_l13_K0 i a q r (fun v i1 a1 q1 r1 => (i1 6019).toInt = ((i 6019).toInt + 3))) := by
  have hG := kG_self w14_94_l13_K0 hI hr
  refine km_ofI (q := (mi_h14, mi_c14)) rfl (by decide) (Nat.le_of_ble_eq_true rfl) ?_
  intro P hP
  have r1 : ((0 : Int) ≤ ((a 95).getD x1.toNatClampNeg 0).toInt) ∧ (((a 95).getD x1.toNatClampNeg 0).toInt ≤ 7) := hG.I.2.2.1 95 (x1.toNatClampNeg)
  have fi_6019 : ((0 : Int) ≤ (i 6019).toInt) ∧ ((i 6019).toInt ≤ 1000) := hG.I.1 6019
  refine fo_goL mi_k14 fz14_0_3_5 [(0, .ref 94), (1, .int x1), (2, .int 3), (3, .int x3), (4, .int x4)] [.int x1, .ref 95] rfl ?_
  refine ko_iald3 mi_k14.1 (n := 50) (c := 50) (ax := (0, 0, 0, 0, 0)) (mi_k14.2 _ _ (by rfl)) (by rfl) (ksG95 _ _ _ _) (hG.I.2.1 95) rfl (oz3 hp0.1) (oz1336 hp0.2) ?_
  refine ko_top (kj_eq (oz1337 hp1 r1.1) (by decide) : ((a 95).getD x1.toNatClampNeg 0) = 0) ?_
  refine ft_goL mi_k14 9 66 [(5, .int 0), (0, .ref 94), (1, .int x1), (2, .int 3), (3, .int x3), (4, .int x4)] [.int x4, .int x3, .int 1, .int 0, .int x1, .ref 94] (by rfl) ?_
  refine ko_callI mi_k14.1 (pc := 66) (ls := [(5, .int 0), (0, .ref 94), (1, .int x1), (2, .int 3), (3, .int x3), (4, .int x4)]) (st := [.int x4, .int x3, .int 1, .int 0, .int x1, .ref 94]) (h := ks i a q r) (i := (.invokevirtual 35, 3, 13, 0, 9, 0, 297)) (mi_k14.2 _ _ (by rfl)) (ft_invS mi_pq13 (by rfl)) (cy := mi_c13) mi_pq13 rfl (kc13_94_l10_l21_K0 hG.I hG.R x1 x3 x4 (oz1339 hp0.1 hp0.2) (oz1337 hp1 r1.1) (oz1367 hp2.1 hp2.2) (oz1368 fi_6019.1 hp3.2)) (by decide) ?_
  intro vg2 ig2 ag2 qg2 rg2 kg2 hg2
  have hGg2 := kG_call hG kg2 (by decide +kernel)
  have fig2_6019 : ((0 : Int) ≤ (ig2 6019).toInt) ∧ ((ig2 6019).toInt ≤ 1000) := hGg2.I.1 6019
  have z3 : (ig2 6019).toInt = ((i 6019).toInt + 2) := hg2
  refine fo_goL mi_k14 fz14_69_8_81 [(6, .int vg2), (5, .int 0), (0, .ref 94), (1, .int x1), (2, .int 3), (3, .int x3), (4, .int x4)] [.int x4, .int 1, .int 2, .int 0, .int x1, .ref 94, .int vg2] rfl ?_
  have r4 : ((0 : Int) ≤ ((ag2 95).getD x1.toNatClampNeg 0).toInt) ∧ (((ag2 95).getD x1.toNatClampNeg 0).toInt ≤ 7) := hGg2.I.2.2.1 95 (x1.toNatClampNeg)
  have u5 : ((ag2 95).getD x1.toNatClampNeg 0).toInt = ((a 95).getD x1.toNatClampNeg 0).toInt := congrArg (fun z : List Int32 => (z.getD x1.toNatClampNeg 0).toInt) (kg2.fa 95 rfl)
  refine ko_callI mi_k14.1 (pc := 81) (ls := [(6, .int vg2), (5, .int 0), (0, .ref 94), (1, .int x1), (2, .int 3), (3, .int x3), (4, .int x4)]) (st := [.int x4, .int 1, .int 2, .int 0, .int x1, .ref 94, .int vg2]) (h := ks ig2 ag2 qg2 rg2) (i := (.invokevirtual 35, 3, 13, 0, 9, 0, 297)) (mi_k14.2 _ _ (by rfl)) (ft_invS mi_pq13 (by rfl)) (cy := mi_c13) mi_pq13 rfl (kc13_94_l10_l22_K0 hGg2.I hGg2.R x1 1 x4 (oz1339 hp0.1 hp0.2) (oz1344 hp1 r4.1 u5) (oz1369 hp2.1 hp2.2) (oz1370 fig2_6019.1 hp3.2 z3)) (by decide) ?_
  intro vg6 ig6 ag6 qg6 rg6 kg6 hg6
  have hGg6 := kG_call hGg2 kg6 (by decide +kernel)
  have z7 : (ig6 6019).toInt = ((ig2 6019).toInt + 1) := hg6
  have b8 : ((-2147483648 : Int) ≤ vg2.toInt) ∧ (vg2.toInt ≤ 2147483647) := kd_bd vg2
  have b9 : ((-2147483648 : Int) ≤ vg6.toInt) ∧ (vg6.toInt ≤ 2147483647) := kd_bd vg6
  refine fo_goS mi_k14 fz14_84_1_85 [.int (vg2 - vg6)] rfl ?_
  exact ft_ret mi_k14 (by rfl) (hP (vg2 - vg6) _ _ _ _ hGg6 (oz1371 z3 z7))
noncomputable def w13_94_l10_l23_K0 : kW := ([6019], [96], [], [])
set_option maxRecDepth 100000 in
theorem kc13_94_l10_l23_K0 {i : Nat → Int32} {a : Nat → List Int32} {q : Nat → List Int64} {r : Nat → Nat} (hI : kI i a q) (hr : kr r) (x1 : Int32) (x4 : Int32) (x5 : Int32) (hp0 : ((0 : Int) ≤ x1.toInt) ∧ (x1.toInt ≤ 49)) (hp1 : ((a 95).getD x1.toNatClampNeg 0).toInt = 0) (hp2 : ((0 : Int) ≤ x5.toInt) ∧ ((x5.toInt + 3) ≤ 39)) (hp3 : ((0 : Int) ≤ (i 6019).toInt) ∧ (((i 6019).toInt + 4) ≤ 900)) : km 11 13 [.ref 94, .int x1, .int 0, .int 3, .int x4, .int x5] (ks i a q r) (kVI w13_94_l10_l23_K0 i a q r (fun v i1 a1 q1 r1 => (i1 6019).toInt = ((i 6019).toInt + 4))) := by
  have hG := kG_self w13_94_l10_l23_K0 hI hr
  refine km_ofI (q := (mi_h13, mi_c13)) rfl (by decide) (Nat.le_of_ble_eq_true rfl) ?_
  intro P hP
  have r1 : ((0 : Int) ≤ ((a 95).getD x1.toNatClampNeg 0).toInt) ∧ (((a 95).getD x1.toNatClampNeg 0).toInt ≤ 7) := hG.I.2.2.1 95 (x1.toNatClampNeg)
  have fi_6019 : ((0 : Int) ≤ (i 6019).toInt) ∧ ((i 6019).toInt ≤ 1000) := hG.I.1 6019
  refine fo_goL mi_k13 fz13_0_2_4 [(0, .ref 94), (1, .int x1), (2, .int 0), (3, .int 3), (4, .int x4), (5, .int x5)] [.int 40, .int x5] rfl ?_
  refine ft_ifS mi_k13 (decide (x5 < 40)) 9 7 [] (by rfl) (fun c => ?_) (fun c => ?_)
  ·
    have c2 : x5.toInt < (40 : Int32).toInt := kd_lt c; clear c
    refine fo_goS mi_k13 fz13_9_2_11 [.int 3, .int 0] rfl ?_
    refine ko_callPI mi_k13.1 (pc := 11) (ls := [(0, .ref 94), (1, .int x1), (2, .int 0), (3, .int 3), (4, .int x4), (5, .int x5)]) (st := [.int 3, .int 0]) (h := ks i a q r) (i := (.invokestatic 39, 3, 11, 0, 9, 0, 298)) (mi_k13.2 _ _ (by rfl)) (ft_invS mi_pq11 (by rfl)) (cy := mi_c11) mi_pq11 rfl (kc11_l00_l13 hG.I hG.R ) (by decide) ?_
    intro vg3 hg3
    have z4 : vg3.toInt = 0 := hg3
    have evvg3 := kj_eq (oz236 z4) (by decide : (0 : Int32).toInt = 0)
    subst evvg3
    refine ft_goL mi_k13 5 23 [(6, .int 0), (0, .ref 94), (1, .int x1), (2, .int 0), (3, .int 3), (4, .int x4), (5, .int x5)] [.int (0 * 4), .ref (mi_RO + 3)] (by rfl) ?_
    refine ko_top (by decide : (0 * 4 : Int32) = 0) ?_
    refine fo_goS mi_k13 fz13_23_2_25 [.int (0 + 3), .ref (mi_RO + 3)] rfl ?_
    refine ko_top (by decide : (0 + 3 : Int32) = 3) ?_
    refine ft_ro mi_k13 (w := 2) (by decide +kernel) (by decide +kernel) ?_
    refine fo_goL mi_k13 fz13_26_4_34 [(7, .int 2), (6, .int 0), (0, .ref 94), (1, .int x1), (2, .int 0), (3, .int 3), (4, .int x4), (5, .int x5)] [.int 24, .int (i 6019)] rfl ?_
    refine ft_ifS mi_k13 (decide (24 ≤ (i 6019))) 48 37 [] (by rfl) (fun c => ?_) (fun c => ?_)
    ·
      have c6 : (24 : Int32).toInt ≤ (i 6019).toInt := kd_le c; clear c
      have s7 : ((i 6019) + 1).toInt = (i 6019).toInt + (1 : Int32).toInt := kd_add (oz1332 c6 kn24 kn1) (oz951 fi_6019.2 kn1)
      have hJ8 := kG_i hG 6019 rfl (v := ((i 6019) + 1)) ⟨(oz1333 c6 s7 kn24 kn1), (oz1365 hp3.2 s7 kn1)⟩
      have s9 : (x5 + 1).toInt = x5.toInt + (1 : Int32).toInt := kd_add (oz12 hp2.1 kn1) (oz1366 hp2.2 kn1)
      first | refine fo_goI mi_k13 fz13_48_15_72 [.int (x5 + 1), .int x4, .int 3, .int x1, .ref 94] (ku i 6019 ((i 6019) + 1)) (by rfl) ?_ | refine ft_go mi_k13 15 72 [(7, .int 2), (6, .int 0), (0, .ref 94), (1, .int x1), (2, .int 0), (3, .int 3), (4, .int x4), (5, .int x5)] [.int (x5 + 1), .int x4, .int 3, .int x1, .ref 94] (ku i 6019 ((i 6019) + 1)) a q r (by rfl) ?_
      refine ko_callI mi_k13.1 (pc := 72) (ls := [(7, .int 2), (6, .int 0), (0, .ref 94), (1, .int x1), (2, .int 0), (3, .int 3), (4, .int x4), (5, .int x5)]) (st := [.int (x5 + 1), .int x4, .int 3, .int x1, .ref 94]) (h := ks (ku i 6019 ((i 6019) + 1)) a q r) (i := (.invokevirtual 43, 3, 14, 0, 9, 0, 301)) (mi_k13.2 _ _ (by rfl)) (ft_invS mi_pq14 (by rfl)) (cy := mi_c14) mi_pq14 rfl (kc14_94_l13_K0 hJ8.I hJ8.R x1 x4 (x5 + 1) (oz1339 hp0.1 hp0.2) (oz1337 hp1 r1.1) (oz1372 hp2.1 hp2.2 s9 kn1) (oz1373 c6 hp3.2 s7 kn24 kn1)) (by decide) ?_
      intro vg10 ig10 ag10 qg10 rg10 kg10 hg10
      have hGg10 := kG_call hJ8 kg10 (by decide +kernel)
      have z11 : (ig10 6019).toInt = (((i 6019) + 1).toInt + 3) := hg10
      exact ft_ret mi_k13 (by rfl) (hP vg10 _ _ _ _ hGg10 (oz1374 s7 z11 kn1))
    ·
      have c12 : (i 6019).toInt < (24 : Int32).toInt := kd_leF c; clear c
      refine fo_goS mi_k13 fz13_37_5_47 [.int 2, .int (i 6019), .ref 96] rfl ?_
      refine ko_iast3 mi_k13.1 (n := 24) (c := 24) (ax := (0, 0, 0, 0, 0)) (mi_k13.2 _ _ (by rfl)) (by rfl) (ksG96 _ _ _ _) (ksA96 _ _ _ _) (hG.I.2.1 96) rfl (oz3 fi_6019.1) (oz1343 c12 kn24) ?_
      intro a13 ea13 fa13
      have hJ13 := kG_a3 hG 96 rfl ea13 fa13 (kd_bd _)
      have s14 : ((i 6019) + 1).toInt = (i 6019).toInt + (1 : Int32).toInt := kd_add (oz12 fi_6019.1 kn1) (oz951 fi_6019.2 kn1)
      have hJ15 := kG_i hJ13 6019 rfl (v := ((i 6019) + 1)) ⟨(oz14 fi_6019.1 s14 kn1), (oz1365 hp3.2 s14 kn1)⟩
      have s16 : (x5 + 1).toInt = x5.toInt + (1 : Int32).toInt := kd_add (oz12 hp2.1 kn1) (oz1366 hp2.2 kn1)
      first | refine fo_goI mi_k13 fz13_48_15_72 [.int (x5 + 1), .int x4, .int 3, .int x1, .ref 94] (ku i 6019 ((i 6019) + 1)) (by rfl) ?_ | refine ft_go mi_k13 15 72 [(7, .int 2), (6, .int 0), (0, .ref 94), (1, .int x1), (2, .int 0), (3, .int 3), (4, .int x4), (5, .int x5)] [.int (x5 + 1), .int x4, .int 3, .int x1, .ref 94] (ku i 6019 ((i 6019) + 1)) a13 q r (by rfl) ?_
      have r17 : ((0 : Int) ≤ ((a13 95).getD x1.toNatClampNeg 0).toInt) ∧ (((a13 95).getD x1.toNatClampNeg 0).toInt ≤ 7) := hJ15.I.2.2.1 95 (x1.toNatClampNeg)
      have u18 : ((a13 95).getD x1.toNatClampNeg 0).toInt = ((a 95).getD x1.toNatClampNeg 0).toInt := congrArg (fun z : List Int32 => (z.getD x1.toNatClampNeg 0).toInt) (fa13 95 (by decide))
      refine ko_callI mi_k13.1 (pc := 72) (ls := [(7, .int 2), (6, .int 0), (0, .ref 94), (1, .int x1), (2, .int 0), (3, .int 3), (4, .int x4), (5, .int x5)]) (st := [.int (x5 + 1), .int x4, .int 3, .int x1, .ref 94]) (h := ks (ku i 6019 ((i 6019) + 1)) a13 q r) (i := (.invokevirtual 43, 3, 14, 0, 9, 0, 301)) (mi_k13.2 _ _ (by rfl)) (ft_invS mi_pq14 (by rfl)) (cy := mi_c14) mi_pq14 rfl (kc14_94_l13_K0 hJ15.I hJ15.R x1 x4 (x5 + 1) (oz1339 hp0.1 hp0.2) (oz1344 hp1 r17.1 u18) (oz1372 hp2.1 hp2.2 s16 kn1) (oz1375 fi_6019.1 hp3.2 s14 kn1)) (by decide) ?_
      intro vg19 ig19 ag19 qg19 rg19 kg19 hg19
      have hGg19 := kG_call hJ15 kg19 (by decide +kernel)
      have z20 : (ig19 6019).toInt = (((i 6019) + 1).toInt + 3) := hg19
      exact ft_ret mi_k13 (by rfl) (hP vg19 _ _ _ _ hGg19 (oz1374 s14 z20 kn1))
  ·
    have c21 : (40 : Int32).toInt ≤ x5.toInt := kd_ltF c; clear c
    exact (oz1376 c21 hp2.2 kn40).elim
set_option maxRecDepth 100000 in
theorem kc11_l01_l10 {i : Nat → Int32} {a : Nat → List Int32} {q : Nat → List Int64} {r : Nat → Nat} (hI : kI i a q) (hr : kr r)  : km 1 11 [.int 1, .int 0] (ks i a q r) (kPI (ks i a q r) (fun v => v.toInt = 1)) := by
  have hG := kG_self kW0 hI hr
  refine km_ofPI (q := (mi_h11, mi_c11)) rfl (by decide) (Nat.le_of_ble_eq_true rfl) ?_
  intro P hP
  first | refine ft_goL mi_k11 16 26 [(3, .int 0), (2, .int 1), (0, .int 1), (1, .int 0)] [.int (1 * 4), .ref (mi_RO + 3)] (by rfl) ?_
  refine ko_top (by decide : (1 * 4 : Int32) = 4) ?_
  refine fo_goS mi_k11 fz11_26_2_28 [.int (4 + 0), .ref (mi_RO + 3)] rfl ?_
  refine ko_top (by decide : (4 + 0 : Int32) = 4) ?_
  refine ft_ro mi_k11 (w := 20) (by decide +kernel) (by decide +kernel) ?_
  refine fo_goS mi_k11 fz11_29_2_33 [.int 1] rfl ?_
  exact ft_ret mi_k11 (by rfl) (hP 1 (oz1381 kn1))
noncomputable def w14_94_l10_K1 : kW := ([], [], [], [])
set_option maxRecDepth 100000 in
theorem kc14_94_l10_K1 {i : Nat → Int32} {a : Nat → List Int32} {q : Nat → List Int64} {r : Nat → Nat} (hI : kI i a q) (hr : kr r) (x1 : Int32) (x3 : Int32) (x4 : Int32) (hp0 : ((0 : Int) ≤ x1.toInt) ∧ (x1.toInt ≤ 49)) (hp1 : ((a 95).getD x1.toNatClampNeg 0).toInt = 1) (hp2 : ((0 : Int) ≤ x4.toInt) ∧ ((x4.toInt + 0) ≤ 39)) (hp3 : ((0 : Int) ≤ (i 6019).toInt) ∧ (((i 6019).toInt + 0) ≤ 900)) : km 1 14 [.ref 94, .int x1, .int 0, .int x3, .int x4] (ks i a q r) (kVI w14_94_l10_K1 i a q r (fun v i1 a1 q1 r1 => (i1 6019).toInt = ((i 6019).toInt + 0))) := by
  have hG := kG_self w14_94_l10_K1 hI hr
  refine km_ofI (q := (mi_h14, mi_c14)) rfl (by decide) (Nat.le_of_ble_eq_true rfl) ?_
  intro P hP
  have r1 : ((0 : Int) ≤ ((a 95).getD x1.toNatClampNeg 0).toInt) ∧ (((a 95).getD x1.toNatClampNeg 0).toInt ≤ 7) := hG.I.2.2.1 95 (x1.toNatClampNeg)
  refine fo_goL mi_k14 fz14_0_3_5 [(0, .ref 94), (1, .int x1), (2, .int 0), (3, .int x3), (4, .int x4)] [.int x1, .ref 95] rfl ?_
  refine ko_iald3 mi_k14.1 (n := 50) (c := 50) (ax := (0, 0, 0, 0, 0)) (mi_k14.2 _ _ (by rfl)) (by rfl) (ksG95 _ _ _ _) (hG.I.2.1 95) rfl (oz3 hp0.1) (oz1336 hp0.2) ?_
  refine ko_top (kj_eq (oz1381 hp1) (by decide) : ((a 95).getD x1.toNatClampNeg 0) = 1) ?_
  have b2 : ((-2147483648 : Int) ≤ x3.toInt) ∧ (x3.toInt ≤ 2147483647) := kd_bd x3
  have b3 : ((-2147483648 : Int) ≤ x1.toInt) ∧ (x1.toInt ≤ 2147483647) := kd_bd x1
  refine ft_goL mi_k14 6 39 [(5, .int 1), (0, .ref 94), (1, .int x1), (2, .int 0), (3, .int x3), (4, .int x4)] [.int (x3 + x1)] (by rfl) ?_
  exact ft_ret mi_k14 (by rfl) (hP (x3 + x1) _ _ _ _ hG oz1338)
noncomputable def w13_94_l10_l20_K1 : kW := ([6019], [96], [], [])
set_option maxRecDepth 100000 in
theorem kc13_94_l10_l20_K1 {i : Nat → Int32} {a : Nat → List Int32} {q : Nat → List Int64} {r : Nat → Nat} (hI : kI i a q) (hr : kr r) (x1 : Int32) (x4 : Int32) (x5 : Int32) (hp0 : ((0 : Int) ≤ x1.toInt) ∧ (x1.toInt ≤ 49)) (hp1 : ((a 95).getD x1.toNatClampNeg 0).toInt = 1) (hp2 : ((0 : Int) ≤ x5.toInt) ∧ ((x5.toInt + 1) ≤ 39)) (hp3 : ((0 : Int) ≤ (i 6019).toInt) ∧ (((i 6019).toInt + 1) ≤ 900)) : km 3 13 [.ref 94, .int x1, .int 0, .int 0, .int x4, .int x5] (ks i a q r) (kVI w13_94_l10_l20_K1 i a q r (fun v i1 a1 q1 r1 => (i1 6019).toInt = ((i 6019).toInt + 1))) := by
  have hG := kG_self w13_94_l10_l20_K1 hI hr
  refine km_ofI (q := (mi_h13, mi_c13)) rfl (by decide) (Nat.le_of_ble_eq_true rfl) ?_
  intro P hP
  have r1 : ((0 : Int) ≤ ((a 95).getD x1.toNatClampNeg 0).toInt) ∧ (((a 95).getD x1.toNatClampNeg 0).toInt ≤ 7) := hG.I.2.2.1 95 (x1.toNatClampNeg)
  have fi_6019 : ((0 : Int) ≤ (i 6019).toInt) ∧ ((i 6019).toInt ≤ 1000) := hG.I.1 6019
  refine fo_goL mi_k13 fz13_0_2_4 [(0, .ref 94), (1, .int x1), (2, .int 0), (3, .int 0), (4, .int x4), (5, .int x5)] [.int 40, .int x5] rfl ?_
  refine ft_ifS mi_k13 (decide (x5 < 40)) 9 7 [] (by rfl) (fun c => ?_) (fun c => ?_)
  ·
    have c2 : x5.toInt < (40 : Int32).toInt := kd_lt c; clear c
    refine fo_goS mi_k13 fz13_9_2_11 [.int 0, .int 0] rfl ?_
    refine ko_callPI mi_k13.1 (pc := 11) (ls := [(0, .ref 94), (1, .int x1), (2, .int 0), (3, .int 0), (4, .int x4), (5, .int x5)]) (st := [.int 0, .int 0]) (h := ks i a q r) (i := (.invokestatic 39, 3, 11, 0, 9, 0, 298)) (mi_k13.2 _ _ (by rfl)) (ft_invS mi_pq11 (by rfl)) (cy := mi_c11) mi_pq11 rfl (kc11_l00_l10 hG.I hG.R ) (by decide) ?_
    intro vg3 hg3
    have z4 : vg3.toInt = 0 := hg3
    have evvg3 := kj_eq (oz236 z4) (by decide : (0 : Int32).toInt = 0)
    subst evvg3
    refine ft_goL mi_k13 5 23 [(6, .int 0), (0, .ref 94), (1, .int x1), (2, .int 0), (3, .int 0), (4, .int x4), (5, .int x5)] [.int (0 * 4), .ref (mi_RO + 3)] (by rfl) ?_
    refine ko_top (by decide : (0 * 4 : Int32) = 0) ?_
    refine fo_goS mi_k13 fz13_23_2_25 [.int (0 + 0), .ref (mi_RO + 3)] rfl ?_
    refine ko_top (by decide : (0 + 0 : Int32) = 0) ?_
    refine ft_ro mi_k13 (w := 1) (by decide +kernel) (by decide +kernel) ?_
    refine fo_goL mi_k13 fz13_26_4_34 [(7, .int 1), (6, .int 0), (0, .ref 94), (1, .int x1), (2, .int 0), (3, .int 0), (4, .int x4), (5, .int x5)] [.int 24, .int (i 6019)] rfl ?_
    refine ft_ifS mi_k13 (decide (24 ≤ (i 6019))) 48 37 [] (by rfl) (fun c => ?_) (fun c => ?_)
    ·
      have c6 : (24 : Int32).toInt ≤ (i 6019).toInt := kd_le c; clear c
      have s7 : ((i 6019) + 1).toInt = (i 6019).toInt + (1 : Int32).toInt := kd_add (oz1332 c6 kn24 kn1) (oz951 fi_6019.2 kn1)
      have hJ8 := kG_i hG 6019 rfl (v := ((i 6019) + 1)) ⟨(oz1333 c6 s7 kn24 kn1), (oz1334 hp3.2 s7 kn1)⟩
      have s9 : (x5 + 1).toInt = x5.toInt + (1 : Int32).toInt := kd_add (oz12 hp2.1 kn1) (oz1335 hp2.2 kn1)
      first | refine fo_goI mi_k13 fz13_48_15_72 [.int (x5 + 1), .int x4, .int 0, .int x1, .ref 94] (ku i 6019 ((i 6019) + 1)) (by rfl) ?_ | refine ft_go mi_k13 15 72 [(7, .int 1), (6, .int 0), (0, .ref 94), (1, .int x1), (2, .int 0), (3, .int 0), (4, .int x4), (5, .int x5)] [.int (x5 + 1), .int x4, .int 0, .int x1, .ref 94] (ku i 6019 ((i 6019) + 1)) a q r (by rfl) ?_
      refine ko_callI mi_k13.1 (pc := 72) (ls := [(7, .int 1), (6, .int 0), (0, .ref 94), (1, .int x1), (2, .int 0), (3, .int 0), (4, .int x4), (5, .int x5)]) (st := [.int (x5 + 1), .int x4, .int 0, .int x1, .ref 94]) (h := ks (ku i 6019 ((i 6019) + 1)) a q r) (i := (.invokevirtual 43, 3, 14, 0, 9, 0, 301)) (mi_k13.2 _ _ (by rfl)) (ft_invS mi_pq14 (by rfl)) (cy := mi_c14) mi_pq14 rfl (kc14_94_l10_K1 hJ8.I hJ8.R x1 x4 (x5 + 1) (oz1339 hp0.1 hp0.2) (oz1381 hp1) (oz1340 hp2.1 hp2.2 s9 kn1) (oz1341 c6 hp3.2 s7 kn24 kn1)) (by decide) ?_
      intro vg10 ig10 ag10 qg10 rg10 kg10 hg10
      have hGg10 := kG_call hJ8 kg10 (by decide +kernel)
      have efig10_6019 : (ig10 6019).toInt = ((i 6019) + 1).toInt := kg10.ti 6019 rfl
      exact ft_ret mi_k13 (by rfl) (hP vg10 _ _ _ _ hGg10 (oz1342 efig10_6019 s7 kn1))
    ·
      have c12 : (i 6019).toInt < (24 : Int32).toInt := kd_leF c; clear c
      refine fo_goS mi_k13 fz13_37_5_47 [.int 1, .int (i 6019), .ref 96] rfl ?_
      refine ko_iast3 mi_k13.1 (n := 24) (c := 24) (ax := (0, 0, 0, 0, 0)) (mi_k13.2 _ _ (by rfl)) (by rfl) (ksG96 _ _ _ _) (ksA96 _ _ _ _) (hG.I.2.1 96) rfl (oz3 fi_6019.1) (oz1343 c12 kn24) ?_
      intro a13 ea13 fa13
      have hJ13 := kG_a3 hG 96 rfl ea13 fa13 (kd_bd _)
      have s14 : ((i 6019) + 1).toInt = (i 6019).toInt + (1 : Int32).toInt := kd_add (oz12 fi_6019.1 kn1) (oz951 fi_6019.2 kn1)
      have hJ15 := kG_i hJ13 6019 rfl (v := ((i 6019) + 1)) ⟨(oz14 fi_6019.1 s14 kn1), (oz1334 hp3.2 s14 kn1)⟩
      have s16 : (x5 + 1).toInt = x5.toInt + (1 : Int32).toInt := kd_add (oz12 hp2.1 kn1) (oz1335 hp2.2 kn1)
      first | refine fo_goI mi_k13 fz13_48_15_72 [.int (x5 + 1), .int x4, .int 0, .int x1, .ref 94] (ku i 6019 ((i 6019) + 1)) (by rfl) ?_ | refine ft_go mi_k13 15 72 [(7, .int 1), (6, .int 0), (0, .ref 94), (1, .int x1), (2, .int 0), (3, .int 0), (4, .int x4), (5, .int x5)] [.int (x5 + 1), .int x4, .int 0, .int x1, .ref 94] (ku i 6019 ((i 6019) + 1)) a13 q r (by rfl) ?_
      have r17 : ((0 : Int) ≤ ((a13 95).getD x1.toNatClampNeg 0).toInt) ∧ (((a13 95).getD x1.toNatClampNeg 0).toInt ≤ 7) := hJ15.I.2.2.1 95 (x1.toNatClampNeg)
      have u18 : ((a13 95).getD x1.toNatClampNeg 0).toInt = ((a 95).getD x1.toNatClampNeg 0).toInt := congrArg (fun z : List Int32 => (z.getD x1.toNatClampNeg 0).toInt) (fa13 95 (by decide))
      refine ko_callI mi_k13.1 (pc := 72) (ls := [(7, .int 1), (6, .int 0), (0, .ref 94), (1, .int x1), (2, .int 0), (3, .int 0), (4, .int x4), (5, .int x5)]) (st := [.int (x5 + 1), .int x4, .int 0, .int x1, .ref 94]) (h := ks (ku i 6019 ((i 6019) + 1)) a13 q r) (i := (.invokevirtual 43, 3, 14, 0, 9, 0, 301)) (mi_k13.2 _ _ (by rfl)) (ft_invS mi_pq14 (by rfl)) (cy := mi_c14) mi_pq14 rfl (kc14_94_l10_K1 hJ15.I hJ15.R x1 x4 (x5 + 1) (oz1339 hp0.1 hp0.2) (oz1383 hp1 u18) (oz1340 hp2.1 hp2.2 s16 kn1) (oz1345 fi_6019.1 hp3.2 s14 kn1)) (by decide) ?_
      intro vg19 ig19 ag19 qg19 rg19 kg19 hg19
      have hGg19 := kG_call hJ15 kg19 (by decide +kernel)
      have efig19_6019 : (ig19 6019).toInt = ((i 6019) + 1).toInt := kg19.ti 6019 rfl
      exact ft_ret mi_k13 (by rfl) (hP vg19 _ _ _ _ hGg19 (oz1342 efig19_6019 s14 kn1))
  ·
    have c21 : (40 : Int32).toInt ≤ x5.toInt := kd_ltF c; clear c
    exact (oz1346 c21 hp2.2 kn40).elim
noncomputable def w13_94_l11_l20_K1 : kW := ([6019], [96], [], [])
set_option maxRecDepth 100000 in
theorem kc13_94_l11_l20_K1 {i : Nat → Int32} {a : Nat → List Int32} {q : Nat → List Int64} {r : Nat → Nat} (hI : kI i a q) (hr : kr r) (x1 : Int32) (x4 : Int32) (x5 : Int32) (hp0 : ((0 : Int) ≤ x1.toInt) ∧ (x1.toInt ≤ 49)) (hp1 : ((a 95).getD x1.toNatClampNeg 0).toInt = 1) (hp2 : ((0 : Int) ≤ x5.toInt) ∧ ((x5.toInt + 2) ≤ 39)) (hp3 : ((0 : Int) ≤ (i 6019).toInt) ∧ (((i 6019).toInt + 2) ≤ 900)) : km 5 13 [.ref 94, .int x1, .int 1, .int 0, .int x4, .int x5] (ks i a q r) (kVI w13_94_l11_l20_K1 i a q r (fun v i1 a1 q1 r1 => (i1 6019).toInt = ((i 6019).toInt + 2))) := by
  have hG := kG_self w13_94_l11_l20_K1 hI hr
  refine km_ofI (q := (mi_h13, mi_c13)) rfl (by decide) (Nat.le_of_ble_eq_true rfl) ?_
  intro P hP
  have r1 : ((0 : Int) ≤ ((a 95).getD x1.toNatClampNeg 0).toInt) ∧ (((a 95).getD x1.toNatClampNeg 0).toInt ≤ 7) := hG.I.2.2.1 95 (x1.toNatClampNeg)
  have fi_6019 : ((0 : Int) ≤ (i 6019).toInt) ∧ ((i 6019).toInt ≤ 1000) := hG.I.1 6019
  refine fo_goL mi_k13 fz13_0_2_4 [(0, .ref 94), (1, .int x1), (2, .int 1), (3, .int 0), (4, .int x4), (5, .int x5)] [.int 40, .int x5] rfl ?_
  refine ft_ifS mi_k13 (decide (x5 < 40)) 9 7 [] (by rfl) (fun c => ?_) (fun c => ?_)
  ·
    have c2 : x5.toInt < (40 : Int32).toInt := kd_lt c; clear c
    refine fo_goS mi_k13 fz13_9_2_11 [.int 0, .int 1] rfl ?_
    refine ko_callPI mi_k13.1 (pc := 11) (ls := [(0, .ref 94), (1, .int x1), (2, .int 1), (3, .int 0), (4, .int x4), (5, .int x5)]) (st := [.int 0, .int 1]) (h := ks i a q r) (i := (.invokestatic 39, 3, 11, 0, 9, 0, 298)) (mi_k13.2 _ _ (by rfl)) (ft_invS mi_pq11 (by rfl)) (cy := mi_c11) mi_pq11 rfl (kc11_l01_l10 hG.I hG.R ) (by decide) ?_
    intro vg3 hg3
    have z4 : vg3.toInt = 1 := hg3
    have evvg3 := kj_eq (oz1381 z4) (by decide : (1 : Int32).toInt = 1)
    subst evvg3
    refine ft_goL mi_k13 5 23 [(6, .int 1), (0, .ref 94), (1, .int x1), (2, .int 1), (3, .int 0), (4, .int x4), (5, .int x5)] [.int (1 * 4), .ref (mi_RO + 3)] (by rfl) ?_
    refine ko_top (by decide : (1 * 4 : Int32) = 4) ?_
    refine fo_goS mi_k13 fz13_23_2_25 [.int (4 + 0), .ref (mi_RO + 3)] rfl ?_
    refine ko_top (by decide : (4 + 0 : Int32) = 4) ?_
    refine ft_ro mi_k13 (w := 20) (by decide +kernel) (by decide +kernel) ?_
    refine fo_goL mi_k13 fz13_26_4_34 [(7, .int 20), (6, .int 1), (0, .ref 94), (1, .int x1), (2, .int 1), (3, .int 0), (4, .int x4), (5, .int x5)] [.int 24, .int (i 6019)] rfl ?_
    refine ft_ifS mi_k13 (decide (24 ≤ (i 6019))) 48 37 [] (by rfl) (fun c => ?_) (fun c => ?_)
    ·
      have c6 : (24 : Int32).toInt ≤ (i 6019).toInt := kd_le c; clear c
      have s7 : ((i 6019) + 1).toInt = (i 6019).toInt + (1 : Int32).toInt := kd_add (oz1332 c6 kn24 kn1) (oz951 fi_6019.2 kn1)
      have hJ8 := kG_i hG 6019 rfl (v := ((i 6019) + 1)) ⟨(oz1333 c6 s7 kn24 kn1), (oz1351 hp3.2 s7 kn1)⟩
      refine ft_goI mi_k13 12 83 [.int 1, .ref (mi_RO + 4), .int x1, .ref 94] (ku i 6019 ((i 6019) + 1)) (by rfl) ?_
      refine ft_ro mi_k13 (w := 0) (by decide +kernel) (by decide +kernel) ?_
      have s10 : (x5 + 1).toInt = x5.toInt + (1 : Int32).toInt := kd_add (oz12 hp2.1 kn1) (oz1352 hp2.2 kn1)
      first | refine ft_goS mi_k13 8 105 [.int (x5 + 1), .int x4, .int 0, .int 0, .int x1, .ref 94] (by rfl) ?_
      refine ko_callI mi_k13.1 (pc := 105) (ls := [(7, .int 20), (6, .int 1), (0, .ref 94), (1, .int x1), (2, .int 1), (3, .int 0), (4, .int x4), (5, .int x5)]) (st := [.int (x5 + 1), .int x4, .int 0, .int 0, .int x1, .ref 94]) (h := ks (ku i 6019 ((i 6019) + 1)) a q r) (i := (.invokevirtual 35, 3, 13, 0, 9, 0, 297)) (mi_k13.2 _ _ (by rfl)) (ft_invS mi_pq13 (by rfl)) (cy := mi_c13) mi_pq13 rfl (kc13_94_l10_l20_K1 hJ8.I hJ8.R x1 x4 (x5 + 1) (oz1339 hp0.1 hp0.2) (oz1381 hp1) (oz1356 hp2.1 hp2.2 s10 kn1) (oz1357 c6 hp3.2 s7 kn24 kn1)) (by decide) ?_
      intro vg11 ig11 ag11 qg11 rg11 kg11 hg11
      have hGg11 := kG_call hJ8 kg11 (by decide +kernel)
      have z12 : (ig11 6019).toInt = (((i 6019) + 1).toInt + 1) := hg11
      have b13 : ((-2147483648 : Int) ≤ vg11.toInt) ∧ (vg11.toInt ≤ 2147483647) := kd_bd vg11
      refine ft_goL mi_k13 6 192 [(8, .int vg11), (7, .int 20), (6, .int 1), (0, .ref 94), (1, .int x1), (2, .int 1), (3, .int 0), (4, .int x4), (5, .int x5)] [.int (vg11 + 3)] (by rfl) ?_
      exact ft_ret mi_k13 (by rfl) (hP (vg11 + 3) _ _ _ _ hGg11 (oz1358 s7 z12 kn1))
    ·
      have c14 : (i 6019).toInt < (24 : Int32).toInt := kd_leF c; clear c
      refine fo_goS mi_k13 fz13_37_5_47 [.int 20, .int (i 6019), .ref 96] rfl ?_
      refine ko_iast3 mi_k13.1 (n := 24) (c := 24) (ax := (0, 0, 0, 0, 0)) (mi_k13.2 _ _ (by rfl)) (by rfl) (ksG96 _ _ _ _) (ksA96 _ _ _ _) (hG.I.2.1 96) rfl (oz3 fi_6019.1) (oz1343 c14 kn24) ?_
      intro a15 ea15 fa15
      have hJ15 := kG_a3 hG 96 rfl ea15 fa15 (kd_bd _)
      have s16 : ((i 6019) + 1).toInt = (i 6019).toInt + (1 : Int32).toInt := kd_add (oz12 fi_6019.1 kn1) (oz951 fi_6019.2 kn1)
      have hJ17 := kG_i hJ15 6019 rfl (v := ((i 6019) + 1)) ⟨(oz14 fi_6019.1 s16 kn1), (oz1351 hp3.2 s16 kn1)⟩
      refine ft_goI mi_k13 12 83 [.int 1, .ref (mi_RO + 4), .int x1, .ref 94] (ku i 6019 ((i 6019) + 1)) (by rfl) ?_
      refine ft_ro mi_k13 (w := 0) (by decide +kernel) (by decide +kernel) ?_
      have s19 : (x5 + 1).toInt = x5.toInt + (1 : Int32).toInt := kd_add (oz12 hp2.1 kn1) (oz1352 hp2.2 kn1)
      first | refine ft_goS mi_k13 8 105 [.int (x5 + 1), .int x4, .int 0, .int 0, .int x1, .ref 94] (by rfl) ?_
      have r20 : ((0 : Int) ≤ ((a15 95).getD x1.toNatClampNeg 0).toInt) ∧ (((a15 95).getD x1.toNatClampNeg 0).toInt ≤ 7) := hJ17.I.2.2.1 95 (x1.toNatClampNeg)
      have u21 : ((a15 95).getD x1.toNatClampNeg 0).toInt = ((a 95).getD x1.toNatClampNeg 0).toInt := congrArg (fun z : List Int32 => (z.getD x1.toNatClampNeg 0).toInt) (fa15 95 (by decide))
      refine ko_callI mi_k13.1 (pc := 105) (ls := [(7, .int 20), (6, .int 1), (0, .ref 94), (1, .int x1), (2, .int 1), (3, .int 0), (4, .int x4), (5, .int x5)]) (st := [.int (x5 + 1), .int x4, .int 0, .int 0, .int x1, .ref 94]) (h := ks (ku i 6019 ((i 6019) + 1)) a15 q r) (i := (.invokevirtual 35, 3, 13, 0, 9, 0, 297)) (mi_k13.2 _ _ (by rfl)) (ft_invS mi_pq13 (by rfl)) (cy := mi_c13) mi_pq13 rfl (kc13_94_l10_l20_K1 hJ17.I hJ17.R x1 x4 (x5 + 1) (oz1339 hp0.1 hp0.2) (oz1383 hp1 u21) (oz1356 hp2.1 hp2.2 s19 kn1) (oz1359 fi_6019.1 hp3.2 s16 kn1)) (by decide) ?_
      intro vg22 ig22 ag22 qg22 rg22 kg22 hg22
      have hGg22 := kG_call hJ17 kg22 (by decide +kernel)
      have z23 : (ig22 6019).toInt = (((i 6019) + 1).toInt + 1) := hg22
      have b24 : ((-2147483648 : Int) ≤ vg22.toInt) ∧ (vg22.toInt ≤ 2147483647) := kd_bd vg22
      refine ft_goL mi_k13 6 192 [(8, .int vg22), (7, .int 20), (6, .int 1), (0, .ref 94), (1, .int x1), (2, .int 1), (3, .int 0), (4, .int x4), (5, .int x5)] [.int (vg22 + 3)] (by rfl) ?_
      exact ft_ret mi_k13 (by rfl) (hP (vg22 + 3) _ _ _ _ hGg22 (oz1358 s16 z23 kn1))
  ·
    have c25 : (40 : Int32).toInt ≤ x5.toInt := kd_ltF c; clear c
    exact (oz1360 c25 hp2.2 kn40).elim
set_option maxRecDepth 100000 in
theorem kc11_l01_l11 {i : Nat → Int32} {a : Nat → List Int32} {q : Nat → List Int64} {r : Nat → Nat} (hI : kI i a q) (hr : kr r)  : km 1 11 [.int 1, .int 1] (ks i a q r) (kPI (ks i a q r) (fun v => v.toInt = 0)) := by
  have hG := kG_self kW0 hI hr
  refine km_ofPI (q := (mi_h11, mi_c11)) rfl (by decide) (Nat.le_of_ble_eq_true rfl) ?_
  intro P hP
  first | refine ft_goL mi_k11 16 26 [(3, .int 0), (2, .int 1), (0, .int 1), (1, .int 1)] [.int (1 * 4), .ref (mi_RO + 3)] (by rfl) ?_
  refine ko_top (by decide : (1 * 4 : Int32) = 4) ?_
  refine fo_goS mi_k11 fz11_26_2_28 [.int (4 + 1), .ref (mi_RO + 3)] rfl ?_
  refine ko_top (by decide : (4 + 1 : Int32) = 5) ?_
  refine ft_ro mi_k11 (w := 0) (by decide +kernel) (by decide +kernel) ?_
  refine ft_goS mi_k11 3 38 [.int 1, .ref (mi_RO + 4)] (by rfl) ?_
  refine ft_ro mi_k11 (w := 0) (by decide +kernel) (by decide +kernel) ?_
  refine fo_goL mi_k11 fz11_39_2_43 [(3, .int (0 + 1)), (2, .int 0), (0, .int 1), (1, .int 1)] [] rfl ?_
  refine ko_loc (by decide : (0 + 1 : Int32) = 1) ?_
  first | refine ft_goL mi_k11 7 47 [(3, .int 1), (2, .int 0), (0, .int 1), (1, .int 1)] [.int 0] (by rfl) ?_ | refine ft_goS mi_k11 7 47 [.int 0] (by rfl) ?_
  exact ft_ret mi_k11 (by rfl) (hP 0 (oz236 kn0))
noncomputable def w14_94_l11_K1 : kW := ([6019], [96], [], [])
set_option maxRecDepth 100000 in
theorem kc14_94_l11_K1 {i : Nat → Int32} {a : Nat → List Int32} {q : Nat → List Int64} {r : Nat → Nat} (hI : kI i a q) (hr : kr r) (x1 : Int32) (x3 : Int32) (x4 : Int32) (hp0 : ((0 : Int) ≤ x1.toInt) ∧ (x1.toInt ≤ 49)) (hp1 : ((a 95).getD x1.toNatClampNeg 0).toInt = 1) (hp2 : ((0 : Int) ≤ x4.toInt) ∧ ((x4.toInt + 2) ≤ 39)) (hp3 : ((0 : Int) ≤ (i 6019).toInt) ∧ (((i 6019).toInt + 2) ≤ 900)) : km 7 14 [.ref 94, .int x1, .int 1, .int x3, .int x4] (ks i a q r) (kVI w14_94_l11_K1 i a q r (fun v i1 a1 q1 r1 => (i1 6019).toInt = ((i 6019).toInt + 2))) := by
  have hG := kG_self w14_94_l11_K1 hI hr
  refine km_ofI (q := (mi_h14, mi_c14)) rfl (by decide) (Nat.le_of_ble_eq_true rfl) ?_
  intro P hP
  have r1 : ((0 : Int) ≤ ((a 95).getD x1.toNatClampNeg 0).toInt) ∧ (((a 95).getD x1.toNatClampNeg 0).toInt ≤ 7) := hG.I.2.2.1 95 (x1.toNatClampNeg)
  have fi_6019 : ((0 : Int) ≤ (i 6019).toInt) ∧ ((i 6019).toInt ≤ 1000) := hG.I.1 6019
  refine fo_goL mi_k14 fz14_0_3_5 [(0, .ref 94), (1, .int x1), (2, .int 1), (3, .int x3), (4, .int x4)] [.int x1, .ref 95] rfl ?_
  refine ko_iald3 mi_k14.1 (n := 50) (c := 50) (ax := (0, 0, 0, 0, 0)) (mi_k14.2 _ _ (by rfl)) (by rfl) (ksG95 _ _ _ _) (hG.I.2.1 95) rfl (oz3 hp0.1) (oz1336 hp0.2) ?_
  refine ko_top (kj_eq (oz1381 hp1) (by decide) : ((a 95).getD x1.toNatClampNeg 0) = 1) ?_
  refine ft_goL mi_k14 9 48 [(5, .int 1), (0, .ref 94), (1, .int x1), (2, .int 1), (3, .int x3), (4, .int x4)] [.int x4, .int x3, .int 0, .int 1, .int x1, .ref 94] (by rfl) ?_
  refine ko_callI mi_k14.1 (pc := 48) (ls := [(5, .int 1), (0, .ref 94), (1, .int x1), (2, .int 1), (3, .int x3), (4, .int x4)]) (st := [.int x4, .int x3, .int 0, .int 1, .int x1, .ref 94]) (h := ks i a q r) (i := (.invokevirtual 35, 3, 13, 0, 9, 0, 297)) (mi_k14.2 _ _ (by rfl)) (ft_invS mi_pq13 (by rfl)) (cy := mi_c13) mi_pq13 rfl (kc13_94_l11_l20_K1 hG.I hG.R x1 x3 x4 (oz1339 hp0.1 hp0.2) (oz1381 hp1) (oz1367 hp2.1 hp2.2) (oz1386 fi_6019.1 hp3.2)) (by decide) ?_
  intro vg2 ig2 ag2 qg2 rg2 kg2 hg2
  have hGg2 := kG_call hG kg2 (by decide +kernel)
  have z3 : (ig2 6019).toInt = ((i 6019).toInt + 2) := hg2
  have b4 : ((-2147483648 : Int) ≤ vg2.toInt) ∧ (vg2.toInt ≤ 2147483647) := kd_bd vg2
  refine fo_goS mi_k14 fz14_51_2_53 [.int (vg2 * 2)] rfl ?_
  exact ft_ret mi_k14 (by rfl) (hP (vg2 * 2) _ _ _ _ hGg2 (oz1387 z3))
noncomputable def w13_94_l11_l21_K1 : kW := ([6019], [96], [], [])
set_option maxRecDepth 100000 in
theorem kc13_94_l11_l21_K1 {i : Nat → Int32} {a : Nat → List Int32} {q : Nat → List Int64} {r : Nat → Nat} (hI : kI i a q) (hr : kr r) (x1 : Int32) (x4 : Int32) (x5 : Int32) (hp0 : ((0 : Int) ≤ x1.toInt) ∧ (x1.toInt ≤ 49)) (hp1 : ((a 95).getD x1.toNatClampNeg 0).toInt = 1) (hp2 : ((0 : Int) ≤ x5.toInt) ∧ ((x5.toInt + 3) ≤ 39)) (hp3 : ((0 : Int) ≤ (i 6019).toInt) ∧ (((i 6019).toInt + 3) ≤ 900)) : km 9 13 [.ref 94, .int x1, .int 1, .int 1, .int x4, .int x5] (ks i a q r) (kVI w13_94_l11_l21_K1 i a q r (fun v i1 a1 q1 r1 => (i1 6019).toInt = ((i 6019).toInt + 3))) := by
  have hG := kG_self w13_94_l11_l21_K1 hI hr
  refine km_ofI (q := (mi_h13, mi_c13)) rfl (by decide) (Nat.le_of_ble_eq_true rfl) ?_
  intro P hP
  have r1 : ((0 : Int) ≤ ((a 95).getD x1.toNatClampNeg 0).toInt) ∧ (((a 95).getD x1.toNatClampNeg 0).toInt ≤ 7) := hG.I.2.2.1 95 (x1.toNatClampNeg)
  have fi_6019 : ((0 : Int) ≤ (i 6019).toInt) ∧ ((i 6019).toInt ≤ 1000) := hG.I.1 6019
  refine fo_goL mi_k13 fz13_0_2_4 [(0, .ref 94), (1, .int x1), (2, .int 1), (3, .int 1), (4, .int x4), (5, .int x5)] [.int 40, .int x5] rfl ?_
  refine ft_ifS mi_k13 (decide (x5 < 40)) 9 7 [] (by rfl) (fun c => ?_) (fun c => ?_)
  ·
    have c2 : x5.toInt < (40 : Int32).toInt := kd_lt c; clear c
    refine fo_goS mi_k13 fz13_9_2_11 [.int 1, .int 1] rfl ?_
    refine ko_callPI mi_k13.1 (pc := 11) (ls := [(0, .ref 94), (1, .int x1), (2, .int 1), (3, .int 1), (4, .int x4), (5, .int x5)]) (st := [.int 1, .int 1]) (h := ks i a q r) (i := (.invokestatic 39, 3, 11, 0, 9, 0, 298)) (mi_k13.2 _ _ (by rfl)) (ft_invS mi_pq11 (by rfl)) (cy := mi_c11) mi_pq11 rfl (kc11_l01_l11 hG.I hG.R ) (by decide) ?_
    intro vg3 hg3
    have z4 : vg3.toInt = 0 := hg3
    have evvg3 := kj_eq (oz236 z4) (by decide : (0 : Int32).toInt = 0)
    subst evvg3
    refine ft_goL mi_k13 5 23 [(6, .int 0), (0, .ref 94), (1, .int x1), (2, .int 1), (3, .int 1), (4, .int x4), (5, .int x5)] [.int (0 * 4), .ref (mi_RO + 3)] (by rfl) ?_
    refine ko_top (by decide : (0 * 4 : Int32) = 0) ?_
    refine fo_goS mi_k13 fz13_23_2_25 [.int (0 + 1), .ref (mi_RO + 3)] rfl ?_
    refine ko_top (by decide : (0 + 1 : Int32) = 1) ?_
    refine ft_ro mi_k13 (w := 10) (by decide +kernel) (by decide +kernel) ?_
    refine fo_goL mi_k13 fz13_26_4_34 [(7, .int 10), (6, .int 0), (0, .ref 94), (1, .int x1), (2, .int 1), (3, .int 1), (4, .int x4), (5, .int x5)] [.int 24, .int (i 6019)] rfl ?_
    refine ft_ifS mi_k13 (decide (24 ≤ (i 6019))) 48 37 [] (by rfl) (fun c => ?_) (fun c => ?_)
    ·
      have c6 : (24 : Int32).toInt ≤ (i 6019).toInt := kd_le c; clear c
      have s7 : ((i 6019) + 1).toInt = (i 6019).toInt + (1 : Int32).toInt := kd_add (oz1332 c6 kn24 kn1) (oz951 fi_6019.2 kn1)
      have hJ8 := kG_i hG 6019 rfl (v := ((i 6019) + 1)) ⟨(oz1333 c6 s7 kn24 kn1), (oz1385 hp3.2 s7 kn1)⟩
      have s9 : (x5 + 1).toInt = x5.toInt + (1 : Int32).toInt := kd_add (oz12 hp2.1 kn1) (oz1366 hp2.2 kn1)
      first | refine fo_goI mi_k13 fz13_48_15_72 [.int (x5 + 1), .int x4, .int 1, .int x1, .ref 94] (ku i 6019 ((i 6019) + 1)) (by rfl) ?_ | refine ft_go mi_k13 15 72 [(7, .int 10), (6, .int 0), (0, .ref 94), (1, .int x1), (2, .int 1), (3, .int 1), (4, .int x4), (5, .int x5)] [.int (x5 + 1), .int x4, .int 1, .int x1, .ref 94] (ku i 6019 ((i 6019) + 1)) a q r (by rfl) ?_
      refine ko_callI mi_k13.1 (pc := 72) (ls := [(7, .int 10), (6, .int 0), (0, .ref 94), (1, .int x1), (2, .int 1), (3, .int 1), (4, .int x4), (5, .int x5)]) (st := [.int (x5 + 1), .int x4, .int 1, .int x1, .ref 94]) (h := ks (ku i 6019 ((i 6019) + 1)) a q r) (i := (.invokevirtual 43, 3, 14, 0, 9, 0, 301)) (mi_k13.2 _ _ (by rfl)) (ft_invS mi_pq14 (by rfl)) (cy := mi_c14) mi_pq14 rfl (kc14_94_l11_K1 hJ8.I hJ8.R x1 x4 (x5 + 1) (oz1339 hp0.1 hp0.2) (oz1381 hp1) (oz1372 hp2.1 hp2.2 s9 kn1) (oz1388 c6 hp3.2 s7 kn24 kn1)) (by decide) ?_
      intro vg10 ig10 ag10 qg10 rg10 kg10 hg10
      have hGg10 := kG_call hJ8 kg10 (by decide +kernel)
      have z11 : (ig10 6019).toInt = (((i 6019) + 1).toInt + 2) := hg10
      exact ft_ret mi_k13 (by rfl) (hP vg10 _ _ _ _ hGg10 (oz1389 s7 z11 kn1))
    ·
      have c12 : (i 6019).toInt < (24 : Int32).toInt := kd_leF c; clear c
      refine fo_goS mi_k13 fz13_37_5_47 [.int 10, .int (i 6019), .ref 96] rfl ?_
      refine ko_iast3 mi_k13.1 (n := 24) (c := 24) (ax := (0, 0, 0, 0, 0)) (mi_k13.2 _ _ (by rfl)) (by rfl) (ksG96 _ _ _ _) (ksA96 _ _ _ _) (hG.I.2.1 96) rfl (oz3 fi_6019.1) (oz1343 c12 kn24) ?_
      intro a13 ea13 fa13
      have hJ13 := kG_a3 hG 96 rfl ea13 fa13 (kd_bd _)
      have s14 : ((i 6019) + 1).toInt = (i 6019).toInt + (1 : Int32).toInt := kd_add (oz12 fi_6019.1 kn1) (oz951 fi_6019.2 kn1)
      have hJ15 := kG_i hJ13 6019 rfl (v := ((i 6019) + 1)) ⟨(oz14 fi_6019.1 s14 kn1), (oz1385 hp3.2 s14 kn1)⟩
      have s16 : (x5 + 1).toInt = x5.toInt + (1 : Int32).toInt := kd_add (oz12 hp2.1 kn1) (oz1366 hp2.2 kn1)
      first | refine fo_goI mi_k13 fz13_48_15_72 [.int (x5 + 1), .int x4, .int 1, .int x1, .ref 94] (ku i 6019 ((i 6019) + 1)) (by rfl) ?_ | refine ft_go mi_k13 15 72 [(7, .int 10), (6, .int 0), (0, .ref 94), (1, .int x1), (2, .int 1), (3, .int 1), (4, .int x4), (5, .int x5)] [.int (x5 + 1), .int x4, .int 1, .int x1, .ref 94] (ku i 6019 ((i 6019) + 1)) a13 q r (by rfl) ?_
      have r17 : ((0 : Int) ≤ ((a13 95).getD x1.toNatClampNeg 0).toInt) ∧ (((a13 95).getD x1.toNatClampNeg 0).toInt ≤ 7) := hJ15.I.2.2.1 95 (x1.toNatClampNeg)
      have u18 : ((a13 95).getD x1.toNatClampNeg 0).toInt = ((a 95).getD x1.toNatClampNeg 0).toInt := congrArg (fun z : List Int32 => (z.getD x1.toNatClampNeg 0).toInt) (fa13 95 (by decide))
      refine ko_callI mi_k13.1 (pc := 72) (ls := [(7, .int 10), (6, .int 0), (0, .ref 94), (1, .int x1), (2, .int 1), (3, .int 1), (4, .int x4), (5, .int x5)]) (st := [.int (x5 + 1), .int x4, .int 1, .int x1, .ref 94]) (h := ks (ku i 6019 ((i 6019) + 1)) a13 q r) (i := (.invokevirtual 43, 3, 14, 0, 9, 0, 301)) (mi_k13.2 _ _ (by rfl)) (ft_invS mi_pq14 (by rfl)) (cy := mi_c14) mi_pq14 rfl (kc14_94_l11_K1 hJ15.I hJ15.R x1 x4 (x5 + 1) (oz1339 hp0.1 hp0.2) (oz1383 hp1 u18) (oz1372 hp2.1 hp2.2 s16 kn1) (oz1390 fi_6019.1 hp3.2 s14 kn1)) (by decide) ?_
      intro vg19 ig19 ag19 qg19 rg19 kg19 hg19
      have hGg19 := kG_call hJ15 kg19 (by decide +kernel)
      have z20 : (ig19 6019).toInt = (((i 6019) + 1).toInt + 2) := hg19
      exact ft_ret mi_k13 (by rfl) (hP vg19 _ _ _ _ hGg19 (oz1389 s14 z20 kn1))
  ·
    have c21 : (40 : Int32).toInt ≤ x5.toInt := kd_ltF c; clear c
    exact (oz1376 c21 hp2.2 kn40).elim
set_option maxRecDepth 100000 in
theorem kc11_l01_l12 {i : Nat → Int32} {a : Nat → List Int32} {q : Nat → List Int64} {r : Nat → Nat} (hI : kI i a q) (hr : kr r)  : km 1 11 [.int 1, .int 2] (ks i a q r) (kPI (ks i a q r) (fun v => v.toInt = 0)) := by
  have hG := kG_self kW0 hI hr
  refine km_ofPI (q := (mi_h11, mi_c11)) rfl (by decide) (Nat.le_of_ble_eq_true rfl) ?_
  intro P hP
  first | refine ft_goL mi_k11 16 26 [(3, .int 0), (2, .int 1), (0, .int 1), (1, .int 2)] [.int (1 * 4), .ref (mi_RO + 3)] (by rfl) ?_
  refine ko_top (by decide : (1 * 4 : Int32) = 4) ?_
  refine fo_goS mi_k11 fz11_26_2_28 [.int (4 + 2), .ref (mi_RO + 3)] rfl ?_
  refine ko_top (by decide : (4 + 2 : Int32) = 6) ?_
  refine ft_ro mi_k11 (w := 0) (by decide +kernel) (by decide +kernel) ?_
  refine ft_goS mi_k11 3 38 [.int 1, .ref (mi_RO + 4)] (by rfl) ?_
  refine ft_ro mi_k11 (w := 0) (by decide +kernel) (by decide +kernel) ?_
  refine fo_goL mi_k11 fz11_39_2_43 [(3, .int (0 + 1)), (2, .int 0), (0, .int 1), (1, .int 2)] [] rfl ?_
  refine ko_loc (by decide : (0 + 1 : Int32) = 1) ?_
  first | refine ft_goL mi_k11 7 47 [(3, .int 1), (2, .int 0), (0, .int 1), (1, .int 2)] [.int 0] (by rfl) ?_ | refine ft_goS mi_k11 7 47 [.int 0] (by rfl) ?_
  exact ft_ret mi_k11 (by rfl) (hP 0 (oz236 kn0))
noncomputable def w14_94_l12_K1 : kW := ([], [], [], [])
set_option maxRecDepth 100000 in
theorem kc14_94_l12_K1 {i : Nat → Int32} {a : Nat → List Int32} {q : Nat → List Int64} {r : Nat → Nat} (hI : kI i a q) (hr : kr r) (x1 : Int32) (x3 : Int32) (x4 : Int32) (hp0 : ((0 : Int) ≤ x1.toInt) ∧ (x1.toInt ≤ 49)) (hp1 : ((a 95).getD x1.toNatClampNeg 0).toInt = 1) (hp2 : ((0 : Int) ≤ x4.toInt) ∧ ((x4.toInt + 0) ≤ 39)) (hp3 : ((0 : Int) ≤ (i 6019).toInt) ∧ (((i 6019).toInt + 0) ≤ 900)) : km 1 14 [.ref 94, .int x1, .int 2, .int x3, .int x4] (ks i a q r) (kVI w14_94_l12_K1 i a q r (fun v i1 a1 q1 r1 => (i1 6019).toInt = ((i 6019).toInt + 0))) := by
  have hG := kG_self w14_94_l12_K1 hI hr
  refine km_ofI (q := (mi_h14, mi_c14)) rfl (by decide) (Nat.le_of_ble_eq_true rfl) ?_
  intro P hP
  have r1 : ((0 : Int) ≤ ((a 95).getD x1.toNatClampNeg 0).toInt) ∧ (((a 95).getD x1.toNatClampNeg 0).toInt ≤ 7) := hG.I.2.2.1 95 (x1.toNatClampNeg)
  refine fo_goL mi_k14 fz14_0_3_5 [(0, .ref 94), (1, .int x1), (2, .int 2), (3, .int x3), (4, .int x4)] [.int x1, .ref 95] rfl ?_
  refine ko_iald3 mi_k14.1 (n := 50) (c := 50) (ax := (0, 0, 0, 0, 0)) (mi_k14.2 _ _ (by rfl)) (by rfl) (ksG95 _ _ _ _) (hG.I.2.1 95) rfl (oz3 hp0.1) (oz1336 hp0.2) ?_
  refine ko_top (kj_eq (oz1381 hp1) (by decide) : ((a 95).getD x1.toNatClampNeg 0) = 1) ?_
  refine ft_goL mi_k14 6 57 [(5, .int 1), (0, .ref 94), (1, .int x1), (2, .int 2), (3, .int x3), (4, .int x4)] [.int (x3 ^^^ x1)] (by rfl) ?_
  exact ft_ret mi_k14 (by rfl) (hP (x3 ^^^ x1) _ _ _ _ hG oz1338)
noncomputable def w13_94_l11_l22_K1 : kW := ([6019], [96], [], [])
set_option maxRecDepth 100000 in
theorem kc13_94_l11_l22_K1 {i : Nat → Int32} {a : Nat → List Int32} {q : Nat → List Int64} {r : Nat → Nat} (hI : kI i a q) (hr : kr r) (x1 : Int32) (x4 : Int32) (x5 : Int32) (hp0 : ((0 : Int) ≤ x1.toInt) ∧ (x1.toInt ≤ 49)) (hp1 : ((a 95).getD x1.toNatClampNeg 0).toInt = 1) (hp2 : ((0 : Int) ≤ x5.toInt) ∧ ((x5.toInt + 1) ≤ 39)) (hp3 : ((0 : Int) ≤ (i 6019).toInt) ∧ (((i 6019).toInt + 1) ≤ 900)) : km 3 13 [.ref 94, .int x1, .int 1, .int 2, .int x4, .int x5] (ks i a q r) (kVI w13_94_l11_l22_K1 i a q r (fun v i1 a1 q1 r1 => (i1 6019).toInt = ((i 6019).toInt + 1))) := by
  have hG := kG_self w13_94_l11_l22_K1 hI hr
  refine km_ofI (q := (mi_h13, mi_c13)) rfl (by decide) (Nat.le_of_ble_eq_true rfl) ?_
  intro P hP
  have r1 : ((0 : Int) ≤ ((a 95).getD x1.toNatClampNeg 0).toInt) ∧ (((a 95).getD x1.toNatClampNeg 0).toInt ≤ 7) := hG.I.2.2.1 95 (x1.toNatClampNeg)
  have fi_6019 : ((0 : Int) ≤ (i 6019).toInt) ∧ ((i 6019).toInt ≤ 1000) := hG.I.1 6019
  refine fo_goL mi_k13 fz13_0_2_4 [(0, .ref 94), (1, .int x1), (2, .int 1), (3, .int 2), (4, .int x4), (5, .int x5)] [.int 40, .int x5] rfl ?_
  refine ft_ifS mi_k13 (decide (x5 < 40)) 9 7 [] (by rfl) (fun c => ?_) (fun c => ?_)
  ·
    have c2 : x5.toInt < (40 : Int32).toInt := kd_lt c; clear c
    refine fo_goS mi_k13 fz13_9_2_11 [.int 2, .int 1] rfl ?_
    refine ko_callPI mi_k13.1 (pc := 11) (ls := [(0, .ref 94), (1, .int x1), (2, .int 1), (3, .int 2), (4, .int x4), (5, .int x5)]) (st := [.int 2, .int 1]) (h := ks i a q r) (i := (.invokestatic 39, 3, 11, 0, 9, 0, 298)) (mi_k13.2 _ _ (by rfl)) (ft_invS mi_pq11 (by rfl)) (cy := mi_c11) mi_pq11 rfl (kc11_l01_l12 hG.I hG.R ) (by decide) ?_
    intro vg3 hg3
    have z4 : vg3.toInt = 0 := hg3
    have evvg3 := kj_eq (oz236 z4) (by decide : (0 : Int32).toInt = 0)
    subst evvg3
    refine ft_goL mi_k13 5 23 [(6, .int 0), (0, .ref 94), (1, .int x1), (2, .int 1), (3, .int 2), (4, .int x4), (5, .int x5)] [.int (0 * 4), .ref (mi_RO + 3)] (by rfl) ?_
    refine ko_top (by decide : (0 * 4 : Int32) = 0) ?_
    refine fo_goS mi_k13 fz13_23_2_25 [.int (0 + 2), .ref (mi_RO + 3)] rfl ?_
    refine ko_top (by decide : (0 + 2 : Int32) = 2) ?_
    refine ft_ro mi_k13 (w := 11) (by decide +kernel) (by decide +kernel) ?_
    refine fo_goL mi_k13 fz13_26_4_34 [(7, .int 11), (6, .int 0), (0, .ref 94), (1, .int x1), (2, .int 1), (3, .int 2), (4, .int x4), (5, .int x5)] [.int 24, .int (i 6019)] rfl ?_
    refine ft_ifS mi_k13 (decide (24 ≤ (i 6019))) 48 37 [] (by rfl) (fun c => ?_) (fun c => ?_)
    ·
      have c6 : (24 : Int32).toInt ≤ (i 6019).toInt := kd_le c; clear c
      have s7 : ((i 6019) + 1).toInt = (i 6019).toInt + (1 : Int32).toInt := kd_add (oz1332 c6 kn24 kn1) (oz951 fi_6019.2 kn1)
      have hJ8 := kG_i hG 6019 rfl (v := ((i 6019) + 1)) ⟨(oz1333 c6 s7 kn24 kn1), (oz1334 hp3.2 s7 kn1)⟩
      have s9 : (x5 + 1).toInt = x5.toInt + (1 : Int32).toInt := kd_add (oz12 hp2.1 kn1) (oz1335 hp2.2 kn1)
      first | refine fo_goI mi_k13 fz13_48_15_72 [.int (x5 + 1), .int x4, .int 2, .int x1, .ref 94] (ku i 6019 ((i 6019) + 1)) (by rfl) ?_ | refine ft_go mi_k13 15 72 [(7, .int 11), (6, .int 0), (0, .ref 94), (1, .int x1), (2, .int 1), (3, .int 2), (4, .int x4), (5, .int x5)] [.int (x5 + 1), .int x4, .int 2, .int x1, .ref 94] (ku i 6019 ((i 6019) + 1)) a q r (by rfl) ?_
      refine ko_callI mi_k13.1 (pc := 72) (ls := [(7, .int 11), (6, .int 0), (0, .ref 94), (1, .int x1), (2, .int 1), (3, .int 2), (4, .int x4), (5, .int x5)]) (st := [.int (x5 + 1), .int x4, .int 2, .int x1, .ref 94]) (h := ks (ku i 6019 ((i 6019) + 1)) a q r) (i := (.invokevirtual 43, 3, 14, 0, 9, 0, 301)) (mi_k13.2 _ _ (by rfl)) (ft_invS mi_pq14 (by rfl)) (cy := mi_c14) mi_pq14 rfl (kc14_94_l12_K1 hJ8.I hJ8.R x1 x4 (x5 + 1) (oz1339 hp0.1 hp0.2) (oz1381 hp1) (oz1340 hp2.1 hp2.2 s9 kn1) (oz1341 c6 hp3.2 s7 kn24 kn1)) (by decide) ?_
      intro vg10 ig10 ag10 qg10 rg10 kg10 hg10
      have hGg10 := kG_call hJ8 kg10 (by decide +kernel)
      have efig10_6019 : (ig10 6019).toInt = ((i 6019) + 1).toInt := kg10.ti 6019 rfl
      exact ft_ret mi_k13 (by rfl) (hP vg10 _ _ _ _ hGg10 (oz1342 efig10_6019 s7 kn1))
    ·
      have c12 : (i 6019).toInt < (24 : Int32).toInt := kd_leF c; clear c
      refine fo_goS mi_k13 fz13_37_5_47 [.int 11, .int (i 6019), .ref 96] rfl ?_
      refine ko_iast3 mi_k13.1 (n := 24) (c := 24) (ax := (0, 0, 0, 0, 0)) (mi_k13.2 _ _ (by rfl)) (by rfl) (ksG96 _ _ _ _) (ksA96 _ _ _ _) (hG.I.2.1 96) rfl (oz3 fi_6019.1) (oz1343 c12 kn24) ?_
      intro a13 ea13 fa13
      have hJ13 := kG_a3 hG 96 rfl ea13 fa13 (kd_bd _)
      have s14 : ((i 6019) + 1).toInt = (i 6019).toInt + (1 : Int32).toInt := kd_add (oz12 fi_6019.1 kn1) (oz951 fi_6019.2 kn1)
      have hJ15 := kG_i hJ13 6019 rfl (v := ((i 6019) + 1)) ⟨(oz14 fi_6019.1 s14 kn1), (oz1334 hp3.2 s14 kn1)⟩
      have s16 : (x5 + 1).toInt = x5.toInt + (1 : Int32).toInt := kd_add (oz12 hp2.1 kn1) (oz1335 hp2.2 kn1)
      first | refine fo_goI mi_k13 fz13_48_15_72 [.int (x5 + 1), .int x4, .int 2, .int x1, .ref 94] (ku i 6019 ((i 6019) + 1)) (by rfl) ?_ | refine ft_go mi_k13 15 72 [(7, .int 11), (6, .int 0), (0, .ref 94), (1, .int x1), (2, .int 1), (3, .int 2), (4, .int x4), (5, .int x5)] [.int (x5 + 1), .int x4, .int 2, .int x1, .ref 94] (ku i 6019 ((i 6019) + 1)) a13 q r (by rfl) ?_
      have r17 : ((0 : Int) ≤ ((a13 95).getD x1.toNatClampNeg 0).toInt) ∧ (((a13 95).getD x1.toNatClampNeg 0).toInt ≤ 7) := hJ15.I.2.2.1 95 (x1.toNatClampNeg)
      have u18 : ((a13 95).getD x1.toNatClampNeg 0).toInt = ((a 95).getD x1.toNatClampNeg 0).toInt := congrArg (fun z : List Int32 => (z.getD x1.toNatClampNeg 0).toInt) (fa13 95 (by decide))
      refine ko_callI mi_k13.1 (pc := 72) (ls := [(7, .int 11), (6, .int 0), (0, .ref 94), (1, .int x1), (2, .int 1), (3, .int 2), (4, .int x4), (5, .int x5)]) (st := [.int (x5 + 1), .int x4, .int 2, .int x1, .ref 94]) (h := ks (ku i 6019 ((i 6019) + 1)) a13 q r) (i := (.invokevirtual 43, 3, 14, 0, 9, 0, 301)) (mi_k13.2 _ _ (by rfl)) (ft_invS mi_pq14 (by rfl)) (cy := mi_c14) mi_pq14 rfl (kc14_94_l12_K1 hJ15.I hJ15.R x1 x4 (x5 + 1) (oz1339 hp0.1 hp0.2) (oz1383 hp1 u18) (oz1340 hp2.1 hp2.2 s16 kn1) (oz1345 fi_6019.1 hp3.2 s14 kn1)) (by decide) ?_
      intro vg19 ig19 ag19 qg19 rg19 kg19 hg19
      have hGg19 := kG_call hJ15 kg19 (by decide +kernel)
      have efig19_6019 : (ig19 6019).toInt = ((i 6019) + 1).toInt := kg19.ti 6019 rfl
      exact ft_ret mi_k13 (by rfl) (hP vg19 _ _ _ _ hGg19 (oz1342 efig19_6019 s14 kn1))
  ·
    have c21 : (40 : Int32).toInt ≤ x5.toInt := kd_ltF c; clear c
    exact (oz1346 c21 hp2.2 kn40).elim
set_option maxRecDepth 100000 in
theorem kc11_l01_l13 {i : Nat → Int32} {a : Nat → List Int32} {q : Nat → List Int64} {r : Nat → Nat} (hI : kI i a q) (hr : kr r)  : km 1 11 [.int 1, .int 3] (ks i a q r) (kPI (ks i a q r) (fun v => v.toInt = 0)) := by
  have hG := kG_self kW0 hI hr
  refine km_ofPI (q := (mi_h11, mi_c11)) rfl (by decide) (Nat.le_of_ble_eq_true rfl) ?_
  intro P hP
  first | refine ft_goL mi_k11 16 26 [(3, .int 0), (2, .int 1), (0, .int 1), (1, .int 3)] [.int (1 * 4), .ref (mi_RO + 3)] (by rfl) ?_
  refine ko_top (by decide : (1 * 4 : Int32) = 4) ?_
  refine fo_goS mi_k11 fz11_26_2_28 [.int (4 + 3), .ref (mi_RO + 3)] rfl ?_
  refine ko_top (by decide : (4 + 3 : Int32) = 7) ?_
  refine ft_ro mi_k11 (w := 0) (by decide +kernel) (by decide +kernel) ?_
  refine ft_goS mi_k11 3 38 [.int 1, .ref (mi_RO + 4)] (by rfl) ?_
  refine ft_ro mi_k11 (w := 0) (by decide +kernel) (by decide +kernel) ?_
  refine fo_goL mi_k11 fz11_39_2_43 [(3, .int (0 + 1)), (2, .int 0), (0, .int 1), (1, .int 3)] [] rfl ?_
  refine ko_loc (by decide : (0 + 1 : Int32) = 1) ?_
  first | refine ft_goL mi_k11 7 47 [(3, .int 1), (2, .int 0), (0, .int 1), (1, .int 3)] [.int 0] (by rfl) ?_ | refine ft_goS mi_k11 7 47 [.int 0] (by rfl) ?_
  exact ft_ret mi_k11 (by rfl) (hP 0 (oz236 kn0))
noncomputable def w14_94_l13_K1 : kW := ([6019], [96], [], [])
set_option maxRecDepth 100000 in
theorem kc14_94_l13_K1 {i : Nat → Int32} {a : Nat → List Int32} {q : Nat → List Int64} {r : Nat → Nat} (hI : kI i a q) (hr : kr r) (x1 : Int32) (x3 : Int32) (x4 : Int32) (hp0 : ((0 : Int) ≤ x1.toInt) ∧ (x1.toInt ≤ 49)) (hp1 : ((a 95).getD x1.toNatClampNeg 0).toInt = 1) (hp2 : ((0 : Int) ≤ x4.toInt) ∧ ((x4.toInt + 3) ≤ 39)) (hp3 : ((0 : Int) ≤ (i 6019).toInt) ∧ (((i 6019).toInt + 4) ≤ 900)) : km 11 14 [.ref 94, .int x1, .int 3, .int x3, .int x4] (ks i a q r) (kVI w14_94_l13_K1 i a q r (fun v i1 a1 q1 r1 => (i1 6019).toInt = ((i 6019).toInt + 4))) := by
  have hG := kG_self w14_94_l13_K1 hI hr
  refine km_ofI (q := (mi_h14, mi_c14)) rfl (by decide) (Nat.le_of_ble_eq_true rfl) ?_
  intro P hP
  have r1 : ((0 : Int) ≤ ((a 95).getD x1.toNatClampNeg 0).toInt) ∧ (((a 95).getD x1.toNatClampNeg 0).toInt ≤ 7) := hG.I.2.2.1 95 (x1.toNatClampNeg)
  have fi_6019 : ((0 : Int) ≤ (i 6019).toInt) ∧ ((i 6019).toInt ≤ 1000) := hG.I.1 6019
  refine fo_goL mi_k14 fz14_0_3_5 [(0, .ref 94), (1, .int x1), (2, .int 3), (3, .int x3), (4, .int x4)] [.int x1, .ref 95] rfl ?_
  refine ko_iald3 mi_k14.1 (n := 50) (c := 50) (ax := (0, 0, 0, 0, 0)) (mi_k14.2 _ _ (by rfl)) (by rfl) (ksG95 _ _ _ _) (hG.I.2.1 95) rfl (oz3 hp0.1) (oz1336 hp0.2) ?_
  refine ko_top (kj_eq (oz1381 hp1) (by decide) : ((a 95).getD x1.toNatClampNeg 0) = 1) ?_
  refine ft_goL mi_k14 9 66 [(5, .int 1), (0, .ref 94), (1, .int x1), (2, .int 3), (3, .int x3), (4, .int x4)] [.int x4, .int x3, .int 1, .int 1, .int x1, .ref 94] (by rfl) ?_
  refine ko_callI mi_k14.1 (pc := 66) (ls := [(5, .int 1), (0, .ref 94), (1, .int x1), (2, .int 3), (3, .int x3), (4, .int x4)]) (st := [.int x4, .int x3, .int 1, .int 1, .int x1, .ref 94]) (h := ks i a q r) (i := (.invokevirtual 35, 3, 13, 0, 9, 0, 297)) (mi_k14.2 _ _ (by rfl)) (ft_invS mi_pq13 (by rfl)) (cy := mi_c13) mi_pq13 rfl (kc13_94_l11_l21_K1 hG.I hG.R x1 x3 x4 (oz1339 hp0.1 hp0.2) (oz1381 hp1) (oz1396 hp2.1 hp2.2) (oz1397 fi_6019.1 hp3.2)) (by decide) ?_
  intro vg2 ig2 ag2 qg2 rg2 kg2 hg2
  have hGg2 := kG_call hG kg2 (by decide +kernel)
  have fig2_6019 : ((0 : Int) ≤ (ig2 6019).toInt) ∧ ((ig2 6019).toInt ≤ 1000) := hGg2.I.1 6019
  have z3 : (ig2 6019).toInt = ((i 6019).toInt + 3) := hg2
  refine fo_goL mi_k14 fz14_69_8_81 [(6, .int vg2), (5, .int 1), (0, .ref 94), (1, .int x1), (2, .int 3), (3, .int x3), (4, .int x4)] [.int x4, .int 1, .int 2, .int 1, .int x1, .ref 94, .int vg2] rfl ?_
  have r4 : ((0 : Int) ≤ ((ag2 95).getD x1.toNatClampNeg 0).toInt) ∧ (((ag2 95).getD x1.toNatClampNeg 0).toInt ≤ 7) := hGg2.I.2.2.1 95 (x1.toNatClampNeg)
  have u5 : ((ag2 95).getD x1.toNatClampNeg 0).toInt = ((a 95).getD x1.toNatClampNeg 0).toInt := congrArg (fun z : List Int32 => (z.getD x1.toNatClampNeg 0).toInt) (kg2.fa 95 rfl)
  refine ko_callI mi_k14.1 (pc := 81) (ls := [(6, .int vg2), (5, .int 1), (0, .ref 94), (1, .int x1), (2, .int 3), (3, .int x3), (4, .int x4)]) (st := [.int x4, .int 1, .int 2, .int 1, .int x1, .ref 94, .int vg2]) (h := ks ig2 ag2 qg2 rg2) (i := (.invokevirtual 35, 3, 13, 0, 9, 0, 297)) (mi_k14.2 _ _ (by rfl)) (ft_invS mi_pq13 (by rfl)) (cy := mi_c13) mi_pq13 rfl (kc13_94_l11_l22_K1 hGg2.I hGg2.R x1 1 x4 (oz1339 hp0.1 hp0.2) (oz1383 hp1 u5) (oz1398 hp2.1 hp2.2) (oz1399 fig2_6019.1 hp3.2 z3)) (by decide) ?_
  intro vg6 ig6 ag6 qg6 rg6 kg6 hg6
  have hGg6 := kG_call hGg2 kg6 (by decide +kernel)
  have z7 : (ig6 6019).toInt = ((ig2 6019).toInt + 1) := hg6
  have b8 : ((-2147483648 : Int) ≤ vg2.toInt) ∧ (vg2.toInt ≤ 2147483647) := kd_bd vg2
  have b9 : ((-2147483648 : Int) ≤ vg6.toInt) ∧ (vg6.toInt ≤ 2147483647) := kd_bd vg6
  refine fo_goS mi_k14 fz14_84_1_85 [.int (vg2 - vg6)] rfl ?_
  exact ft_ret mi_k14 (by rfl) (hP (vg2 - vg6) _ _ _ _ hGg6 (oz1400 z3 z7))
noncomputable def w13_94_l11_l23_K1 : kW := ([6019], [96], [], [])
set_option maxRecDepth 100000 in
theorem kc13_94_l11_l23_K1 {i : Nat → Int32} {a : Nat → List Int32} {q : Nat → List Int64} {r : Nat → Nat} (hI : kI i a q) (hr : kr r) (x1 : Int32) (x4 : Int32) (x5 : Int32) (hp0 : ((0 : Int) ≤ x1.toInt) ∧ (x1.toInt ≤ 49)) (hp1 : ((a 95).getD x1.toNatClampNeg 0).toInt = 1) (hp2 : ((0 : Int) ≤ x5.toInt) ∧ ((x5.toInt + 4) ≤ 39)) (hp3 : ((0 : Int) ≤ (i 6019).toInt) ∧ (((i 6019).toInt + 5) ≤ 900)) : km 13 13 [.ref 94, .int x1, .int 1, .int 3, .int x4, .int x5] (ks i a q r) (kVI w13_94_l11_l23_K1 i a q r (fun v i1 a1 q1 r1 => (i1 6019).toInt = ((i 6019).toInt + 5))) := by
  have hG := kG_self w13_94_l11_l23_K1 hI hr
  refine km_ofI (q := (mi_h13, mi_c13)) rfl (by decide) (Nat.le_of_ble_eq_true rfl) ?_
  intro P hP
  have r1 : ((0 : Int) ≤ ((a 95).getD x1.toNatClampNeg 0).toInt) ∧ (((a 95).getD x1.toNatClampNeg 0).toInt ≤ 7) := hG.I.2.2.1 95 (x1.toNatClampNeg)
  have fi_6019 : ((0 : Int) ≤ (i 6019).toInt) ∧ ((i 6019).toInt ≤ 1000) := hG.I.1 6019
  refine fo_goL mi_k13 fz13_0_2_4 [(0, .ref 94), (1, .int x1), (2, .int 1), (3, .int 3), (4, .int x4), (5, .int x5)] [.int 40, .int x5] rfl ?_
  refine ft_ifS mi_k13 (decide (x5 < 40)) 9 7 [] (by rfl) (fun c => ?_) (fun c => ?_)
  ·
    have c2 : x5.toInt < (40 : Int32).toInt := kd_lt c; clear c
    refine fo_goS mi_k13 fz13_9_2_11 [.int 3, .int 1] rfl ?_
    refine ko_callPI mi_k13.1 (pc := 11) (ls := [(0, .ref 94), (1, .int x1), (2, .int 1), (3, .int 3), (4, .int x4), (5, .int x5)]) (st := [.int 3, .int 1]) (h := ks i a q r) (i := (.invokestatic 39, 3, 11, 0, 9, 0, 298)) (mi_k13.2 _ _ (by rfl)) (ft_invS mi_pq11 (by rfl)) (cy := mi_c11) mi_pq11 rfl (kc11_l01_l13 hG.I hG.R ) (by decide) ?_
    intro vg3 hg3
    have z4 : vg3.toInt = 0 := hg3
    have evvg3 := kj_eq (oz236 z4) (by decide : (0 : Int32).toInt = 0)
    subst evvg3
    refine ft_goL mi_k13 5 23 [(6, .int 0), (0, .ref 94), (1, .int x1), (2, .int 1), (3, .int 3), (4, .int x4), (5, .int x5)] [.int (0 * 4), .ref (mi_RO + 3)] (by rfl) ?_
    refine ko_top (by decide : (0 * 4 : Int32) = 0) ?_
    refine fo_goS mi_k13 fz13_23_2_25 [.int (0 + 3), .ref (mi_RO + 3)] rfl ?_
    refine ko_top (by decide : (0 + 3 : Int32) = 3) ?_
    refine ft_ro mi_k13 (w := 2) (by decide +kernel) (by decide +kernel) ?_
    refine fo_goL mi_k13 fz13_26_4_34 [(7, .int 2), (6, .int 0), (0, .ref 94), (1, .int x1), (2, .int 1), (3, .int 3), (4, .int x4), (5, .int x5)] [.int 24, .int (i 6019)] rfl ?_
    refine ft_ifS mi_k13 (decide (24 ≤ (i 6019))) 48 37 [] (by rfl) (fun c => ?_) (fun c => ?_)
    ·
      have c6 : (24 : Int32).toInt ≤ (i 6019).toInt := kd_le c; clear c
      have s7 : ((i 6019) + 1).toInt = (i 6019).toInt + (1 : Int32).toInt := kd_add (oz1332 c6 kn24 kn1) (oz951 fi_6019.2 kn1)
      have hJ8 := kG_i hG 6019 rfl (v := ((i 6019) + 1)) ⟨(oz1333 c6 s7 kn24 kn1), (oz1394 hp3.2 s7 kn1)⟩
      have s9 : (x5 + 1).toInt = x5.toInt + (1 : Int32).toInt := kd_add (oz12 hp2.1 kn1) (oz1395 hp2.2 kn1)
      first | refine fo_goI mi_k13 fz13_48_15_72 [.int (x5 + 1), .int x4, .int 3, .int x1, .ref 94] (ku i 6019 ((i 6019) + 1)) (by rfl) ?_ | refine ft_go mi_k13 15 72 [(7, .int 2), (6, .int 0), (0, .ref 94), (1, .int x1), (2, .int 1), (3, .int 3), (4, .int x4), (5, .int x5)] [.int (x5 + 1), .int x4, .int 3, .int x1, .ref 94] (ku i 6019 ((i 6019) + 1)) a q r (by rfl) ?_
      refine ko_callI mi_k13.1 (pc := 72) (ls := [(7, .int 2), (6, .int 0), (0, .ref 94), (1, .int x1), (2, .int 1), (3, .int 3), (4, .int x4), (5, .int x5)]) (st := [.int (x5 + 1), .int x4, .int 3, .int x1, .ref 94]) (h := ks (ku i 6019 ((i 6019) + 1)) a q r) (i := (.invokevirtual 43, 3, 14, 0, 9, 0, 301)) (mi_k13.2 _ _ (by rfl)) (ft_invS mi_pq14 (by rfl)) (cy := mi_c14) mi_pq14 rfl (kc14_94_l13_K1 hJ8.I hJ8.R x1 x4 (x5 + 1) (oz1339 hp0.1 hp0.2) (oz1381 hp1) (oz1401 hp2.1 hp2.2 s9 kn1) (oz1402 c6 hp3.2 s7 kn24 kn1)) (by decide) ?_
      intro vg10 ig10 ag10 qg10 rg10 kg10 hg10
      have hGg10 := kG_call hJ8 kg10 (by decide +kernel)
      have z11 : (ig10 6019).toInt = (((i 6019) + 1).toInt + 4) := hg10
      exact ft_ret mi_k13 (by rfl) (hP vg10 _ _ _ _ hGg10 (oz1403 s7 z11 kn1))
    ·
      have c12 : (i 6019).toInt < (24 : Int32).toInt := kd_leF c; clear c
      refine fo_goS mi_k13 fz13_37_5_47 [.int 2, .int (i 6019), .ref 96] rfl ?_
      refine ko_iast3 mi_k13.1 (n := 24) (c := 24) (ax := (0, 0, 0, 0, 0)) (mi_k13.2 _ _ (by rfl)) (by rfl) (ksG96 _ _ _ _) (ksA96 _ _ _ _) (hG.I.2.1 96) rfl (oz3 fi_6019.1) (oz1343 c12 kn24) ?_
      intro a13 ea13 fa13
      have hJ13 := kG_a3 hG 96 rfl ea13 fa13 (kd_bd _)
      have s14 : ((i 6019) + 1).toInt = (i 6019).toInt + (1 : Int32).toInt := kd_add (oz12 fi_6019.1 kn1) (oz951 fi_6019.2 kn1)
      have hJ15 := kG_i hJ13 6019 rfl (v := ((i 6019) + 1)) ⟨(oz14 fi_6019.1 s14 kn1), (oz1394 hp3.2 s14 kn1)⟩
      have s16 : (x5 + 1).toInt = x5.toInt + (1 : Int32).toInt := kd_add (oz12 hp2.1 kn1) (oz1395 hp2.2 kn1)
      first | refine fo_goI mi_k13 fz13_48_15_72 [.int (x5 + 1), .int x4, .int 3, .int x1, .ref 94] (ku i 6019 ((i 6019) + 1)) (by rfl) ?_ | refine ft_go mi_k13 15 72 [(7, .int 2), (6, .int 0), (0, .ref 94), (1, .int x1), (2, .int 1), (3, .int 3), (4, .int x4), (5, .int x5)] [.int (x5 + 1), .int x4, .int 3, .int x1, .ref 94] (ku i 6019 ((i 6019) + 1)) a13 q r (by rfl) ?_
      have r17 : ((0 : Int) ≤ ((a13 95).getD x1.toNatClampNeg 0).toInt) ∧ (((a13 95).getD x1.toNatClampNeg 0).toInt ≤ 7) := hJ15.I.2.2.1 95 (x1.toNatClampNeg)
      have u18 : ((a13 95).getD x1.toNatClampNeg 0).toInt = ((a 95).getD x1.toNatClampNeg 0).toInt := congrArg (fun z : List Int32 => (z.getD x1.toNatClampNeg 0).toInt) (fa13 95 (by decide))
      refine ko_callI mi_k13.1 (pc := 72) (ls := [(7, .int 2), (6, .int 0), (0, .ref 94), (1, .int x1), (2, .int 1), (3, .int 3), (4, .int x4), (5, .int x5)]) (st := [.int (x5 + 1), .int x4, .int 3, .int x1, .ref 94]) (h := ks (ku i 6019 ((i 6019) + 1)) a13 q r) (i := (.invokevirtual 43, 3, 14, 0, 9, 0, 301)) (mi_k13.2 _ _ (by rfl)) (ft_invS mi_pq14 (by rfl)) (cy := mi_c14) mi_pq14 rfl (kc14_94_l13_K1 hJ15.I hJ15.R x1 x4 (x5 + 1) (oz1339 hp0.1 hp0.2) (oz1383 hp1 u18) (oz1401 hp2.1 hp2.2 s16 kn1) (oz1404 fi_6019.1 hp3.2 s14 kn1)) (by decide) ?_
      intro vg19 ig19 ag19 qg19 rg19 kg19 hg19
      have hGg19 := kG_call hJ15 kg19 (by decide +kernel)
      have z20 : (ig19 6019).toInt = (((i 6019) + 1).toInt + 4) := hg19
      exact ft_ret mi_k13 (by rfl) (hP vg19 _ _ _ _ hGg19 (oz1403 s14 z20 kn1))
  ·
    have c21 : (40 : Int32).toInt ≤ x5.toInt := kd_ltF c; clear c
    exact (oz1405 c21 hp2.2 kn40).elim
set_option maxRecDepth 100000 in
theorem kc11_l02_l10 {i : Nat → Int32} {a : Nat → List Int32} {q : Nat → List Int64} {r : Nat → Nat} (hI : kI i a q) (hr : kr r)  : km 1 11 [.int 2, .int 0] (ks i a q r) (kPI (ks i a q r) (fun v => v.toInt = 0)) := by
  have hG := kG_self kW0 hI hr
  refine km_ofPI (q := (mi_h11, mi_c11)) rfl (by decide) (Nat.le_of_ble_eq_true rfl) ?_
  intro P hP
  first | refine ft_goL mi_k11 16 26 [(3, .int 0), (2, .int 2), (0, .int 2), (1, .int 0)] [.int (2 * 4), .ref (mi_RO + 3)] (by rfl) ?_
  refine ko_top (by decide : (2 * 4 : Int32) = 8) ?_
  refine fo_goS mi_k11 fz11_26_2_28 [.int (8 + 0), .ref (mi_RO + 3)] rfl ?_
  refine ko_top (by decide : (8 + 0 : Int32) = 8) ?_
  refine ft_ro mi_k11 (w := 0) (by decide +kernel) (by decide +kernel) ?_
  refine ft_goS mi_k11 3 38 [.int 2, .ref (mi_RO + 4)] (by rfl) ?_
  refine ft_ro mi_k11 (w := 0) (by decide +kernel) (by decide +kernel) ?_
  refine fo_goL mi_k11 fz11_39_2_43 [(3, .int (0 + 1)), (2, .int 0), (0, .int 2), (1, .int 0)] [] rfl ?_
  refine ko_loc (by decide : (0 + 1 : Int32) = 1) ?_
  first | refine ft_goL mi_k11 7 47 [(3, .int 1), (2, .int 0), (0, .int 2), (1, .int 0)] [.int 0] (by rfl) ?_ | refine ft_goS mi_k11 7 47 [.int 0] (by rfl) ?_
  exact ft_ret mi_k11 (by rfl) (hP 0 (oz236 kn0))
noncomputable def w14_94_l10_K2 : kW := ([], [], [], [])
set_option maxRecDepth 100000 in
theorem kc14_94_l10_K2 {i : Nat → Int32} {a : Nat → List Int32} {q : Nat → List Int64} {r : Nat → Nat} (hI : kI i a q) (hr : kr r) (x1 : Int32) (x3 : Int32) (x4 : Int32) (hp0 : ((0 : Int) ≤ x1.toInt) ∧ (x1.toInt ≤ 49)) (hp1 : ((a 95).getD x1.toNatClampNeg 0).toInt = 2) (hp2 : ((0 : Int) ≤ x4.toInt) ∧ ((x4.toInt + 0) ≤ 39)) (hp3 : ((0 : Int) ≤ (i 6019).toInt) ∧ (((i 6019).toInt + 0) ≤ 900)) : km 1 14 [.ref 94, .int x1, .int 0, .int x3, .int x4] (ks i a q r) (kVI w14_94_l10_K2 i a q r (fun v i1 a1 q1 r1 => (i1 6019).toInt = ((i 6019).toInt + 0))) := by
  have hG := kG_self w14_94_l10_K2 hI hr
  refine km_ofI (q := (mi_h14, mi_c14)) rfl (by decide) (Nat.le_of_ble_eq_true rfl) ?_
  intro P hP
  have r1 : ((0 : Int) ≤ ((a 95).getD x1.toNatClampNeg 0).toInt) ∧ (((a 95).getD x1.toNatClampNeg 0).toInt ≤ 7) := hG.I.2.2.1 95 (x1.toNatClampNeg)
  refine fo_goL mi_k14 fz14_0_3_5 [(0, .ref 94), (1, .int x1), (2, .int 0), (3, .int x3), (4, .int x4)] [.int x1, .ref 95] rfl ?_
  refine ko_iald3 mi_k14.1 (n := 50) (c := 50) (ax := (0, 0, 0, 0, 0)) (mi_k14.2 _ _ (by rfl)) (by rfl) (ksG95 _ _ _ _) (hG.I.2.1 95) rfl (oz3 hp0.1) (oz1336 hp0.2) ?_
  refine ko_top (kj_eq (oz1411 hp1) (by decide) : ((a 95).getD x1.toNatClampNeg 0) = 2) ?_
  have b2 : ((-2147483648 : Int) ≤ x3.toInt) ∧ (x3.toInt ≤ 2147483647) := kd_bd x3
  have b3 : ((-2147483648 : Int) ≤ x1.toInt) ∧ (x1.toInt ≤ 2147483647) := kd_bd x1
  refine ft_goL mi_k14 6 39 [(5, .int 2), (0, .ref 94), (1, .int x1), (2, .int 0), (3, .int x3), (4, .int x4)] [.int (x3 + x1)] (by rfl) ?_
  exact ft_ret mi_k14 (by rfl) (hP (x3 + x1) _ _ _ _ hG oz1338)
noncomputable def w13_94_l12_l20_K2 : kW := ([6019], [96], [], [])
set_option maxRecDepth 100000 in
theorem kc13_94_l12_l20_K2 {i : Nat → Int32} {a : Nat → List Int32} {q : Nat → List Int64} {r : Nat → Nat} (hI : kI i a q) (hr : kr r) (x1 : Int32) (x4 : Int32) (x5 : Int32) (hp0 : ((0 : Int) ≤ x1.toInt) ∧ (x1.toInt ≤ 49)) (hp1 : ((a 95).getD x1.toNatClampNeg 0).toInt = 2) (hp2 : ((0 : Int) ≤ x5.toInt) ∧ ((x5.toInt + 1) ≤ 39)) (hp3 : ((0 : Int) ≤ (i 6019).toInt) ∧ (((i 6019).toInt + 1) ≤ 900)) : km 3 13 [.ref 94, .int x1, .int 2, .int 0, .int x4, .int x5] (ks i a q r) (kVI w13_94_l12_l20_K2 i a q r (fun v i1 a1 q1 r1 => (i1 6019).toInt = ((i 6019).toInt + 1))) := by
  have hG := kG_self w13_94_l12_l20_K2 hI hr
  refine km_ofI (q := (mi_h13, mi_c13)) rfl (by decide) (Nat.le_of_ble_eq_true rfl) ?_
  intro P hP
  have r1 : ((0 : Int) ≤ ((a 95).getD x1.toNatClampNeg 0).toInt) ∧ (((a 95).getD x1.toNatClampNeg 0).toInt ≤ 7) := hG.I.2.2.1 95 (x1.toNatClampNeg)
  have fi_6019 : ((0 : Int) ≤ (i 6019).toInt) ∧ ((i 6019).toInt ≤ 1000) := hG.I.1 6019
  refine fo_goL mi_k13 fz13_0_2_4 [(0, .ref 94), (1, .int x1), (2, .int 2), (3, .int 0), (4, .int x4), (5, .int x5)] [.int 40, .int x5] rfl ?_
  refine ft_ifS mi_k13 (decide (x5 < 40)) 9 7 [] (by rfl) (fun c => ?_) (fun c => ?_)
  ·
    have c2 : x5.toInt < (40 : Int32).toInt := kd_lt c; clear c
    refine fo_goS mi_k13 fz13_9_2_11 [.int 0, .int 2] rfl ?_
    refine ko_callPI mi_k13.1 (pc := 11) (ls := [(0, .ref 94), (1, .int x1), (2, .int 2), (3, .int 0), (4, .int x4), (5, .int x5)]) (st := [.int 0, .int 2]) (h := ks i a q r) (i := (.invokestatic 39, 3, 11, 0, 9, 0, 298)) (mi_k13.2 _ _ (by rfl)) (ft_invS mi_pq11 (by rfl)) (cy := mi_c11) mi_pq11 rfl (kc11_l02_l10 hG.I hG.R ) (by decide) ?_
    intro vg3 hg3
    have z4 : vg3.toInt = 0 := hg3
    have evvg3 := kj_eq (oz236 z4) (by decide : (0 : Int32).toInt = 0)
    subst evvg3
    refine ft_goL mi_k13 5 23 [(6, .int 0), (0, .ref 94), (1, .int x1), (2, .int 2), (3, .int 0), (4, .int x4), (5, .int x5)] [.int (0 * 4), .ref (mi_RO + 3)] (by rfl) ?_
    refine ko_top (by decide : (0 * 4 : Int32) = 0) ?_
    refine fo_goS mi_k13 fz13_23_2_25 [.int (0 + 0), .ref (mi_RO + 3)] rfl ?_
    refine ko_top (by decide : (0 + 0 : Int32) = 0) ?_
    refine ft_ro mi_k13 (w := 1) (by decide +kernel) (by decide +kernel) ?_
    refine fo_goL mi_k13 fz13_26_4_34 [(7, .int 1), (6, .int 0), (0, .ref 94), (1, .int x1), (2, .int 2), (3, .int 0), (4, .int x4), (5, .int x5)] [.int 24, .int (i 6019)] rfl ?_
    refine ft_ifS mi_k13 (decide (24 ≤ (i 6019))) 48 37 [] (by rfl) (fun c => ?_) (fun c => ?_)
    ·
      have c6 : (24 : Int32).toInt ≤ (i 6019).toInt := kd_le c; clear c
      have s7 : ((i 6019) + 1).toInt = (i 6019).toInt + (1 : Int32).toInt := kd_add (oz1332 c6 kn24 kn1) (oz951 fi_6019.2 kn1)
      have hJ8 := kG_i hG 6019 rfl (v := ((i 6019) + 1)) ⟨(oz1333 c6 s7 kn24 kn1), (oz1334 hp3.2 s7 kn1)⟩
      have s9 : (x5 + 1).toInt = x5.toInt + (1 : Int32).toInt := kd_add (oz12 hp2.1 kn1) (oz1335 hp2.2 kn1)
      first | refine fo_goI mi_k13 fz13_48_15_72 [.int (x5 + 1), .int x4, .int 0, .int x1, .ref 94] (ku i 6019 ((i 6019) + 1)) (by rfl) ?_ | refine ft_go mi_k13 15 72 [(7, .int 1), (6, .int 0), (0, .ref 94), (1, .int x1), (2, .int 2), (3, .int 0), (4, .int x4), (5, .int x5)] [.int (x5 + 1), .int x4, .int 0, .int x1, .ref 94] (ku i 6019 ((i 6019) + 1)) a q r (by rfl) ?_
      refine ko_callI mi_k13.1 (pc := 72) (ls := [(7, .int 1), (6, .int 0), (0, .ref 94), (1, .int x1), (2, .int 2), (3, .int 0), (4, .int x4), (5, .int x5)]) (st := [.int (x5 + 1), .int x4, .int 0, .int x1, .ref 94]) (h := ks (ku i 6019 ((i 6019) + 1)) a q r) (i := (.invokevirtual 43, 3, 14, 0, 9, 0, 301)) (mi_k13.2 _ _ (by rfl)) (ft_invS mi_pq14 (by rfl)) (cy := mi_c14) mi_pq14 rfl (kc14_94_l10_K2 hJ8.I hJ8.R x1 x4 (x5 + 1) (oz1339 hp0.1 hp0.2) (oz1411 hp1) (oz1340 hp2.1 hp2.2 s9 kn1) (oz1341 c6 hp3.2 s7 kn24 kn1)) (by decide) ?_
      intro vg10 ig10 ag10 qg10 rg10 kg10 hg10
      have hGg10 := kG_call hJ8 kg10 (by decide +kernel)
      have efig10_6019 : (ig10 6019).toInt = ((i 6019) + 1).toInt := kg10.ti 6019 rfl
      exact ft_ret mi_k13 (by rfl) (hP vg10 _ _ _ _ hGg10 (oz1342 efig10_6019 s7 kn1))
    ·
      have c12 : (i 6019).toInt < (24 : Int32).toInt := kd_leF c; clear c
      refine fo_goS mi_k13 fz13_37_5_47 [.int 1, .int (i 6019), .ref 96] rfl ?_
      refine ko_iast3 mi_k13.1 (n := 24) (c := 24) (ax := (0, 0, 0, 0, 0)) (mi_k13.2 _ _ (by rfl)) (by rfl) (ksG96 _ _ _ _) (ksA96 _ _ _ _) (hG.I.2.1 96) rfl (oz3 fi_6019.1) (oz1343 c12 kn24) ?_
      intro a13 ea13 fa13
      have hJ13 := kG_a3 hG 96 rfl ea13 fa13 (kd_bd _)
      have s14 : ((i 6019) + 1).toInt = (i 6019).toInt + (1 : Int32).toInt := kd_add (oz12 fi_6019.1 kn1) (oz951 fi_6019.2 kn1)
      have hJ15 := kG_i hJ13 6019 rfl (v := ((i 6019) + 1)) ⟨(oz14 fi_6019.1 s14 kn1), (oz1334 hp3.2 s14 kn1)⟩
      have s16 : (x5 + 1).toInt = x5.toInt + (1 : Int32).toInt := kd_add (oz12 hp2.1 kn1) (oz1335 hp2.2 kn1)
      first | refine fo_goI mi_k13 fz13_48_15_72 [.int (x5 + 1), .int x4, .int 0, .int x1, .ref 94] (ku i 6019 ((i 6019) + 1)) (by rfl) ?_ | refine ft_go mi_k13 15 72 [(7, .int 1), (6, .int 0), (0, .ref 94), (1, .int x1), (2, .int 2), (3, .int 0), (4, .int x4), (5, .int x5)] [.int (x5 + 1), .int x4, .int 0, .int x1, .ref 94] (ku i 6019 ((i 6019) + 1)) a13 q r (by rfl) ?_
      have r17 : ((0 : Int) ≤ ((a13 95).getD x1.toNatClampNeg 0).toInt) ∧ (((a13 95).getD x1.toNatClampNeg 0).toInt ≤ 7) := hJ15.I.2.2.1 95 (x1.toNatClampNeg)
      have u18 : ((a13 95).getD x1.toNatClampNeg 0).toInt = ((a 95).getD x1.toNatClampNeg 0).toInt := congrArg (fun z : List Int32 => (z.getD x1.toNatClampNeg 0).toInt) (fa13 95 (by decide))
      refine ko_callI mi_k13.1 (pc := 72) (ls := [(7, .int 1), (6, .int 0), (0, .ref 94), (1, .int x1), (2, .int 2), (3, .int 0), (4, .int x4), (5, .int x5)]) (st := [.int (x5 + 1), .int x4, .int 0, .int x1, .ref 94]) (h := ks (ku i 6019 ((i 6019) + 1)) a13 q r) (i := (.invokevirtual 43, 3, 14, 0, 9, 0, 301)) (mi_k13.2 _ _ (by rfl)) (ft_invS mi_pq14 (by rfl)) (cy := mi_c14) mi_pq14 rfl (kc14_94_l10_K2 hJ15.I hJ15.R x1 x4 (x5 + 1) (oz1339 hp0.1 hp0.2) (oz1412 hp1 u18) (oz1340 hp2.1 hp2.2 s16 kn1) (oz1345 fi_6019.1 hp3.2 s14 kn1)) (by decide) ?_
      intro vg19 ig19 ag19 qg19 rg19 kg19 hg19
      have hGg19 := kG_call hJ15 kg19 (by decide +kernel)
      have efig19_6019 : (ig19 6019).toInt = ((i 6019) + 1).toInt := kg19.ti 6019 rfl
      exact ft_ret mi_k13 (by rfl) (hP vg19 _ _ _ _ hGg19 (oz1342 efig19_6019 s14 kn1))
  ·
    have c21 : (40 : Int32).toInt ≤ x5.toInt := kd_ltF c; clear c
    exact (oz1346 c21 hp2.2 kn40).elim
set_option maxRecDepth 100000 in
theorem kc11_l02_l11 {i : Nat → Int32} {a : Nat → List Int32} {q : Nat → List Int64} {r : Nat → Nat} (hI : kI i a q) (hr : kr r)  : km 1 11 [.int 2, .int 1] (ks i a q r) (kPI (ks i a q r) (fun v => v.toInt = 2)) := by
  have hG := kG_self kW0 hI hr
  refine km_ofPI (q := (mi_h11, mi_c11)) rfl (by decide) (Nat.le_of_ble_eq_true rfl) ?_
  intro P hP
  first | refine ft_goL mi_k11 16 26 [(3, .int 0), (2, .int 2), (0, .int 2), (1, .int 1)] [.int (2 * 4), .ref (mi_RO + 3)] (by rfl) ?_
  refine ko_top (by decide : (2 * 4 : Int32) = 8) ?_
  refine fo_goS mi_k11 fz11_26_2_28 [.int (8 + 1), .ref (mi_RO + 3)] rfl ?_
  refine ko_top (by decide : (8 + 1 : Int32) = 9) ?_
  refine ft_ro mi_k11 (w := 30) (by decide +kernel) (by decide +kernel) ?_
  refine fo_goS mi_k11 fz11_29_2_33 [.int 2] rfl ?_
  exact ft_ret mi_k11 (by rfl) (hP 2 (oz1411 kn2))
noncomputable def w14_94_l11_K2 : kW := ([6019], [96], [], [])
set_option maxRecDepth 100000 in
theorem kc14_94_l11_K2 {i : Nat → Int32} {a : Nat → List Int32} {q : Nat → List Int64} {r : Nat → Nat} (hI : kI i a q) (hr : kr r) (x1 : Int32) (x3 : Int32) (x4 : Int32) (hp0 : ((0 : Int) ≤ x1.toInt) ∧ (x1.toInt ≤ 49)) (hp1 : ((a 95).getD x1.toNatClampNeg 0).toInt = 2) (hp2 : ((0 : Int) ≤ x4.toInt) ∧ ((x4.toInt + 1) ≤ 39)) (hp3 : ((0 : Int) ≤ (i 6019).toInt) ∧ (((i 6019).toInt + 1) ≤ 900)) : km 5 14 [.ref 94, .int x1, .int 1, .int x3, .int x4] (ks i a q r) (kVI w14_94_l11_K2 i a q r (fun v i1 a1 q1 r1 => (i1 6019).toInt = ((i 6019).toInt + 1))) := by
  have hG := kG_self w14_94_l11_K2 hI hr
  refine km_ofI (q := (mi_h14, mi_c14)) rfl (by decide) (Nat.le_of_ble_eq_true rfl) ?_
  intro P hP
  have r1 : ((0 : Int) ≤ ((a 95).getD x1.toNatClampNeg 0).toInt) ∧ (((a 95).getD x1.toNatClampNeg 0).toInt ≤ 7) := hG.I.2.2.1 95 (x1.toNatClampNeg)
  have fi_6019 : ((0 : Int) ≤ (i 6019).toInt) ∧ ((i 6019).toInt ≤ 1000) := hG.I.1 6019
  refine fo_goL mi_k14 fz14_0_3_5 [(0, .ref 94), (1, .int x1), (2, .int 1), (3, .int x3), (4, .int x4)] [.int x1, .ref 95] rfl ?_
  refine ko_iald3 mi_k14.1 (n := 50) (c := 50) (ax := (0, 0, 0, 0, 0)) (mi_k14.2 _ _ (by rfl)) (by rfl) (ksG95 _ _ _ _) (hG.I.2.1 95) rfl (oz3 hp0.1) (oz1336 hp0.2) ?_
  refine ko_top (kj_eq (oz1411 hp1) (by decide) : ((a 95).getD x1.toNatClampNeg 0) = 2) ?_
  refine ft_goL mi_k14 9 48 [(5, .int 2), (0, .ref 94), (1, .int x1), (2, .int 1), (3, .int x3), (4, .int x4)] [.int x4, .int x3, .int 0, .int 2, .int x1, .ref 94] (by rfl) ?_
  refine ko_callI mi_k14.1 (pc := 48) (ls := [(5, .int 2), (0, .ref 94), (1, .int x1), (2, .int 1), (3, .int x3), (4, .int x4)]) (st := [.int x4, .int x3, .int 0, .int 2, .int x1, .ref 94]) (h := ks i a q r) (i := (.invokevirtual 35, 3, 13, 0, 9, 0, 297)) (mi_k14.2 _ _ (by rfl)) (ft_invS mi_pq13 (by rfl)) (cy := mi_c13) mi_pq13 rfl (kc13_94_l12_l20_K2 hG.I hG.R x1 x3 x4 (oz1339 hp0.1 hp0.2) (oz1411 hp1) (oz1353 hp2.1 hp2.2) (oz1354 fi_6019.1 hp3.2)) (by decide) ?_
  intro vg2 ig2 ag2 qg2 rg2 kg2 hg2
  have hGg2 := kG_call hG kg2 (by decide +kernel)
  have z3 : (ig2 6019).toInt = ((i 6019).toInt + 1) := hg2
  have b4 : ((-2147483648 : Int) ≤ vg2.toInt) ∧ (vg2.toInt ≤ 2147483647) := kd_bd vg2
  refine fo_goS mi_k14 fz14_51_2_53 [.int (vg2 * 2)] rfl ?_
  exact ft_ret mi_k14 (by rfl) (hP (vg2 * 2) _ _ _ _ hGg2 (oz1355 z3))
noncomputable def w13_94_l10_l21_K2 : kW := ([6019], [96], [], [])
set_option maxRecDepth 100000 in
theorem kc13_94_l10_l21_K2 {i : Nat → Int32} {a : Nat → List Int32} {q : Nat → List Int64} {r : Nat → Nat} (hI : kI i a q) (hr : kr r) (x1 : Int32) (x4 : Int32) (x5 : Int32) (hp0 : ((0 : Int) ≤ x1.toInt) ∧ (x1.toInt ≤ 49)) (hp1 : ((a 95).getD x1.toNatClampNeg 0).toInt = 2) (hp2 : ((0 : Int) ≤ x5.toInt) ∧ ((x5.toInt + 2) ≤ 39)) (hp3 : ((0 : Int) ≤ (i 6019).toInt) ∧ (((i 6019).toInt + 2) ≤ 900)) : km 7 13 [.ref 94, .int x1, .int 0, .int 1, .int x4, .int x5] (ks i a q r) (kVI w13_94_l10_l21_K2 i a q r (fun v i1 a1 q1 r1 => (i1 6019).toInt = ((i 6019).toInt + 2))) := by
  have hG := kG_self w13_94_l10_l21_K2 hI hr
  refine km_ofI (q := (mi_h13, mi_c13)) rfl (by decide) (Nat.le_of_ble_eq_true rfl) ?_
  intro P hP
  have r1 : ((0 : Int) ≤ ((a 95).getD x1.toNatClampNeg 0).toInt) ∧ (((a 95).getD x1.toNatClampNeg 0).toInt ≤ 7) := hG.I.2.2.1 95 (x1.toNatClampNeg)
  have fi_6019 : ((0 : Int) ≤ (i 6019).toInt) ∧ ((i 6019).toInt ≤ 1000) := hG.I.1 6019
  refine fo_goL mi_k13 fz13_0_2_4 [(0, .ref 94), (1, .int x1), (2, .int 0), (3, .int 1), (4, .int x4), (5, .int x5)] [.int 40, .int x5] rfl ?_
  refine ft_ifS mi_k13 (decide (x5 < 40)) 9 7 [] (by rfl) (fun c => ?_) (fun c => ?_)
  ·
    have c2 : x5.toInt < (40 : Int32).toInt := kd_lt c; clear c
    refine fo_goS mi_k13 fz13_9_2_11 [.int 1, .int 0] rfl ?_
    refine ko_callPI mi_k13.1 (pc := 11) (ls := [(0, .ref 94), (1, .int x1), (2, .int 0), (3, .int 1), (4, .int x4), (5, .int x5)]) (st := [.int 1, .int 0]) (h := ks i a q r) (i := (.invokestatic 39, 3, 11, 0, 9, 0, 298)) (mi_k13.2 _ _ (by rfl)) (ft_invS mi_pq11 (by rfl)) (cy := mi_c11) mi_pq11 rfl (kc11_l00_l11 hG.I hG.R ) (by decide) ?_
    intro vg3 hg3
    have z4 : vg3.toInt = 0 := hg3
    have evvg3 := kj_eq (oz236 z4) (by decide : (0 : Int32).toInt = 0)
    subst evvg3
    refine ft_goL mi_k13 5 23 [(6, .int 0), (0, .ref 94), (1, .int x1), (2, .int 0), (3, .int 1), (4, .int x4), (5, .int x5)] [.int (0 * 4), .ref (mi_RO + 3)] (by rfl) ?_
    refine ko_top (by decide : (0 * 4 : Int32) = 0) ?_
    refine fo_goS mi_k13 fz13_23_2_25 [.int (0 + 1), .ref (mi_RO + 3)] rfl ?_
    refine ko_top (by decide : (0 + 1 : Int32) = 1) ?_
    refine ft_ro mi_k13 (w := 10) (by decide +kernel) (by decide +kernel) ?_
    refine fo_goL mi_k13 fz13_26_4_34 [(7, .int 10), (6, .int 0), (0, .ref 94), (1, .int x1), (2, .int 0), (3, .int 1), (4, .int x4), (5, .int x5)] [.int 24, .int (i 6019)] rfl ?_
    refine ft_ifS mi_k13 (decide (24 ≤ (i 6019))) 48 37 [] (by rfl) (fun c => ?_) (fun c => ?_)
    ·
      have c6 : (24 : Int32).toInt ≤ (i 6019).toInt := kd_le c; clear c
      have s7 : ((i 6019) + 1).toInt = (i 6019).toInt + (1 : Int32).toInt := kd_add (oz1332 c6 kn24 kn1) (oz951 fi_6019.2 kn1)
      have hJ8 := kG_i hG 6019 rfl (v := ((i 6019) + 1)) ⟨(oz1333 c6 s7 kn24 kn1), (oz1351 hp3.2 s7 kn1)⟩
      have s9 : (x5 + 1).toInt = x5.toInt + (1 : Int32).toInt := kd_add (oz12 hp2.1 kn1) (oz1352 hp2.2 kn1)
      first | refine fo_goI mi_k13 fz13_48_15_72 [.int (x5 + 1), .int x4, .int 1, .int x1, .ref 94] (ku i 6019 ((i 6019) + 1)) (by rfl) ?_ | refine ft_go mi_k13 15 72 [(7, .int 10), (6, .int 0), (0, .ref 94), (1, .int x1), (2, .int 0), (3, .int 1), (4, .int x4), (5, .int x5)] [.int (x5 + 1), .int x4, .int 1, .int x1, .ref 94] (ku i 6019 ((i 6019) + 1)) a q r (by rfl) ?_
      refine ko_callI mi_k13.1 (pc := 72) (ls := [(7, .int 10), (6, .int 0), (0, .ref 94), (1, .int x1), (2, .int 0), (3, .int 1), (4, .int x4), (5, .int x5)]) (st := [.int (x5 + 1), .int x4, .int 1, .int x1, .ref 94]) (h := ks (ku i 6019 ((i 6019) + 1)) a q r) (i := (.invokevirtual 43, 3, 14, 0, 9, 0, 301)) (mi_k13.2 _ _ (by rfl)) (ft_invS mi_pq14 (by rfl)) (cy := mi_c14) mi_pq14 rfl (kc14_94_l11_K2 hJ8.I hJ8.R x1 x4 (x5 + 1) (oz1339 hp0.1 hp0.2) (oz1411 hp1) (oz1356 hp2.1 hp2.2 s9 kn1) (oz1357 c6 hp3.2 s7 kn24 kn1)) (by decide) ?_
      intro vg10 ig10 ag10 qg10 rg10 kg10 hg10
      have hGg10 := kG_call hJ8 kg10 (by decide +kernel)
      have z11 : (ig10 6019).toInt = (((i 6019) + 1).toInt + 1) := hg10
      exact ft_ret mi_k13 (by rfl) (hP vg10 _ _ _ _ hGg10 (oz1358 s7 z11 kn1))
    ·
      have c12 : (i 6019).toInt < (24 : Int32).toInt := kd_leF c; clear c
      refine fo_goS mi_k13 fz13_37_5_47 [.int 10, .int (i 6019), .ref 96] rfl ?_
      refine ko_iast3 mi_k13.1 (n := 24) (c := 24) (ax := (0, 0, 0, 0, 0)) (mi_k13.2 _ _ (by rfl)) (by rfl) (ksG96 _ _ _ _) (ksA96 _ _ _ _) (hG.I.2.1 96) rfl (oz3 fi_6019.1) (oz1343 c12 kn24) ?_
      intro a13 ea13 fa13
      have hJ13 := kG_a3 hG 96 rfl ea13 fa13 (kd_bd _)
      have s14 : ((i 6019) + 1).toInt = (i 6019).toInt + (1 : Int32).toInt := kd_add (oz12 fi_6019.1 kn1) (oz951 fi_6019.2 kn1)
      have hJ15 := kG_i hJ13 6019 rfl (v := ((i 6019) + 1)) ⟨(oz14 fi_6019.1 s14 kn1), (oz1351 hp3.2 s14 kn1)⟩
      have s16 : (x5 + 1).toInt = x5.toInt + (1 : Int32).toInt := kd_add (oz12 hp2.1 kn1) (oz1352 hp2.2 kn1)
      first | refine fo_goI mi_k13 fz13_48_15_72 [.int (x5 + 1), .int x4, .int 1, .int x1, .ref 94] (ku i 6019 ((i 6019) + 1)) (by rfl) ?_ | refine ft_go mi_k13 15 72 [(7, .int 10), (6, .int 0), (0, .ref 94), (1, .int x1), (2, .int 0), (3, .int 1), (4, .int x4), (5, .int x5)] [.int (x5 + 1), .int x4, .int 1, .int x1, .ref 94] (ku i 6019 ((i 6019) + 1)) a13 q r (by rfl) ?_
      have r17 : ((0 : Int) ≤ ((a13 95).getD x1.toNatClampNeg 0).toInt) ∧ (((a13 95).getD x1.toNatClampNeg 0).toInt ≤ 7) := hJ15.I.2.2.1 95 (x1.toNatClampNeg)
      have u18 : ((a13 95).getD x1.toNatClampNeg 0).toInt = ((a 95).getD x1.toNatClampNeg 0).toInt := congrArg (fun z : List Int32 => (z.getD x1.toNatClampNeg 0).toInt) (fa13 95 (by decide))
      refine ko_callI mi_k13.1 (pc := 72) (ls := [(7, .int 10), (6, .int 0), (0, .ref 94), (1, .int x1), (2, .int 0), (3, .int 1), (4, .int x4), (5, .int x5)]) (st := [.int (x5 + 1), .int x4, .int 1, .int x1, .ref 94]) (h := ks (ku i 6019 ((i 6019) + 1)) a13 q r) (i := (.invokevirtual 43, 3, 14, 0, 9, 0, 301)) (mi_k13.2 _ _ (by rfl)) (ft_invS mi_pq14 (by rfl)) (cy := mi_c14) mi_pq14 rfl (kc14_94_l11_K2 hJ15.I hJ15.R x1 x4 (x5 + 1) (oz1339 hp0.1 hp0.2) (oz1412 hp1 u18) (oz1356 hp2.1 hp2.2 s16 kn1) (oz1359 fi_6019.1 hp3.2 s14 kn1)) (by decide) ?_
      intro vg19 ig19 ag19 qg19 rg19 kg19 hg19
      have hGg19 := kG_call hJ15 kg19 (by decide +kernel)
      have z20 : (ig19 6019).toInt = (((i 6019) + 1).toInt + 1) := hg19
      exact ft_ret mi_k13 (by rfl) (hP vg19 _ _ _ _ hGg19 (oz1358 s14 z20 kn1))
  ·
    have c21 : (40 : Int32).toInt ≤ x5.toInt := kd_ltF c; clear c
    exact (oz1360 c21 hp2.2 kn40).elim
noncomputable def w13_94_l12_l21_K2 : kW := ([6019], [96], [], [])
set_option maxRecDepth 100000 in
theorem kc13_94_l12_l21_K2 {i : Nat → Int32} {a : Nat → List Int32} {q : Nat → List Int64} {r : Nat → Nat} (hI : kI i a q) (hr : kr r) (x1 : Int32) (x4 : Int32) (x5 : Int32) (hp0 : ((0 : Int) ≤ x1.toInt) ∧ (x1.toInt ≤ 49)) (hp1 : ((a 95).getD x1.toNatClampNeg 0).toInt = 2) (hp2 : ((0 : Int) ≤ x5.toInt) ∧ ((x5.toInt + 3) ≤ 39)) (hp3 : ((0 : Int) ≤ (i 6019).toInt) ∧ (((i 6019).toInt + 3) ≤ 900)) : km 9 13 [.ref 94, .int x1, .int 2, .int 1, .int x4, .int x5] (ks i a q r) (kVI w13_94_l12_l21_K2 i a q r (fun v i1 a1 q1 r1 => (i1 6019).toInt = ((i 6019).toInt + 3))) := by
  have hG := kG_self w13_94_l12_l21_K2 hI hr
  refine km_ofI (q := (mi_h13, mi_c13)) rfl (by decide) (Nat.le_of_ble_eq_true rfl) ?_
  intro P hP
  have r1 : ((0 : Int) ≤ ((a 95).getD x1.toNatClampNeg 0).toInt) ∧ (((a 95).getD x1.toNatClampNeg 0).toInt ≤ 7) := hG.I.2.2.1 95 (x1.toNatClampNeg)
  have fi_6019 : ((0 : Int) ≤ (i 6019).toInt) ∧ ((i 6019).toInt ≤ 1000) := hG.I.1 6019
  refine fo_goL mi_k13 fz13_0_2_4 [(0, .ref 94), (1, .int x1), (2, .int 2), (3, .int 1), (4, .int x4), (5, .int x5)] [.int 40, .int x5] rfl ?_
  refine ft_ifS mi_k13 (decide (x5 < 40)) 9 7 [] (by rfl) (fun c => ?_) (fun c => ?_)
  ·
    have c2 : x5.toInt < (40 : Int32).toInt := kd_lt c; clear c
    refine fo_goS mi_k13 fz13_9_2_11 [.int 1, .int 2] rfl ?_
    refine ko_callPI mi_k13.1 (pc := 11) (ls := [(0, .ref 94), (1, .int x1), (2, .int 2), (3, .int 1), (4, .int x4), (5, .int x5)]) (st := [.int 1, .int 2]) (h := ks i a q r) (i := (.invokestatic 39, 3, 11, 0, 9, 0, 298)) (mi_k13.2 _ _ (by rfl)) (ft_invS mi_pq11 (by rfl)) (cy := mi_c11) mi_pq11 rfl (kc11_l02_l11 hG.I hG.R ) (by decide) ?_
    intro vg3 hg3
    have z4 : vg3.toInt = 2 := hg3
    have evvg3 := kj_eq (oz1411 z4) (by decide : (2 : Int32).toInt = 2)
    subst evvg3
    refine ft_goL mi_k13 5 23 [(6, .int 2), (0, .ref 94), (1, .int x1), (2, .int 2), (3, .int 1), (4, .int x4), (5, .int x5)] [.int (2 * 4), .ref (mi_RO + 3)] (by rfl) ?_
    refine ko_top (by decide : (2 * 4 : Int32) = 8) ?_
    refine fo_goS mi_k13 fz13_23_2_25 [.int (8 + 1), .ref (mi_RO + 3)] rfl ?_
    refine ko_top (by decide : (8 + 1 : Int32) = 9) ?_
    refine ft_ro mi_k13 (w := 30) (by decide +kernel) (by decide +kernel) ?_
    refine fo_goL mi_k13 fz13_26_4_34 [(7, .int 30), (6, .int 2), (0, .ref 94), (1, .int x1), (2, .int 2), (3, .int 1), (4, .int x4), (5, .int x5)] [.int 24, .int (i 6019)] rfl ?_
    refine ft_ifS mi_k13 (decide (24 ≤ (i 6019))) 48 37 [] (by rfl) (fun c => ?_) (fun c => ?_)
    ·
      have c6 : (24 : Int32).toInt ≤ (i 6019).toInt := kd_le c; clear c
      have s7 : ((i 6019) + 1).toInt = (i 6019).toInt + (1 : Int32).toInt := kd_add (oz1332 c6 kn24 kn1) (oz951 fi_6019.2 kn1)
      have hJ8 := kG_i hG 6019 rfl (v := ((i 6019) + 1)) ⟨(oz1333 c6 s7 kn24 kn1), (oz1385 hp3.2 s7 kn1)⟩
      refine ft_goI mi_k13 12 83 [.int 2, .ref (mi_RO + 4), .int x1, .ref 94] (ku i 6019 ((i 6019) + 1)) (by rfl) ?_
      refine ft_ro mi_k13 (w := 0) (by decide +kernel) (by decide +kernel) ?_
      have s10 : (x5 + 1).toInt = x5.toInt + (1 : Int32).toInt := kd_add (oz12 hp2.1 kn1) (oz1366 hp2.2 kn1)
      first | refine ft_goS mi_k13 8 105 [.int (x5 + 1), .int x4, .int 1, .int 0, .int x1, .ref 94] (by rfl) ?_
      refine ko_callI mi_k13.1 (pc := 105) (ls := [(7, .int 30), (6, .int 2), (0, .ref 94), (1, .int x1), (2, .int 2), (3, .int 1), (4, .int x4), (5, .int x5)]) (st := [.int (x5 + 1), .int x4, .int 1, .int 0, .int x1, .ref 94]) (h := ks (ku i 6019 ((i 6019) + 1)) a q r) (i := (.invokevirtual 35, 3, 13, 0, 9, 0, 297)) (mi_k13.2 _ _ (by rfl)) (ft_invS mi_pq13 (by rfl)) (cy := mi_c13) mi_pq13 rfl (kc13_94_l10_l21_K2 hJ8.I hJ8.R x1 x4 (x5 + 1) (oz1339 hp0.1 hp0.2) (oz1411 hp1) (oz1372 hp2.1 hp2.2 s10 kn1) (oz1388 c6 hp3.2 s7 kn24 kn1)) (by decide) ?_
      intro vg11 ig11 ag11 qg11 rg11 kg11 hg11
      have hGg11 := kG_call hJ8 kg11 (by decide +kernel)
      have z12 : (ig11 6019).toInt = (((i 6019) + 1).toInt + 2) := hg11
      refine ft_goL mi_k13 5 196 [(8, .int vg11), (7, .int 30), (6, .int 2), (0, .ref 94), (1, .int x1), (2, .int 2), (3, .int 1), (4, .int x4), (5, .int x5)] [.int (-vg11)] (by rfl) ?_
      exact ft_ret mi_k13 (by rfl) (hP (-vg11) _ _ _ _ hGg11 (oz1389 s7 z12 kn1))
    ·
      have c13 : (i 6019).toInt < (24 : Int32).toInt := kd_leF c; clear c
      refine fo_goS mi_k13 fz13_37_5_47 [.int 30, .int (i 6019), .ref 96] rfl ?_
      refine ko_iast3 mi_k13.1 (n := 24) (c := 24) (ax := (0, 0, 0, 0, 0)) (mi_k13.2 _ _ (by rfl)) (by rfl) (ksG96 _ _ _ _) (ksA96 _ _ _ _) (hG.I.2.1 96) rfl (oz3 fi_6019.1) (oz1343 c13 kn24) ?_
      intro a14 ea14 fa14
      have hJ14 := kG_a3 hG 96 rfl ea14 fa14 (kd_bd _)
      have s15 : ((i 6019) + 1).toInt = (i 6019).toInt + (1 : Int32).toInt := kd_add (oz12 fi_6019.1 kn1) (oz951 fi_6019.2 kn1)
      have hJ16 := kG_i hJ14 6019 rfl (v := ((i 6019) + 1)) ⟨(oz14 fi_6019.1 s15 kn1), (oz1385 hp3.2 s15 kn1)⟩
      refine ft_goI mi_k13 12 83 [.int 2, .ref (mi_RO + 4), .int x1, .ref 94] (ku i 6019 ((i 6019) + 1)) (by rfl) ?_
      refine ft_ro mi_k13 (w := 0) (by decide +kernel) (by decide +kernel) ?_
      have s18 : (x5 + 1).toInt = x5.toInt + (1 : Int32).toInt := kd_add (oz12 hp2.1 kn1) (oz1366 hp2.2 kn1)
      first | refine ft_goS mi_k13 8 105 [.int (x5 + 1), .int x4, .int 1, .int 0, .int x1, .ref 94] (by rfl) ?_
      have r19 : ((0 : Int) ≤ ((a14 95).getD x1.toNatClampNeg 0).toInt) ∧ (((a14 95).getD x1.toNatClampNeg 0).toInt ≤ 7) := hJ16.I.2.2.1 95 (x1.toNatClampNeg)
      have u20 : ((a14 95).getD x1.toNatClampNeg 0).toInt = ((a 95).getD x1.toNatClampNeg 0).toInt := congrArg (fun z : List Int32 => (z.getD x1.toNatClampNeg 0).toInt) (fa14 95 (by decide))
      refine ko_callI mi_k13.1 (pc := 105) (ls := [(7, .int 30), (6, .int 2), (0, .ref 94), (1, .int x1), (2, .int 2), (3, .int 1), (4, .int x4), (5, .int x5)]) (st := [.int (x5 + 1), .int x4, .int 1, .int 0, .int x1, .ref 94]) (h := ks (ku i 6019 ((i 6019) + 1)) a14 q r) (i := (.invokevirtual 35, 3, 13, 0, 9, 0, 297)) (mi_k13.2 _ _ (by rfl)) (ft_invS mi_pq13 (by rfl)) (cy := mi_c13) mi_pq13 rfl (kc13_94_l10_l21_K2 hJ16.I hJ16.R x1 x4 (x5 + 1) (oz1339 hp0.1 hp0.2) (oz1412 hp1 u20) (oz1372 hp2.1 hp2.2 s18 kn1) (oz1390 fi_6019.1 hp3.2 s15 kn1)) (by decide) ?_
      intro vg21 ig21 ag21 qg21 rg21 kg21 hg21
      have hGg21 := kG_call hJ16 kg21 (by decide +kernel)
      have z22 : (ig21 6019).toInt = (((i 6019) + 1).toInt + 2) := hg21
      refine ft_goL mi_k13 5 196 [(8, .int vg21), (7, .int 30), (6, .int 2), (0, .ref 94), (1, .int x1), (2, .int 2), (3, .int 1), (4, .int x4), (5, .int x5)] [.int (-vg21)] (by rfl) ?_
      exact ft_ret mi_k13 (by rfl) (hP (-vg21) _ _ _ _ hGg21 (oz1389 s15 z22 kn1))
  ·
    have c23 : (40 : Int32).toInt ≤ x5.toInt := kd_ltF c; clear c
    exact (oz1376 c23 hp2.2 kn40).elim
end
section
theorem oz1414 {a0 : Int} (h0 : a0 = 10) : (0 : Int) ≤ a0 := by omega
theorem oz1416 {a0 : Int} (h0 : a0 = 11) : (0 : Int) ≤ a0 := by omega
theorem oz1418 {a0 : Int} (h0 : a0 = 12) : (0 : Int) ≤ a0 := by omega
theorem oz1420 {a0 : Int} (h0 : a0 = 3) : a0 < 8 := by omega
theorem oz1421 {a0 : Int} (h0 : a0 = 3) : a0 = 3 := by omega
theorem oz1422 {a0 a1 : Int} (h0 : a0 = 3) (h1 : a1 = a0) : a1 = 3 := by omega
theorem oz1423 {a0 : Int} (h0 : a0 = 13) : (0 : Int) ≤ a0 := by omega
theorem oz1425 {a0 : Int} (h0 : a0 = 14) : (0 : Int) ≤ a0 := by omega
theorem oz1427 {a0 : Int} (h0 : a0 = 15) : (0 : Int) ≤ a0 := by omega
theorem oz1429 {a0 a1 a2 : Int} (h0 : (a0 + 7) ≤ 900) (h1 : a1 = a0 + a2) (h2 : a2 = 1) : a1 ≤ 1000 := by omega
theorem oz1430 {a0 a1 : Int} (h0 : (a0 + 5) ≤ 39) (h1 : a1 = 1) : a0 + a1 ≤ 2147483647 := by omega
theorem oz1431 {a0 : Int} (h0 : (0 : Int) ≤ a0) (h1 : (a0 + 4) ≤ 39) : ((0 : Int) ≤ a0) ∧ ((a0 + 4) ≤ 39) := by omega
theorem oz1432 {a0 : Int} (h0 : (0 : Int) ≤ a0) (h1 : (a0 + 6) ≤ 900) : ((0 : Int) ≤ a0) ∧ ((a0 + 4) ≤ 900) := by omega
theorem oz1433 {a0 : Int} (h0 : (0 : Int) ≤ a0) (h1 : (a0 + 4) ≤ 39) : ((0 : Int) ≤ a0) ∧ ((a0 + 2) ≤ 39) := by omega
theorem oz1434 {a0 a1 : Int} (h0 : (0 : Int) ≤ a0) (h1 : (a1 + 6) ≤ 900) (h2 : a0 = (a1 + 4)) : ((0 : Int) ≤ a0) ∧ ((a0 + 2) ≤ 900) := by omega
theorem oz1435 {a0 a1 a2 : Int} (h0 : a0 = (a1 + 4)) (h1 : a2 = (a0 + 2)) : a2 = (a1 + 6) := by omega
theorem oz1436 {a0 a1 a2 : Int} (h0 : (0 : Int) ≤ a0) (h1 : (a0 + 5) ≤ 39) (h2 : a1 = a0 + a2) (h3 : a2 = 1) : ((0 : Int) ≤ a1) ∧ ((a1 + 4) ≤ 39) := by omega
theorem oz1437 {a0 a1 a2 a3 : Int} (h0 : a0 ≤ a1) (h1 : (a1 + 7) ≤ 900) (h2 : a2 = a1 + a3) (h3 : a0 = 24) (h4 : a3 = 1) : ((0 : Int) ≤ a2) ∧ ((a2 + 6) ≤ 900) := by omega
theorem oz1438 {a0 a1 a2 a3 : Int} (h0 : a0 = a1 + a2) (h1 : a3 = (a0 + 6)) (h2 : a2 = 1) : a3 = (a1 + 7) := by omega
theorem oz1439 {a0 a1 a2 : Int} (h0 : (0 : Int) ≤ a0) (h1 : (a0 + 7) ≤ 900) (h2 : a1 = a0 + a2) (h3 : a2 = 1) : ((0 : Int) ≤ a1) ∧ ((a1 + 6) ≤ 900) := by omega
theorem oz1440 {a0 a1 : Int} (h0 : a0 ≤ a1) (h1 : (a1 + 5) ≤ 39) (h2 : a0 = 40) : False := by omega
theorem oz1441 {a0 : Int} (h0 : a0 = 0) : ((0 : Int) ≤ a0) ∧ ((a0 + 5) ≤ 39) := by omega
theorem oz1442 {a0 : Int} (h0 : a0 = 0) : ((0 : Int) ≤ a0) ∧ ((a0 + 7) ≤ 900) := by omega
theorem oz1445 {a0 : Int} (h0 : a0 = 4) : a0 < 8 := by omega
theorem oz1446 {a0 : Int} (h0 : a0 = 4) : a0 = 4 := by omega
theorem oz1447 {a0 a1 : Int} (h0 : a0 = 4) (h1 : a1 = a0) : a1 = 4 := by omega
theorem oz1451 {a0 a1 a2 : Int} (h0 : (0 : Int) ≤ a0) (h1 : (a0 + 3) ≤ 39) (h2 : a1 = a0 + a2) (h3 : a2 = 1) : ((0 : Int) ≤ a1) ∧ ((a1 + 1) ≤ 39) := by omega
theorem oz1452 {a0 a1 a2 a3 : Int} (h0 : a0 ≤ a1) (h1 : (a1 + 4) ≤ 900) (h2 : a2 = a1 + a3) (h3 : a0 = 24) (h4 : a3 = 1) : ((0 : Int) ≤ a2) ∧ ((a2 + 1) ≤ 900) := by omega
theorem oz1453 {a0 a1 a2 a3 a4 : Int} (h0 : a0 ≤ a1) (h1 : (a1 + 4) ≤ 900) (h2 : a2 = a1 + a3) (h3 : a4 = (a2 + 1)) (h4 : a0 = 24) (h5 : a3 = 1) : ((0 : Int) ≤ a4) ∧ ((a4 + 2) ≤ 900) := by omega
theorem oz1454 {a0 a1 a2 a3 a4 : Int} (h0 : a0 = a1 + a2) (h1 : a3 = (a0 + 1)) (h2 : a4 = (a3 + 2)) (h3 : a2 = 1) : a4 = (a1 + 4) := by omega
theorem oz1455 {a0 a1 a2 : Int} (h0 : (0 : Int) ≤ a0) (h1 : (a0 + 4) ≤ 900) (h2 : a1 = a0 + a2) (h3 : a2 = 1) : ((0 : Int) ≤ a1) ∧ ((a1 + 1) ≤ 900) := by omega
theorem oz1456 {a0 a1 a2 : Int} (h0 : a0 = 4) (h1 : a1 = a0) (h2 : a2 = a1) : a2 = 4 := by omega
theorem oz1457 {a0 a1 a2 a3 : Int} (h0 : (0 : Int) ≤ a0) (h1 : (a1 + 4) ≤ 900) (h2 : a2 = a1 + a3) (h3 : a0 = (a2 + 1)) (h4 : a3 = 1) : ((0 : Int) ≤ a0) ∧ ((a0 + 2) ≤ 900) := by omega
theorem oz1459 {a0 a1 a2 : Int} (h0 : (a0 + 8) ≤ 900) (h1 : a1 = a0 + a2) (h2 : a2 = 1) : a1 ≤ 1000 := by omega
theorem oz1460 {a0 : Int} (h0 : (0 : Int) ≤ a0) (h1 : (a0 + 7) ≤ 900) : ((0 : Int) ≤ a0) ∧ ((a0 + 3) ≤ 900) := by omega
theorem oz1461 {a0 a1 : Int} (h0 : (0 : Int) ≤ a0) (h1 : (a1 + 7) ≤ 900) (h2 : a0 = (a1 + 3)) : ((0 : Int) ≤ a0) ∧ ((a0 + 4) ≤ 900) := by omega
theorem oz1462 {a0 a1 a2 : Int} (h0 : a0 = (a1 + 3)) (h1 : a2 = (a0 + 4)) : a2 = (a1 + 7) := by omega
theorem oz1463 {a0 a1 a2 a3 : Int} (h0 : a0 ≤ a1) (h1 : (a1 + 8) ≤ 900) (h2 : a2 = a1 + a3) (h3 : a0 = 24) (h4 : a3 = 1) : ((0 : Int) ≤ a2) ∧ ((a2 + 7) ≤ 900) := by omega
theorem oz1464 {a0 a1 a2 a3 : Int} (h0 : a0 = a1 + a2) (h1 : a3 = (a0 + 7)) (h2 : a2 = 1) : a3 = (a1 + 8) := by omega
theorem oz1465 {a0 a1 a2 : Int} (h0 : (0 : Int) ≤ a0) (h1 : (a0 + 8) ≤ 900) (h2 : a1 = a0 + a2) (h3 : a2 = 1) : ((0 : Int) ≤ a1) ∧ ((a1 + 7) ≤ 900) := by omega
theorem oz1466 {a0 : Int} (h0 : a0 = 0) : ((0 : Int) ≤ a0) ∧ ((a0 + 8) ≤ 900) := by omega
theorem oz1469 {a0 : Int} (h0 : a0 = 5) : a0 < 8 := by omega
theorem oz1470 {a0 : Int} (h0 : a0 = 5) : a0 = 5 := by omega
theorem oz1471 {a0 a1 : Int} (h0 : a0 = 5) (h1 : a1 = a0) : a1 = 5 := by omega
set_option maxRecDepth 100000 in
theorem kc11_l02_l12 {i : Nat → Int32} {a : Nat → List Int32} {q : Nat → List Int64} {r : Nat → Nat} (hI : kI i a q) (hr : kr r)  : km 1 11 [.int 2, .int 2] (ks i a q r) (kPI (ks i a q r) (fun v => v.toInt = 0)) := by
  have hG := kG_self kW0 hI hr
  refine km_ofPI (q := (mi_h11, mi_c11)) rfl (by decide) (Nat.le_of_ble_eq_true rfl) ?_
  intro P hP
  first | refine ft_goL mi_k11 16 26 [(3, .int 0), (2, .int 2), (0, .int 2), (1, .int 2)] [.int (2 * 4), .ref (mi_RO + 3)] (by rfl) ?_
  refine ko_top (by decide : (2 * 4 : Int32) = 8) ?_
  refine fo_goS mi_k11 fz11_26_2_28 [.int (8 + 2), .ref (mi_RO + 3)] rfl ?_
  refine ko_top (by decide : (8 + 2 : Int32) = 10) ?_
  refine ft_ro mi_k11 (w := 0) (by decide +kernel) (by decide +kernel) ?_
  refine ft_goS mi_k11 3 38 [.int 2, .ref (mi_RO + 4)] (by rfl) ?_
  refine ft_ro mi_k11 (w := 0) (by decide +kernel) (by decide +kernel) ?_
  refine fo_goL mi_k11 fz11_39_2_43 [(3, .int (0 + 1)), (2, .int 0), (0, .int 2), (1, .int 2)] [] rfl ?_
  refine ko_loc (by decide : (0 + 1 : Int32) = 1) ?_
  first | refine ft_goL mi_k11 7 47 [(3, .int 1), (2, .int 0), (0, .int 2), (1, .int 2)] [.int 0] (by rfl) ?_ | refine ft_goS mi_k11 7 47 [.int 0] (by rfl) ?_
  exact ft_ret mi_k11 (by rfl) (hP 0 (oz236 kn0))
noncomputable def w14_94_l12_K2 : kW := ([], [], [], [])
set_option maxRecDepth 100000 in
theorem kc14_94_l12_K2 {i : Nat → Int32} {a : Nat → List Int32} {q : Nat → List Int64} {r : Nat → Nat} (hI : kI i a q) (hr : kr r) (x1 : Int32) (x3 : Int32) (x4 : Int32) (hp0 : ((0 : Int) ≤ x1.toInt) ∧ (x1.toInt ≤ 49)) (hp1 : ((a 95).getD x1.toNatClampNeg 0).toInt = 2) (hp2 : ((0 : Int) ≤ x4.toInt) ∧ ((x4.toInt + 0) ≤ 39)) (hp3 : ((0 : Int) ≤ (i 6019).toInt) ∧ (((i 6019).toInt + 0) ≤ 900)) : km 1 14 [.ref 94, .int x1, .int 2, .int x3, .int x4] (ks i a q r) (kVI w14_94_l12_K2 i a q r (fun v i1 a1 q1 r1 => (i1 6019).toInt = ((i 6019).toInt + 0))) := by
  have hG := kG_self w14_94_l12_K2 hI hr
  refine km_ofI (q := (mi_h14, mi_c14)) rfl (by decide) (Nat.le_of_ble_eq_true rfl) ?_
  intro P hP
  have r1 : ((0 : Int) ≤ ((a 95).getD x1.toNatClampNeg 0).toInt) ∧ (((a 95).getD x1.toNatClampNeg 0).toInt ≤ 7) := hG.I.2.2.1 95 (x1.toNatClampNeg)
  refine fo_goL mi_k14 fz14_0_3_5 [(0, .ref 94), (1, .int x1), (2, .int 2), (3, .int x3), (4, .int x4)] [.int x1, .ref 95] rfl ?_
  refine ko_iald3 mi_k14.1 (n := 50) (c := 50) (ax := (0, 0, 0, 0, 0)) (mi_k14.2 _ _ (by rfl)) (by rfl) (ksG95 _ _ _ _) (hG.I.2.1 95) rfl (oz3 hp0.1) (oz1336 hp0.2) ?_
  refine ko_top (kj_eq (oz1411 hp1) (by decide) : ((a 95).getD x1.toNatClampNeg 0) = 2) ?_
  refine ft_goL mi_k14 6 57 [(5, .int 2), (0, .ref 94), (1, .int x1), (2, .int 2), (3, .int x3), (4, .int x4)] [.int (x3 ^^^ x1)] (by rfl) ?_
  exact ft_ret mi_k14 (by rfl) (hP (x3 ^^^ x1) _ _ _ _ hG oz1338)
noncomputable def w13_94_l12_l22_K2 : kW := ([6019], [96], [], [])
set_option maxRecDepth 100000 in
theorem kc13_94_l12_l22_K2 {i : Nat → Int32} {a : Nat → List Int32} {q : Nat → List Int64} {r : Nat → Nat} (hI : kI i a q) (hr : kr r) (x1 : Int32) (x4 : Int32) (x5 : Int32) (hp0 : ((0 : Int) ≤ x1.toInt) ∧ (x1.toInt ≤ 49)) (hp1 : ((a 95).getD x1.toNatClampNeg 0).toInt = 2) (hp2 : ((0 : Int) ≤ x5.toInt) ∧ ((x5.toInt + 1) ≤ 39)) (hp3 : ((0 : Int) ≤ (i 6019).toInt) ∧ (((i 6019).toInt + 1) ≤ 900)) : km 3 13 [.ref 94, .int x1, .int 2, .int 2, .int x4, .int x5] (ks i a q r) (kVI w13_94_l12_l22_K2 i a q r (fun v i1 a1 q1 r1 => (i1 6019).toInt = ((i 6019).toInt + 1))) := by
  have hG := kG_self w13_94_l12_l22_K2 hI hr
  refine km_ofI (q := (mi_h13, mi_c13)) rfl (by decide) (Nat.le_of_ble_eq_true rfl) ?_
  intro P hP
  have r1 : ((0 : Int) ≤ ((a 95).getD x1.toNatClampNeg 0).toInt) ∧ (((a 95).getD x1.toNatClampNeg 0).toInt ≤ 7) := hG.I.2.2.1 95 (x1.toNatClampNeg)
  have fi_6019 : ((0 : Int) ≤ (i 6019).toInt) ∧ ((i 6019).toInt ≤ 1000) := hG.I.1 6019
  refine fo_goL mi_k13 fz13_0_2_4 [(0, .ref 94), (1, .int x1), (2, .int 2), (3, .int 2), (4, .int x4), (5, .int x5)] [.int 40, .int x5] rfl ?_
  refine ft_ifS mi_k13 (decide (x5 < 40)) 9 7 [] (by rfl) (fun c => ?_) (fun c => ?_)
  ·
    have c2 : x5.toInt < (40 : Int32).toInt := kd_lt c; clear c
    refine fo_goS mi_k13 fz13_9_2_11 [.int 2, .int 2] rfl ?_
    refine ko_callPI mi_k13.1 (pc := 11) (ls := [(0, .ref 94), (1, .int x1), (2, .int 2), (3, .int 2), (4, .int x4), (5, .int x5)]) (st := [.int 2, .int 2]) (h := ks i a q r) (i := (.invokestatic 39, 3, 11, 0, 9, 0, 298)) (mi_k13.2 _ _ (by rfl)) (ft_invS mi_pq11 (by rfl)) (cy := mi_c11) mi_pq11 rfl (kc11_l02_l12 hG.I hG.R ) (by decide) ?_
    intro vg3 hg3
    have z4 : vg3.toInt = 0 := hg3
    have evvg3 := kj_eq (oz236 z4) (by decide : (0 : Int32).toInt = 0)
    subst evvg3
    refine ft_goL mi_k13 5 23 [(6, .int 0), (0, .ref 94), (1, .int x1), (2, .int 2), (3, .int 2), (4, .int x4), (5, .int x5)] [.int (0 * 4), .ref (mi_RO + 3)] (by rfl) ?_
    refine ko_top (by decide : (0 * 4 : Int32) = 0) ?_
    refine fo_goS mi_k13 fz13_23_2_25 [.int (0 + 2), .ref (mi_RO + 3)] rfl ?_
    refine ko_top (by decide : (0 + 2 : Int32) = 2) ?_
    refine ft_ro mi_k13 (w := 11) (by decide +kernel) (by decide +kernel) ?_
    refine fo_goL mi_k13 fz13_26_4_34 [(7, .int 11), (6, .int 0), (0, .ref 94), (1, .int x1), (2, .int 2), (3, .int 2), (4, .int x4), (5, .int x5)] [.int 24, .int (i 6019)] rfl ?_
    refine ft_ifS mi_k13 (decide (24 ≤ (i 6019))) 48 37 [] (by rfl) (fun c => ?_) (fun c => ?_)
    ·
      have c6 : (24 : Int32).toInt ≤ (i 6019).toInt := kd_le c; clear c
      have s7 : ((i 6019) + 1).toInt = (i 6019).toInt + (1 : Int32).toInt := kd_add (oz1332 c6 kn24 kn1) (oz951 fi_6019.2 kn1)
      have hJ8 := kG_i hG 6019 rfl (v := ((i 6019) + 1)) ⟨(oz1333 c6 s7 kn24 kn1), (oz1334 hp3.2 s7 kn1)⟩
      have s9 : (x5 + 1).toInt = x5.toInt + (1 : Int32).toInt := kd_add (oz12 hp2.1 kn1) (oz1335 hp2.2 kn1)
      first | refine fo_goI mi_k13 fz13_48_15_72 [.int (x5 + 1), .int x4, .int 2, .int x1, .ref 94] (ku i 6019 ((i 6019) + 1)) (by rfl) ?_ | refine ft_go mi_k13 15 72 [(7, .int 11), (6, .int 0), (0, .ref 94), (1, .int x1), (2, .int 2), (3, .int 2), (4, .int x4), (5, .int x5)] [.int (x5 + 1), .int x4, .int 2, .int x1, .ref 94] (ku i 6019 ((i 6019) + 1)) a q r (by rfl) ?_
      refine ko_callI mi_k13.1 (pc := 72) (ls := [(7, .int 11), (6, .int 0), (0, .ref 94), (1, .int x1), (2, .int 2), (3, .int 2), (4, .int x4), (5, .int x5)]) (st := [.int (x5 + 1), .int x4, .int 2, .int x1, .ref 94]) (h := ks (ku i 6019 ((i 6019) + 1)) a q r) (i := (.invokevirtual 43, 3, 14, 0, 9, 0, 301)) (mi_k13.2 _ _ (by rfl)) (ft_invS mi_pq14 (by rfl)) (cy := mi_c14) mi_pq14 rfl (kc14_94_l12_K2 hJ8.I hJ8.R x1 x4 (x5 + 1) (oz1339 hp0.1 hp0.2) (oz1411 hp1) (oz1340 hp2.1 hp2.2 s9 kn1) (oz1341 c6 hp3.2 s7 kn24 kn1)) (by decide) ?_
      intro vg10 ig10 ag10 qg10 rg10 kg10 hg10
      have hGg10 := kG_call hJ8 kg10 (by decide +kernel)
      have efig10_6019 : (ig10 6019).toInt = ((i 6019) + 1).toInt := kg10.ti 6019 rfl
      exact ft_ret mi_k13 (by rfl) (hP vg10 _ _ _ _ hGg10 (oz1342 efig10_6019 s7 kn1))
    ·
      have c12 : (i 6019).toInt < (24 : Int32).toInt := kd_leF c; clear c
      refine fo_goS mi_k13 fz13_37_5_47 [.int 11, .int (i 6019), .ref 96] rfl ?_
      refine ko_iast3 mi_k13.1 (n := 24) (c := 24) (ax := (0, 0, 0, 0, 0)) (mi_k13.2 _ _ (by rfl)) (by rfl) (ksG96 _ _ _ _) (ksA96 _ _ _ _) (hG.I.2.1 96) rfl (oz3 fi_6019.1) (oz1343 c12 kn24) ?_
      intro a13 ea13 fa13
      have hJ13 := kG_a3 hG 96 rfl ea13 fa13 (kd_bd _)
      have s14 : ((i 6019) + 1).toInt = (i 6019).toInt + (1 : Int32).toInt := kd_add (oz12 fi_6019.1 kn1) (oz951 fi_6019.2 kn1)
      have hJ15 := kG_i hJ13 6019 rfl (v := ((i 6019) + 1)) ⟨(oz14 fi_6019.1 s14 kn1), (oz1334 hp3.2 s14 kn1)⟩
      have s16 : (x5 + 1).toInt = x5.toInt + (1 : Int32).toInt := kd_add (oz12 hp2.1 kn1) (oz1335 hp2.2 kn1)
      first | refine fo_goI mi_k13 fz13_48_15_72 [.int (x5 + 1), .int x4, .int 2, .int x1, .ref 94] (ku i 6019 ((i 6019) + 1)) (by rfl) ?_ | refine ft_go mi_k13 15 72 [(7, .int 11), (6, .int 0), (0, .ref 94), (1, .int x1), (2, .int 2), (3, .int 2), (4, .int x4), (5, .int x5)] [.int (x5 + 1), .int x4, .int 2, .int x1, .ref 94] (ku i 6019 ((i 6019) + 1)) a13 q r (by rfl) ?_
      have r17 : ((0 : Int) ≤ ((a13 95).getD x1.toNatClampNeg 0).toInt) ∧ (((a13 95).getD x1.toNatClampNeg 0).toInt ≤ 7) := hJ15.I.2.2.1 95 (x1.toNatClampNeg)
      have u18 : ((a13 95).getD x1.toNatClampNeg 0).toInt = ((a 95).getD x1.toNatClampNeg 0).toInt := congrArg (fun z : List Int32 => (z.getD x1.toNatClampNeg 0).toInt) (fa13 95 (by decide))
      refine ko_callI mi_k13.1 (pc := 72) (ls := [(7, .int 11), (6, .int 0), (0, .ref 94), (1, .int x1), (2, .int 2), (3, .int 2), (4, .int x4), (5, .int x5)]) (st := [.int (x5 + 1), .int x4, .int 2, .int x1, .ref 94]) (h := ks (ku i 6019 ((i 6019) + 1)) a13 q r) (i := (.invokevirtual 43, 3, 14, 0, 9, 0, 301)) (mi_k13.2 _ _ (by rfl)) (ft_invS mi_pq14 (by rfl)) (cy := mi_c14) mi_pq14 rfl (kc14_94_l12_K2 hJ15.I hJ15.R x1 x4 (x5 + 1) (oz1339 hp0.1 hp0.2) (oz1412 hp1 u18) (oz1340 hp2.1 hp2.2 s16 kn1) (oz1345 fi_6019.1 hp3.2 s14 kn1)) (by decide) ?_
      intro vg19 ig19 ag19 qg19 rg19 kg19 hg19
      have hGg19 := kG_call hJ15 kg19 (by decide +kernel)
      have efig19_6019 : (ig19 6019).toInt = ((i 6019) + 1).toInt := kg19.ti 6019 rfl
      exact ft_ret mi_k13 (by rfl) (hP vg19 _ _ _ _ hGg19 (oz1342 efig19_6019 s14 kn1))
  ·
    have c21 : (40 : Int32).toInt ≤ x5.toInt := kd_ltF c; clear c
    exact (oz1346 c21 hp2.2 kn40).elim
set_option maxRecDepth 100000 in
theorem kc11_l02_l13 {i : Nat → Int32} {a : Nat → List Int32} {q : Nat → List Int64} {r : Nat → Nat} (hI : kI i a q) (hr : kr r)  : km 1 11 [.int 2, .int 3] (ks i a q r) (kPI (ks i a q r) (fun v => v.toInt = 0)) := by
  have hG := kG_self kW0 hI hr
  refine km_ofPI (q := (mi_h11, mi_c11)) rfl (by decide) (Nat.le_of_ble_eq_true rfl) ?_
  intro P hP
  first | refine ft_goL mi_k11 16 26 [(3, .int 0), (2, .int 2), (0, .int 2), (1, .int 3)] [.int (2 * 4), .ref (mi_RO + 3)] (by rfl) ?_
  refine ko_top (by decide : (2 * 4 : Int32) = 8) ?_
  refine fo_goS mi_k11 fz11_26_2_28 [.int (8 + 3), .ref (mi_RO + 3)] rfl ?_
  refine ko_top (by decide : (8 + 3 : Int32) = 11) ?_
  refine ft_ro mi_k11 (w := 0) (by decide +kernel) (by decide +kernel) ?_
  refine ft_goS mi_k11 3 38 [.int 2, .ref (mi_RO + 4)] (by rfl) ?_
  refine ft_ro mi_k11 (w := 0) (by decide +kernel) (by decide +kernel) ?_
  refine fo_goL mi_k11 fz11_39_2_43 [(3, .int (0 + 1)), (2, .int 0), (0, .int 2), (1, .int 3)] [] rfl ?_
  refine ko_loc (by decide : (0 + 1 : Int32) = 1) ?_
  first | refine ft_goL mi_k11 7 47 [(3, .int 1), (2, .int 0), (0, .int 2), (1, .int 3)] [.int 0] (by rfl) ?_ | refine ft_goS mi_k11 7 47 [.int 0] (by rfl) ?_
  exact ft_ret mi_k11 (by rfl) (hP 0 (oz236 kn0))
noncomputable def w14_94_l13_K2 : kW := ([6019], [96], [], [])
set_option maxRecDepth 100000 in
theorem kc14_94_l13_K2 {i : Nat → Int32} {a : Nat → List Int32} {q : Nat → List Int64} {r : Nat → Nat} (hI : kI i a q) (hr : kr r) (x1 : Int32) (x3 : Int32) (x4 : Int32) (hp0 : ((0 : Int) ≤ x1.toInt) ∧ (x1.toInt ≤ 49)) (hp1 : ((a 95).getD x1.toNatClampNeg 0).toInt = 2) (hp2 : ((0 : Int) ≤ x4.toInt) ∧ ((x4.toInt + 3) ≤ 39)) (hp3 : ((0 : Int) ≤ (i 6019).toInt) ∧ (((i 6019).toInt + 4) ≤ 900)) : km 11 14 [.ref 94, .int x1, .int 3, .int x3, .int x4] (ks i a q r) (kVI w14_94_l13_K2 i a q r (fun v i1 a1 q1 r1 => (i1 6019).toInt = ((i 6019).toInt + 4))) := by
  have hG := kG_self w14_94_l13_K2 hI hr
  refine km_ofI (q := (mi_h14, mi_c14)) rfl (by decide) (Nat.le_of_ble_eq_true rfl) ?_
  intro P hP
  have r1 : ((0 : Int) ≤ ((a 95).getD x1.toNatClampNeg 0).toInt) ∧ (((a 95).getD x1.toNatClampNeg 0).toInt ≤ 7) := hG.I.2.2.1 95 (x1.toNatClampNeg)
  have fi_6019 : ((0 : Int) ≤ (i 6019).toInt) ∧ ((i 6019).toInt ≤ 1000) := hG.I.1 6019
  refine fo_goL mi_k14 fz14_0_3_5 [(0, .ref 94), (1, .int x1), (2, .int 3), (3, .int x3), (4, .int x4)] [.int x1, .ref 95] rfl ?_
  refine ko_iald3 mi_k14.1 (n := 50) (c := 50) (ax := (0, 0, 0, 0, 0)) (mi_k14.2 _ _ (by rfl)) (by rfl) (ksG95 _ _ _ _) (hG.I.2.1 95) rfl (oz3 hp0.1) (oz1336 hp0.2) ?_
  refine ko_top (kj_eq (oz1411 hp1) (by decide) : ((a 95).getD x1.toNatClampNeg 0) = 2) ?_
  refine ft_goL mi_k14 9 66 [(5, .int 2), (0, .ref 94), (1, .int x1), (2, .int 3), (3, .int x3), (4, .int x4)] [.int x4, .int x3, .int 1, .int 2, .int x1, .ref 94] (by rfl) ?_
  refine ko_callI mi_k14.1 (pc := 66) (ls := [(5, .int 2), (0, .ref 94), (1, .int x1), (2, .int 3), (3, .int x3), (4, .int x4)]) (st := [.int x4, .int x3, .int 1, .int 2, .int x1, .ref 94]) (h := ks i a q r) (i := (.invokevirtual 35, 3, 13, 0, 9, 0, 297)) (mi_k14.2 _ _ (by rfl)) (ft_invS mi_pq13 (by rfl)) (cy := mi_c13) mi_pq13 rfl (kc13_94_l12_l21_K2 hG.I hG.R x1 x3 x4 (oz1339 hp0.1 hp0.2) (oz1411 hp1) (oz1396 hp2.1 hp2.2) (oz1397 fi_6019.1 hp3.2)) (by decide) ?_
  intro vg2 ig2 ag2 qg2 rg2 kg2 hg2
  have hGg2 := kG_call hG kg2 (by decide +kernel)
  have fig2_6019 : ((0 : Int) ≤ (ig2 6019).toInt) ∧ ((ig2 6019).toInt ≤ 1000) := hGg2.I.1 6019
  have z3 : (ig2 6019).toInt = ((i 6019).toInt + 3) := hg2
  refine fo_goL mi_k14 fz14_69_8_81 [(6, .int vg2), (5, .int 2), (0, .ref 94), (1, .int x1), (2, .int 3), (3, .int x3), (4, .int x4)] [.int x4, .int 1, .int 2, .int 2, .int x1, .ref 94, .int vg2] rfl ?_
  have r4 : ((0 : Int) ≤ ((ag2 95).getD x1.toNatClampNeg 0).toInt) ∧ (((ag2 95).getD x1.toNatClampNeg 0).toInt ≤ 7) := hGg2.I.2.2.1 95 (x1.toNatClampNeg)
  have u5 : ((ag2 95).getD x1.toNatClampNeg 0).toInt = ((a 95).getD x1.toNatClampNeg 0).toInt := congrArg (fun z : List Int32 => (z.getD x1.toNatClampNeg 0).toInt) (kg2.fa 95 rfl)
  refine ko_callI mi_k14.1 (pc := 81) (ls := [(6, .int vg2), (5, .int 2), (0, .ref 94), (1, .int x1), (2, .int 3), (3, .int x3), (4, .int x4)]) (st := [.int x4, .int 1, .int 2, .int 2, .int x1, .ref 94, .int vg2]) (h := ks ig2 ag2 qg2 rg2) (i := (.invokevirtual 35, 3, 13, 0, 9, 0, 297)) (mi_k14.2 _ _ (by rfl)) (ft_invS mi_pq13 (by rfl)) (cy := mi_c13) mi_pq13 rfl (kc13_94_l12_l22_K2 hGg2.I hGg2.R x1 1 x4 (oz1339 hp0.1 hp0.2) (oz1412 hp1 u5) (oz1398 hp2.1 hp2.2) (oz1399 fig2_6019.1 hp3.2 z3)) (by decide) ?_
  intro vg6 ig6 ag6 qg6 rg6 kg6 hg6
  have hGg6 := kG_call hGg2 kg6 (by decide +kernel)
  have z7 : (ig6 6019).toInt = ((ig2 6019).toInt + 1) := hg6
  have b8 : ((-2147483648 : Int) ≤ vg2.toInt) ∧ (vg2.toInt ≤ 2147483647) := kd_bd vg2
  have b9 : ((-2147483648 : Int) ≤ vg6.toInt) ∧ (vg6.toInt ≤ 2147483647) := kd_bd vg6
  refine fo_goS mi_k14 fz14_84_1_85 [.int (vg2 - vg6)] rfl ?_
  exact ft_ret mi_k14 (by rfl) (hP (vg2 - vg6) _ _ _ _ hGg6 (oz1400 z3 z7))
noncomputable def w13_94_l12_l23_K2 : kW := ([6019], [96], [], [])
set_option maxRecDepth 100000 in
theorem kc13_94_l12_l23_K2 {i : Nat → Int32} {a : Nat → List Int32} {q : Nat → List Int64} {r : Nat → Nat} (hI : kI i a q) (hr : kr r) (x1 : Int32) (x4 : Int32) (x5 : Int32) (hp0 : ((0 : Int) ≤ x1.toInt) ∧ (x1.toInt ≤ 49)) (hp1 : ((a 95).getD x1.toNatClampNeg 0).toInt = 2) (hp2 : ((0 : Int) ≤ x5.toInt) ∧ ((x5.toInt + 4) ≤ 39)) (hp3 : ((0 : Int) ≤ (i 6019).toInt) ∧ (((i 6019).toInt + 5) ≤ 900)) : km 13 13 [.ref 94, .int x1, .int 2, .int 3, .int x4, .int x5] (ks i a q r) (kVI w13_94_l12_l23_K2 i a q r (fun v i1 a1 q1 r1 => (i1 6019).toInt = ((i 6019).toInt + 5))) := by
  have hG := kG_self w13_94_l12_l23_K2 hI hr
  refine km_ofI (q := (mi_h13, mi_c13)) rfl (by decide) (Nat.le_of_ble_eq_true rfl) ?_
  intro P hP
  have r1 : ((0 : Int) ≤ ((a 95).getD x1.toNatClampNeg 0).toInt) ∧ (((a 95).getD x1.toNatClampNeg 0).toInt ≤ 7) := hG.I.2.2.1 95 (x1.toNatClampNeg)
  have fi_6019 : ((0 : Int) ≤ (i 6019).toInt) ∧ ((i 6019).toInt ≤ 1000) := hG.I.1 6019
  refine fo_goL mi_k13 fz13_0_2_4 [(0, .ref 94), (1, .int x1), (2, .int 2), (3, .int 3), (4, .int x4), (5, .int x5)] [.int 40, .int x5] rfl ?_
  refine ft_ifS mi_k13 (decide (x5 < 40)) 9 7 [] (by rfl) (fun c => ?_) (fun c => ?_)
  ·
    have c2 : x5.toInt < (40 : Int32).toInt := kd_lt c; clear c
    refine fo_goS mi_k13 fz13_9_2_11 [.int 3, .int 2] rfl ?_
    refine ko_callPI mi_k13.1 (pc := 11) (ls := [(0, .ref 94), (1, .int x1), (2, .int 2), (3, .int 3), (4, .int x4), (5, .int x5)]) (st := [.int 3, .int 2]) (h := ks i a q r) (i := (.invokestatic 39, 3, 11, 0, 9, 0, 298)) (mi_k13.2 _ _ (by rfl)) (ft_invS mi_pq11 (by rfl)) (cy := mi_c11) mi_pq11 rfl (kc11_l02_l13 hG.I hG.R ) (by decide) ?_
    intro vg3 hg3
    have z4 : vg3.toInt = 0 := hg3
    have evvg3 := kj_eq (oz236 z4) (by decide : (0 : Int32).toInt = 0)
    subst evvg3
    refine ft_goL mi_k13 5 23 [(6, .int 0), (0, .ref 94), (1, .int x1), (2, .int 2), (3, .int 3), (4, .int x4), (5, .int x5)] [.int (0 * 4), .ref (mi_RO + 3)] (by rfl) ?_
    refine ko_top (by decide : (0 * 4 : Int32) = 0) ?_
    refine fo_goS mi_k13 fz13_23_2_25 [.int (0 + 3), .ref (mi_RO + 3)] rfl ?_
    refine ko_top (by decide : (0 + 3 : Int32) = 3) ?_
    refine ft_ro mi_k13 (w := 2) (by decide +kernel) (by decide +kernel) ?_
    refine fo_goL mi_k13 fz13_26_4_34 [(7, .int 2), (6, .int 0), (0, .ref 94), (1, .int x1), (2, .int 2), (3, .int 3), (4, .int x4), (5, .int x5)] [.int 24, .int (i 6019)] rfl ?_
    refine ft_ifS mi_k13 (decide (24 ≤ (i 6019))) 48 37 [] (by rfl) (fun c => ?_) (fun c => ?_)
    ·
      have c6 : (24 : Int32).toInt ≤ (i 6019).toInt := kd_le c; clear c
      have s7 : ((i 6019) + 1).toInt = (i 6019).toInt + (1 : Int32).toInt := kd_add (oz1332 c6 kn24 kn1) (oz951 fi_6019.2 kn1)
      have hJ8 := kG_i hG 6019 rfl (v := ((i 6019) + 1)) ⟨(oz1333 c6 s7 kn24 kn1), (oz1394 hp3.2 s7 kn1)⟩
      have s9 : (x5 + 1).toInt = x5.toInt + (1 : Int32).toInt := kd_add (oz12 hp2.1 kn1) (oz1395 hp2.2 kn1)
      first | refine fo_goI mi_k13 fz13_48_15_72 [.int (x5 + 1), .int x4, .int 3, .int x1, .ref 94] (ku i 6019 ((i 6019) + 1)) (by rfl) ?_ | refine ft_go mi_k13 15 72 [(7, .int 2), (6, .int 0), (0, .ref 94), (1, .int x1), (2, .int 2), (3, .int 3), (4, .int x4), (5, .int x5)] [.int (x5 + 1), .int x4, .int 3, .int x1, .ref 94] (ku i 6019 ((i 6019) + 1)) a q r (by rfl) ?_
      refine ko_callI mi_k13.1 (pc := 72) (ls := [(7, .int 2), (6, .int 0), (0, .ref 94), (1, .int x1), (2, .int 2), (3, .int 3), (4, .int x4), (5, .int x5)]) (st := [.int (x5 + 1), .int x4, .int 3, .int x1, .ref 94]) (h := ks (ku i 6019 ((i 6019) + 1)) a q r) (i := (.invokevirtual 43, 3, 14, 0, 9, 0, 301)) (mi_k13.2 _ _ (by rfl)) (ft_invS mi_pq14 (by rfl)) (cy := mi_c14) mi_pq14 rfl (kc14_94_l13_K2 hJ8.I hJ8.R x1 x4 (x5 + 1) (oz1339 hp0.1 hp0.2) (oz1411 hp1) (oz1401 hp2.1 hp2.2 s9 kn1) (oz1402 c6 hp3.2 s7 kn24 kn1)) (by decide) ?_
      intro vg10 ig10 ag10 qg10 rg10 kg10 hg10
      have hGg10 := kG_call hJ8 kg10 (by decide +kernel)
      have z11 : (ig10 6019).toInt = (((i 6019) + 1).toInt + 4) := hg10
      exact ft_ret mi_k13 (by rfl) (hP vg10 _ _ _ _ hGg10 (oz1403 s7 z11 kn1))
    ·
      have c12 : (i 6019).toInt < (24 : Int32).toInt := kd_leF c; clear c
      refine fo_goS mi_k13 fz13_37_5_47 [.int 2, .int (i 6019), .ref 96] rfl ?_
      refine ko_iast3 mi_k13.1 (n := 24) (c := 24) (ax := (0, 0, 0, 0, 0)) (mi_k13.2 _ _ (by rfl)) (by rfl) (ksG96 _ _ _ _) (ksA96 _ _ _ _) (hG.I.2.1 96) rfl (oz3 fi_6019.1) (oz1343 c12 kn24) ?_
      intro a13 ea13 fa13
      have hJ13 := kG_a3 hG 96 rfl ea13 fa13 (kd_bd _)
      have s14 : ((i 6019) + 1).toInt = (i 6019).toInt + (1 : Int32).toInt := kd_add (oz12 fi_6019.1 kn1) (oz951 fi_6019.2 kn1)
      have hJ15 := kG_i hJ13 6019 rfl (v := ((i 6019) + 1)) ⟨(oz14 fi_6019.1 s14 kn1), (oz1394 hp3.2 s14 kn1)⟩
      have s16 : (x5 + 1).toInt = x5.toInt + (1 : Int32).toInt := kd_add (oz12 hp2.1 kn1) (oz1395 hp2.2 kn1)
      first | refine fo_goI mi_k13 fz13_48_15_72 [.int (x5 + 1), .int x4, .int 3, .int x1, .ref 94] (ku i 6019 ((i 6019) + 1)) (by rfl) ?_ | refine ft_go mi_k13 15 72 [(7, .int 2), (6, .int 0), (0, .ref 94), (1, .int x1), (2, .int 2), (3, .int 3), (4, .int x4), (5, .int x5)] [.int (x5 + 1), .int x4, .int 3, .int x1, .ref 94] (ku i 6019 ((i 6019) + 1)) a13 q r (by rfl) ?_
      have r17 : ((0 : Int) ≤ ((a13 95).getD x1.toNatClampNeg 0).toInt) ∧ (((a13 95).getD x1.toNatClampNeg 0).toInt ≤ 7) := hJ15.I.2.2.1 95 (x1.toNatClampNeg)
      have u18 : ((a13 95).getD x1.toNatClampNeg 0).toInt = ((a 95).getD x1.toNatClampNeg 0).toInt := congrArg (fun z : List Int32 => (z.getD x1.toNatClampNeg 0).toInt) (fa13 95 (by decide))
      refine ko_callI mi_k13.1 (pc := 72) (ls := [(7, .int 2), (6, .int 0), (0, .ref 94), (1, .int x1), (2, .int 2), (3, .int 3), (4, .int x4), (5, .int x5)]) (st := [.int (x5 + 1), .int x4, .int 3, .int x1, .ref 94]) (h := ks (ku i 6019 ((i 6019) + 1)) a13 q r) (i := (.invokevirtual 43, 3, 14, 0, 9, 0, 301)) (mi_k13.2 _ _ (by rfl)) (ft_invS mi_pq14 (by rfl)) (cy := mi_c14) mi_pq14 rfl (kc14_94_l13_K2 hJ15.I hJ15.R x1 x4 (x5 + 1) (oz1339 hp0.1 hp0.2) (oz1412 hp1 u18) (oz1401 hp2.1 hp2.2 s16 kn1) (oz1404 fi_6019.1 hp3.2 s14 kn1)) (by decide) ?_
      intro vg19 ig19 ag19 qg19 rg19 kg19 hg19
      have hGg19 := kG_call hJ15 kg19 (by decide +kernel)
      have z20 : (ig19 6019).toInt = (((i 6019) + 1).toInt + 4) := hg19
      exact ft_ret mi_k13 (by rfl) (hP vg19 _ _ _ _ hGg19 (oz1403 s14 z20 kn1))
  ·
    have c21 : (40 : Int32).toInt ≤ x5.toInt := kd_ltF c; clear c
    exact (oz1405 c21 hp2.2 kn40).elim
set_option maxRecDepth 100000 in
theorem kc11_l03_l10 {i : Nat → Int32} {a : Nat → List Int32} {q : Nat → List Int64} {r : Nat → Nat} (hI : kI i a q) (hr : kr r)  : km 1 11 [.int 3, .int 0] (ks i a q r) (kPI (ks i a q r) (fun v => v.toInt = 0)) := by
  have hG := kG_self kW0 hI hr
  refine km_ofPI (q := (mi_h11, mi_c11)) rfl (by decide) (Nat.le_of_ble_eq_true rfl) ?_
  intro P hP
  first | refine ft_goL mi_k11 16 26 [(3, .int 0), (2, .int 3), (0, .int 3), (1, .int 0)] [.int (3 * 4), .ref (mi_RO + 3)] (by rfl) ?_
  refine ko_top (by decide : (3 * 4 : Int32) = 12) ?_
  refine fo_goS mi_k11 fz11_26_2_28 [.int (12 + 0), .ref (mi_RO + 3)] rfl ?_
  refine ko_top (by decide : (12 + 0 : Int32) = 12) ?_
  refine ft_ro mi_k11 (w := 0) (by decide +kernel) (by decide +kernel) ?_
  refine ft_goS mi_k11 3 38 [.int 3, .ref (mi_RO + 4)] (by rfl) ?_
  refine ft_ro mi_k11 (w := 2) (by decide +kernel) (by decide +kernel) ?_
  refine fo_goL mi_k11 fz11_39_2_43 [(3, .int (0 + 1)), (2, .int 2), (0, .int 3), (1, .int 0)] [] rfl ?_
  refine ko_loc (by decide : (0 + 1 : Int32) = 1) ?_
  first | refine ft_goL mi_k11 13 26 [(3, .int 1), (2, .int 2), (0, .int 3), (1, .int 0)] [.int (2 * 4), .ref (mi_RO + 3)] (by rfl) ?_ | refine ft_goS mi_k11 13 26 [.int (2 * 4), .ref (mi_RO + 3)] (by rfl) ?_
  refine ko_top (by decide : (2 * 4 : Int32) = 8) ?_
  refine fo_goS mi_k11 fz11_26_2_28 [.int (8 + 0), .ref (mi_RO + 3)] rfl ?_
  refine ko_top (by decide : (8 + 0 : Int32) = 8) ?_
  refine ft_ro mi_k11 (w := 0) (by decide +kernel) (by decide +kernel) ?_
  refine ft_goS mi_k11 3 38 [.int 2, .ref (mi_RO + 4)] (by rfl) ?_
  refine ft_ro mi_k11 (w := 0) (by decide +kernel) (by decide +kernel) ?_
  refine fo_goL mi_k11 fz11_39_2_43 [(3, .int (1 + 1)), (2, .int 0), (0, .int 3), (1, .int 0)] [] rfl ?_
  refine ko_loc (by decide : (1 + 1 : Int32) = 2) ?_
  first | refine ft_goL mi_k11 7 47 [(3, .int 2), (2, .int 0), (0, .int 3), (1, .int 0)] [.int 0] (by rfl) ?_ | refine ft_goS mi_k11 7 47 [.int 0] (by rfl) ?_
  exact ft_ret mi_k11 (by rfl) (hP 0 (oz236 kn0))
noncomputable def w14_94_l10_K3 : kW := ([], [], [], [])
set_option maxRecDepth 100000 in
theorem kc14_94_l10_K3 {i : Nat → Int32} {a : Nat → List Int32} {q : Nat → List Int64} {r : Nat → Nat} (hI : kI i a q) (hr : kr r) (x1 : Int32) (x3 : Int32) (x4 : Int32) (hp0 : ((0 : Int) ≤ x1.toInt) ∧ (x1.toInt ≤ 49)) (hp1 : ((a 95).getD x1.toNatClampNeg 0).toInt = 3) (hp2 : ((0 : Int) ≤ x4.toInt) ∧ ((x4.toInt + 0) ≤ 39)) (hp3 : ((0 : Int) ≤ (i 6019).toInt) ∧ (((i 6019).toInt + 0) ≤ 900)) : km 1 14 [.ref 94, .int x1, .int 0, .int x3, .int x4] (ks i a q r) (kVI w14_94_l10_K3 i a q r (fun v i1 a1 q1 r1 => (i1 6019).toInt = ((i 6019).toInt + 0))) := by
  have hG := kG_self w14_94_l10_K3 hI hr
  refine km_ofI (q := (mi_h14, mi_c14)) rfl (by decide) (Nat.le_of_ble_eq_true rfl) ?_
  intro P hP
  have r1 : ((0 : Int) ≤ ((a 95).getD x1.toNatClampNeg 0).toInt) ∧ (((a 95).getD x1.toNatClampNeg 0).toInt ≤ 7) := hG.I.2.2.1 95 (x1.toNatClampNeg)
  refine fo_goL mi_k14 fz14_0_3_5 [(0, .ref 94), (1, .int x1), (2, .int 0), (3, .int x3), (4, .int x4)] [.int x1, .ref 95] rfl ?_
  refine ko_iald3 mi_k14.1 (n := 50) (c := 50) (ax := (0, 0, 0, 0, 0)) (mi_k14.2 _ _ (by rfl)) (by rfl) (ksG95 _ _ _ _) (hG.I.2.1 95) rfl (oz3 hp0.1) (oz1336 hp0.2) ?_
  refine ko_top (kj_eq (oz1421 hp1) (by decide) : ((a 95).getD x1.toNatClampNeg 0) = 3) ?_
  have b2 : ((-2147483648 : Int) ≤ x3.toInt) ∧ (x3.toInt ≤ 2147483647) := kd_bd x3
  have b3 : ((-2147483648 : Int) ≤ x1.toInt) ∧ (x1.toInt ≤ 2147483647) := kd_bd x1
  refine ft_goL mi_k14 6 39 [(5, .int 3), (0, .ref 94), (1, .int x1), (2, .int 0), (3, .int x3), (4, .int x4)] [.int (x3 + x1)] (by rfl) ?_
  exact ft_ret mi_k14 (by rfl) (hP (x3 + x1) _ _ _ _ hG oz1338)
noncomputable def w13_94_l13_l20_K3 : kW := ([6019], [96], [], [])
set_option maxRecDepth 100000 in
theorem kc13_94_l13_l20_K3 {i : Nat → Int32} {a : Nat → List Int32} {q : Nat → List Int64} {r : Nat → Nat} (hI : kI i a q) (hr : kr r) (x1 : Int32) (x4 : Int32) (x5 : Int32) (hp0 : ((0 : Int) ≤ x1.toInt) ∧ (x1.toInt ≤ 49)) (hp1 : ((a 95).getD x1.toNatClampNeg 0).toInt = 3) (hp2 : ((0 : Int) ≤ x5.toInt) ∧ ((x5.toInt + 1) ≤ 39)) (hp3 : ((0 : Int) ≤ (i 6019).toInt) ∧ (((i 6019).toInt + 1) ≤ 900)) : km 3 13 [.ref 94, .int x1, .int 3, .int 0, .int x4, .int x5] (ks i a q r) (kVI w13_94_l13_l20_K3 i a q r (fun v i1 a1 q1 r1 => (i1 6019).toInt = ((i 6019).toInt + 1))) := by
  have hG := kG_self w13_94_l13_l20_K3 hI hr
  refine km_ofI (q := (mi_h13, mi_c13)) rfl (by decide) (Nat.le_of_ble_eq_true rfl) ?_
  intro P hP
  have r1 : ((0 : Int) ≤ ((a 95).getD x1.toNatClampNeg 0).toInt) ∧ (((a 95).getD x1.toNatClampNeg 0).toInt ≤ 7) := hG.I.2.2.1 95 (x1.toNatClampNeg)
  have fi_6019 : ((0 : Int) ≤ (i 6019).toInt) ∧ ((i 6019).toInt ≤ 1000) := hG.I.1 6019
  refine fo_goL mi_k13 fz13_0_2_4 [(0, .ref 94), (1, .int x1), (2, .int 3), (3, .int 0), (4, .int x4), (5, .int x5)] [.int 40, .int x5] rfl ?_
  refine ft_ifS mi_k13 (decide (x5 < 40)) 9 7 [] (by rfl) (fun c => ?_) (fun c => ?_)
  ·
    have c2 : x5.toInt < (40 : Int32).toInt := kd_lt c; clear c
    refine fo_goS mi_k13 fz13_9_2_11 [.int 0, .int 3] rfl ?_
    refine ko_callPI mi_k13.1 (pc := 11) (ls := [(0, .ref 94), (1, .int x1), (2, .int 3), (3, .int 0), (4, .int x4), (5, .int x5)]) (st := [.int 0, .int 3]) (h := ks i a q r) (i := (.invokestatic 39, 3, 11, 0, 9, 0, 298)) (mi_k13.2 _ _ (by rfl)) (ft_invS mi_pq11 (by rfl)) (cy := mi_c11) mi_pq11 rfl (kc11_l03_l10 hG.I hG.R ) (by decide) ?_
    intro vg3 hg3
    have z4 : vg3.toInt = 0 := hg3
    have evvg3 := kj_eq (oz236 z4) (by decide : (0 : Int32).toInt = 0)
    subst evvg3
    refine ft_goL mi_k13 5 23 [(6, .int 0), (0, .ref 94), (1, .int x1), (2, .int 3), (3, .int 0), (4, .int x4), (5, .int x5)] [.int (0 * 4), .ref (mi_RO + 3)] (by rfl) ?_
    refine ko_top (by decide : (0 * 4 : Int32) = 0) ?_
    refine fo_goS mi_k13 fz13_23_2_25 [.int (0 + 0), .ref (mi_RO + 3)] rfl ?_
    refine ko_top (by decide : (0 + 0 : Int32) = 0) ?_
    refine ft_ro mi_k13 (w := 1) (by decide +kernel) (by decide +kernel) ?_
    refine fo_goL mi_k13 fz13_26_4_34 [(7, .int 1), (6, .int 0), (0, .ref 94), (1, .int x1), (2, .int 3), (3, .int 0), (4, .int x4), (5, .int x5)] [.int 24, .int (i 6019)] rfl ?_
    refine ft_ifS mi_k13 (decide (24 ≤ (i 6019))) 48 37 [] (by rfl) (fun c => ?_) (fun c => ?_)
    ·
      have c6 : (24 : Int32).toInt ≤ (i 6019).toInt := kd_le c; clear c
      have s7 : ((i 6019) + 1).toInt = (i 6019).toInt + (1 : Int32).toInt := kd_add (oz1332 c6 kn24 kn1) (oz951 fi_6019.2 kn1)
      have hJ8 := kG_i hG 6019 rfl (v := ((i 6019) + 1)) ⟨(oz1333 c6 s7 kn24 kn1), (oz1334 hp3.2 s7 kn1)⟩
      have s9 : (x5 + 1).toInt = x5.toInt + (1 : Int32).toInt := kd_add (oz12 hp2.1 kn1) (oz1335 hp2.2 kn1)
      first | refine fo_goI mi_k13 fz13_48_15_72 [.int (x5 + 1), .int x4, .int 0, .int x1, .ref 94] (ku i 6019 ((i 6019) + 1)) (by rfl) ?_ | refine ft_go mi_k13 15 72 [(7, .int 1), (6, .int 0), (0, .ref 94), (1, .int x1), (2, .int 3), (3, .int 0), (4, .int x4), (5, .int x5)] [.int (x5 + 1), .int x4, .int 0, .int x1, .ref 94] (ku i 6019 ((i 6019) + 1)) a q r (by rfl) ?_
      refine ko_callI mi_k13.1 (pc := 72) (ls := [(7, .int 1), (6, .int 0), (0, .ref 94), (1, .int x1), (2, .int 3), (3, .int 0), (4, .int x4), (5, .int x5)]) (st := [.int (x5 + 1), .int x4, .int 0, .int x1, .ref 94]) (h := ks (ku i 6019 ((i 6019) + 1)) a q r) (i := (.invokevirtual 43, 3, 14, 0, 9, 0, 301)) (mi_k13.2 _ _ (by rfl)) (ft_invS mi_pq14 (by rfl)) (cy := mi_c14) mi_pq14 rfl (kc14_94_l10_K3 hJ8.I hJ8.R x1 x4 (x5 + 1) (oz1339 hp0.1 hp0.2) (oz1421 hp1) (oz1340 hp2.1 hp2.2 s9 kn1) (oz1341 c6 hp3.2 s7 kn24 kn1)) (by decide) ?_
      intro vg10 ig10 ag10 qg10 rg10 kg10 hg10
      have hGg10 := kG_call hJ8 kg10 (by decide +kernel)
      have efig10_6019 : (ig10 6019).toInt = ((i 6019) + 1).toInt := kg10.ti 6019 rfl
      exact ft_ret mi_k13 (by rfl) (hP vg10 _ _ _ _ hGg10 (oz1342 efig10_6019 s7 kn1))
    ·
      have c12 : (i 6019).toInt < (24 : Int32).toInt := kd_leF c; clear c
      refine fo_goS mi_k13 fz13_37_5_47 [.int 1, .int (i 6019), .ref 96] rfl ?_
      refine ko_iast3 mi_k13.1 (n := 24) (c := 24) (ax := (0, 0, 0, 0, 0)) (mi_k13.2 _ _ (by rfl)) (by rfl) (ksG96 _ _ _ _) (ksA96 _ _ _ _) (hG.I.2.1 96) rfl (oz3 fi_6019.1) (oz1343 c12 kn24) ?_
      intro a13 ea13 fa13
      have hJ13 := kG_a3 hG 96 rfl ea13 fa13 (kd_bd _)
      have s14 : ((i 6019) + 1).toInt = (i 6019).toInt + (1 : Int32).toInt := kd_add (oz12 fi_6019.1 kn1) (oz951 fi_6019.2 kn1)
      have hJ15 := kG_i hJ13 6019 rfl (v := ((i 6019) + 1)) ⟨(oz14 fi_6019.1 s14 kn1), (oz1334 hp3.2 s14 kn1)⟩
      have s16 : (x5 + 1).toInt = x5.toInt + (1 : Int32).toInt := kd_add (oz12 hp2.1 kn1) (oz1335 hp2.2 kn1)
      first | refine fo_goI mi_k13 fz13_48_15_72 [.int (x5 + 1), .int x4, .int 0, .int x1, .ref 94] (ku i 6019 ((i 6019) + 1)) (by rfl) ?_ | refine ft_go mi_k13 15 72 [(7, .int 1), (6, .int 0), (0, .ref 94), (1, .int x1), (2, .int 3), (3, .int 0), (4, .int x4), (5, .int x5)] [.int (x5 + 1), .int x4, .int 0, .int x1, .ref 94] (ku i 6019 ((i 6019) + 1)) a13 q r (by rfl) ?_
      have r17 : ((0 : Int) ≤ ((a13 95).getD x1.toNatClampNeg 0).toInt) ∧ (((a13 95).getD x1.toNatClampNeg 0).toInt ≤ 7) := hJ15.I.2.2.1 95 (x1.toNatClampNeg)
      have u18 : ((a13 95).getD x1.toNatClampNeg 0).toInt = ((a 95).getD x1.toNatClampNeg 0).toInt := congrArg (fun z : List Int32 => (z.getD x1.toNatClampNeg 0).toInt) (fa13 95 (by decide))
      refine ko_callI mi_k13.1 (pc := 72) (ls := [(7, .int 1), (6, .int 0), (0, .ref 94), (1, .int x1), (2, .int 3), (3, .int 0), (4, .int x4), (5, .int x5)]) (st := [.int (x5 + 1), .int x4, .int 0, .int x1, .ref 94]) (h := ks (ku i 6019 ((i 6019) + 1)) a13 q r) (i := (.invokevirtual 43, 3, 14, 0, 9, 0, 301)) (mi_k13.2 _ _ (by rfl)) (ft_invS mi_pq14 (by rfl)) (cy := mi_c14) mi_pq14 rfl (kc14_94_l10_K3 hJ15.I hJ15.R x1 x4 (x5 + 1) (oz1339 hp0.1 hp0.2) (oz1422 hp1 u18) (oz1340 hp2.1 hp2.2 s16 kn1) (oz1345 fi_6019.1 hp3.2 s14 kn1)) (by decide) ?_
      intro vg19 ig19 ag19 qg19 rg19 kg19 hg19
      have hGg19 := kG_call hJ15 kg19 (by decide +kernel)
      have efig19_6019 : (ig19 6019).toInt = ((i 6019) + 1).toInt := kg19.ti 6019 rfl
      exact ft_ret mi_k13 (by rfl) (hP vg19 _ _ _ _ hGg19 (oz1342 efig19_6019 s14 kn1))
  ·
    have c21 : (40 : Int32).toInt ≤ x5.toInt := kd_ltF c; clear c
    exact (oz1346 c21 hp2.2 kn40).elim
set_option maxRecDepth 100000 in
theorem kc11_l03_l11 {i : Nat → Int32} {a : Nat → List Int32} {q : Nat → List Int64} {r : Nat → Nat} (hI : kI i a q) (hr : kr r)  : km 1 11 [.int 3, .int 1] (ks i a q r) (kPI (ks i a q r) (fun v => v.toInt = 3)) := by
  have hG := kG_self kW0 hI hr
  refine km_ofPI (q := (mi_h11, mi_c11)) rfl (by decide) (Nat.le_of_ble_eq_true rfl) ?_
  intro P hP
  first | refine ft_goL mi_k11 16 26 [(3, .int 0), (2, .int 3), (0, .int 3), (1, .int 1)] [.int (3 * 4), .ref (mi_RO + 3)] (by rfl) ?_
  refine ko_top (by decide : (3 * 4 : Int32) = 12) ?_
  refine fo_goS mi_k11 fz11_26_2_28 [.int (12 + 1), .ref (mi_RO + 3)] rfl ?_
  refine ko_top (by decide : (12 + 1 : Int32) = 13) ?_
  refine ft_ro mi_k11 (w := 41) (by decide +kernel) (by decide +kernel) ?_
  refine fo_goS mi_k11 fz11_29_2_33 [.int 3] rfl ?_
  exact ft_ret mi_k11 (by rfl) (hP 3 (oz1421 kn3))
noncomputable def w14_94_l11_K3 : kW := ([6019], [96], [], [])
set_option maxRecDepth 100000 in
theorem kc14_94_l11_K3 {i : Nat → Int32} {a : Nat → List Int32} {q : Nat → List Int64} {r : Nat → Nat} (hI : kI i a q) (hr : kr r) (x1 : Int32) (x3 : Int32) (x4 : Int32) (hp0 : ((0 : Int) ≤ x1.toInt) ∧ (x1.toInt ≤ 49)) (hp1 : ((a 95).getD x1.toNatClampNeg 0).toInt = 3) (hp2 : ((0 : Int) ≤ x4.toInt) ∧ ((x4.toInt + 1) ≤ 39)) (hp3 : ((0 : Int) ≤ (i 6019).toInt) ∧ (((i 6019).toInt + 1) ≤ 900)) : km 5 14 [.ref 94, .int x1, .int 1, .int x3, .int x4] (ks i a q r) (kVI w14_94_l11_K3 i a q r (fun v i1 a1 q1 r1 => (i1 6019).toInt = ((i 6019).toInt + 1))) := by
  have hG := kG_self w14_94_l11_K3 hI hr
  refine km_ofI (q := (mi_h14, mi_c14)) rfl (by decide) (Nat.le_of_ble_eq_true rfl) ?_
  intro P hP
  have r1 : ((0 : Int) ≤ ((a 95).getD x1.toNatClampNeg 0).toInt) ∧ (((a 95).getD x1.toNatClampNeg 0).toInt ≤ 7) := hG.I.2.2.1 95 (x1.toNatClampNeg)
  have fi_6019 : ((0 : Int) ≤ (i 6019).toInt) ∧ ((i 6019).toInt ≤ 1000) := hG.I.1 6019
  refine fo_goL mi_k14 fz14_0_3_5 [(0, .ref 94), (1, .int x1), (2, .int 1), (3, .int x3), (4, .int x4)] [.int x1, .ref 95] rfl ?_
  refine ko_iald3 mi_k14.1 (n := 50) (c := 50) (ax := (0, 0, 0, 0, 0)) (mi_k14.2 _ _ (by rfl)) (by rfl) (ksG95 _ _ _ _) (hG.I.2.1 95) rfl (oz3 hp0.1) (oz1336 hp0.2) ?_
  refine ko_top (kj_eq (oz1421 hp1) (by decide) : ((a 95).getD x1.toNatClampNeg 0) = 3) ?_
  refine ft_goL mi_k14 9 48 [(5, .int 3), (0, .ref 94), (1, .int x1), (2, .int 1), (3, .int x3), (4, .int x4)] [.int x4, .int x3, .int 0, .int 3, .int x1, .ref 94] (by rfl) ?_
  refine ko_callI mi_k14.1 (pc := 48) (ls := [(5, .int 3), (0, .ref 94), (1, .int x1), (2, .int 1), (3, .int x3), (4, .int x4)]) (st := [.int x4, .int x3, .int 0, .int 3, .int x1, .ref 94]) (h := ks i a q r) (i := (.invokevirtual 35, 3, 13, 0, 9, 0, 297)) (mi_k14.2 _ _ (by rfl)) (ft_invS mi_pq13 (by rfl)) (cy := mi_c13) mi_pq13 rfl (kc13_94_l13_l20_K3 hG.I hG.R x1 x3 x4 (oz1339 hp0.1 hp0.2) (oz1421 hp1) (oz1353 hp2.1 hp2.2) (oz1354 fi_6019.1 hp3.2)) (by decide) ?_
  intro vg2 ig2 ag2 qg2 rg2 kg2 hg2
  have hGg2 := kG_call hG kg2 (by decide +kernel)
  have z3 : (ig2 6019).toInt = ((i 6019).toInt + 1) := hg2
  have b4 : ((-2147483648 : Int) ≤ vg2.toInt) ∧ (vg2.toInt ≤ 2147483647) := kd_bd vg2
  refine fo_goS mi_k14 fz14_51_2_53 [.int (vg2 * 2)] rfl ?_
  exact ft_ret mi_k14 (by rfl) (hP (vg2 * 2) _ _ _ _ hGg2 (oz1355 z3))
noncomputable def w13_94_l10_l21_K3 : kW := ([6019], [96], [], [])
set_option maxRecDepth 100000 in
theorem kc13_94_l10_l21_K3 {i : Nat → Int32} {a : Nat → List Int32} {q : Nat → List Int64} {r : Nat → Nat} (hI : kI i a q) (hr : kr r) (x1 : Int32) (x4 : Int32) (x5 : Int32) (hp0 : ((0 : Int) ≤ x1.toInt) ∧ (x1.toInt ≤ 49)) (hp1 : ((a 95).getD x1.toNatClampNeg 0).toInt = 3) (hp2 : ((0 : Int) ≤ x5.toInt) ∧ ((x5.toInt + 2) ≤ 39)) (hp3 : ((0 : Int) ≤ (i 6019).toInt) ∧ (((i 6019).toInt + 2) ≤ 900)) : km 7 13 [.ref 94, .int x1, .int 0, .int 1, .int x4, .int x5] (ks i a q r) (kVI w13_94_l10_l21_K3 i a q r (fun v i1 a1 q1 r1 => (i1 6019).toInt = ((i 6019).toInt + 2))) := by
  have hG := kG_self w13_94_l10_l21_K3 hI hr
  refine km_ofI (q := (mi_h13, mi_c13)) rfl (by decide) (Nat.le_of_ble_eq_true rfl) ?_
  intro P hP
  have r1 : ((0 : Int) ≤ ((a 95).getD x1.toNatClampNeg 0).toInt) ∧ (((a 95).getD x1.toNatClampNeg 0).toInt ≤ 7) := hG.I.2.2.1 95 (x1.toNatClampNeg)
  have fi_6019 : ((0 : Int) ≤ (i 6019).toInt) ∧ ((i 6019).toInt ≤ 1000) := hG.I.1 6019
  refine fo_goL mi_k13 fz13_0_2_4 [(0, .ref 94), (1, .int x1), (2, .int 0), (3, .int 1), (4, .int x4), (5, .int x5)] [.int 40, .int x5] rfl ?_
  refine ft_ifS mi_k13 (decide (x5 < 40)) 9 7 [] (by rfl) (fun c => ?_) (fun c => ?_)
  ·
    have c2 : x5.toInt < (40 : Int32).toInt := kd_lt c; clear c
    refine fo_goS mi_k13 fz13_9_2_11 [.int 1, .int 0] rfl ?_
    refine ko_callPI mi_k13.1 (pc := 11) (ls := [(0, .ref 94), (1, .int x1), (2, .int 0), (3, .int 1), (4, .int x4), (5, .int x5)]) (st := [.int 1, .int 0]) (h := ks i a q r) (i := (.invokestatic 39, 3, 11, 0, 9, 0, 298)) (mi_k13.2 _ _ (by rfl)) (ft_invS mi_pq11 (by rfl)) (cy := mi_c11) mi_pq11 rfl (kc11_l00_l11 hG.I hG.R ) (by decide) ?_
    intro vg3 hg3
    have z4 : vg3.toInt = 0 := hg3
    have evvg3 := kj_eq (oz236 z4) (by decide : (0 : Int32).toInt = 0)
    subst evvg3
    refine ft_goL mi_k13 5 23 [(6, .int 0), (0, .ref 94), (1, .int x1), (2, .int 0), (3, .int 1), (4, .int x4), (5, .int x5)] [.int (0 * 4), .ref (mi_RO + 3)] (by rfl) ?_
    refine ko_top (by decide : (0 * 4 : Int32) = 0) ?_
    refine fo_goS mi_k13 fz13_23_2_25 [.int (0 + 1), .ref (mi_RO + 3)] rfl ?_
    refine ko_top (by decide : (0 + 1 : Int32) = 1) ?_
    refine ft_ro mi_k13 (w := 10) (by decide +kernel) (by decide +kernel) ?_
    refine fo_goL mi_k13 fz13_26_4_34 [(7, .int 10), (6, .int 0), (0, .ref 94), (1, .int x1), (2, .int 0), (3, .int 1), (4, .int x4), (5, .int x5)] [.int 24, .int (i 6019)] rfl ?_
    refine ft_ifS mi_k13 (decide (24 ≤ (i 6019))) 48 37 [] (by rfl) (fun c => ?_) (fun c => ?_)
    ·
      have c6 : (24 : Int32).toInt ≤ (i 6019).toInt := kd_le c; clear c
      have s7 : ((i 6019) + 1).toInt = (i 6019).toInt + (1 : Int32).toInt := kd_add (oz1332 c6 kn24 kn1) (oz951 fi_6019.2 kn1)
      have hJ8 := kG_i hG 6019 rfl (v := ((i 6019) + 1)) ⟨(oz1333 c6 s7 kn24 kn1), (oz1351 hp3.2 s7 kn1)⟩
      have s9 : (x5 + 1).toInt = x5.toInt + (1 : Int32).toInt := kd_add (oz12 hp2.1 kn1) (oz1352 hp2.2 kn1)
      first | refine fo_goI mi_k13 fz13_48_15_72 [.int (x5 + 1), .int x4, .int 1, .int x1, .ref 94] (ku i 6019 ((i 6019) + 1)) (by rfl) ?_ | refine ft_go mi_k13 15 72 [(7, .int 10), (6, .int 0), (0, .ref 94), (1, .int x1), (2, .int 0), (3, .int 1), (4, .int x4), (5, .int x5)] [.int (x5 + 1), .int x4, .int 1, .int x1, .ref 94] (ku i 6019 ((i 6019) + 1)) a q r (by rfl) ?_
      refine ko_callI mi_k13.1 (pc := 72) (ls := [(7, .int 10), (6, .int 0), (0, .ref 94), (1, .int x1), (2, .int 0), (3, .int 1), (4, .int x4), (5, .int x5)]) (st := [.int (x5 + 1), .int x4, .int 1, .int x1, .ref 94]) (h := ks (ku i 6019 ((i 6019) + 1)) a q r) (i := (.invokevirtual 43, 3, 14, 0, 9, 0, 301)) (mi_k13.2 _ _ (by rfl)) (ft_invS mi_pq14 (by rfl)) (cy := mi_c14) mi_pq14 rfl (kc14_94_l11_K3 hJ8.I hJ8.R x1 x4 (x5 + 1) (oz1339 hp0.1 hp0.2) (oz1421 hp1) (oz1356 hp2.1 hp2.2 s9 kn1) (oz1357 c6 hp3.2 s7 kn24 kn1)) (by decide) ?_
      intro vg10 ig10 ag10 qg10 rg10 kg10 hg10
      have hGg10 := kG_call hJ8 kg10 (by decide +kernel)
      have z11 : (ig10 6019).toInt = (((i 6019) + 1).toInt + 1) := hg10
      exact ft_ret mi_k13 (by rfl) (hP vg10 _ _ _ _ hGg10 (oz1358 s7 z11 kn1))
    ·
      have c12 : (i 6019).toInt < (24 : Int32).toInt := kd_leF c; clear c
      refine fo_goS mi_k13 fz13_37_5_47 [.int 10, .int (i 6019), .ref 96] rfl ?_
      refine ko_iast3 mi_k13.1 (n := 24) (c := 24) (ax := (0, 0, 0, 0, 0)) (mi_k13.2 _ _ (by rfl)) (by rfl) (ksG96 _ _ _ _) (ksA96 _ _ _ _) (hG.I.2.1 96) rfl (oz3 fi_6019.1) (oz1343 c12 kn24) ?_
      intro a13 ea13 fa13
      have hJ13 := kG_a3 hG 96 rfl ea13 fa13 (kd_bd _)
      have s14 : ((i 6019) + 1).toInt = (i 6019).toInt + (1 : Int32).toInt := kd_add (oz12 fi_6019.1 kn1) (oz951 fi_6019.2 kn1)
      have hJ15 := kG_i hJ13 6019 rfl (v := ((i 6019) + 1)) ⟨(oz14 fi_6019.1 s14 kn1), (oz1351 hp3.2 s14 kn1)⟩
      have s16 : (x5 + 1).toInt = x5.toInt + (1 : Int32).toInt := kd_add (oz12 hp2.1 kn1) (oz1352 hp2.2 kn1)
      first | refine fo_goI mi_k13 fz13_48_15_72 [.int (x5 + 1), .int x4, .int 1, .int x1, .ref 94] (ku i 6019 ((i 6019) + 1)) (by rfl) ?_ | refine ft_go mi_k13 15 72 [(7, .int 10), (6, .int 0), (0, .ref 94), (1, .int x1), (2, .int 0), (3, .int 1), (4, .int x4), (5, .int x5)] [.int (x5 + 1), .int x4, .int 1, .int x1, .ref 94] (ku i 6019 ((i 6019) + 1)) a13 q r (by rfl) ?_
      have r17 : ((0 : Int) ≤ ((a13 95).getD x1.toNatClampNeg 0).toInt) ∧ (((a13 95).getD x1.toNatClampNeg 0).toInt ≤ 7) := hJ15.I.2.2.1 95 (x1.toNatClampNeg)
      have u18 : ((a13 95).getD x1.toNatClampNeg 0).toInt = ((a 95).getD x1.toNatClampNeg 0).toInt := congrArg (fun z : List Int32 => (z.getD x1.toNatClampNeg 0).toInt) (fa13 95 (by decide))
      refine ko_callI mi_k13.1 (pc := 72) (ls := [(7, .int 10), (6, .int 0), (0, .ref 94), (1, .int x1), (2, .int 0), (3, .int 1), (4, .int x4), (5, .int x5)]) (st := [.int (x5 + 1), .int x4, .int 1, .int x1, .ref 94]) (h := ks (ku i 6019 ((i 6019) + 1)) a13 q r) (i := (.invokevirtual 43, 3, 14, 0, 9, 0, 301)) (mi_k13.2 _ _ (by rfl)) (ft_invS mi_pq14 (by rfl)) (cy := mi_c14) mi_pq14 rfl (kc14_94_l11_K3 hJ15.I hJ15.R x1 x4 (x5 + 1) (oz1339 hp0.1 hp0.2) (oz1422 hp1 u18) (oz1356 hp2.1 hp2.2 s16 kn1) (oz1359 fi_6019.1 hp3.2 s14 kn1)) (by decide) ?_
      intro vg19 ig19 ag19 qg19 rg19 kg19 hg19
      have hGg19 := kG_call hJ15 kg19 (by decide +kernel)
      have z20 : (ig19 6019).toInt = (((i 6019) + 1).toInt + 1) := hg19
      exact ft_ret mi_k13 (by rfl) (hP vg19 _ _ _ _ hGg19 (oz1358 s14 z20 kn1))
  ·
    have c21 : (40 : Int32).toInt ≤ x5.toInt := kd_ltF c; clear c
    exact (oz1360 c21 hp2.2 kn40).elim
noncomputable def w13_94_l12_l21_K3 : kW := ([6019], [96], [], [])
set_option maxRecDepth 100000 in
theorem kc13_94_l12_l21_K3 {i : Nat → Int32} {a : Nat → List Int32} {q : Nat → List Int64} {r : Nat → Nat} (hI : kI i a q) (hr : kr r) (x1 : Int32) (x4 : Int32) (x5 : Int32) (hp0 : ((0 : Int) ≤ x1.toInt) ∧ (x1.toInt ≤ 49)) (hp1 : ((a 95).getD x1.toNatClampNeg 0).toInt = 3) (hp2 : ((0 : Int) ≤ x5.toInt) ∧ ((x5.toInt + 3) ≤ 39)) (hp3 : ((0 : Int) ≤ (i 6019).toInt) ∧ (((i 6019).toInt + 3) ≤ 900)) : km 9 13 [.ref 94, .int x1, .int 2, .int 1, .int x4, .int x5] (ks i a q r) (kVI w13_94_l12_l21_K3 i a q r (fun v i1 a1 q1 r1 => (i1 6019).toInt = ((i 6019).toInt + 3))) := by
  have hG := kG_self w13_94_l12_l21_K3 hI hr
  refine km_ofI (q := (mi_h13, mi_c13)) rfl (by decide) (Nat.le_of_ble_eq_true rfl) ?_
  intro P hP
  have r1 : ((0 : Int) ≤ ((a 95).getD x1.toNatClampNeg 0).toInt) ∧ (((a 95).getD x1.toNatClampNeg 0).toInt ≤ 7) := hG.I.2.2.1 95 (x1.toNatClampNeg)
  have fi_6019 : ((0 : Int) ≤ (i 6019).toInt) ∧ ((i 6019).toInt ≤ 1000) := hG.I.1 6019
  refine fo_goL mi_k13 fz13_0_2_4 [(0, .ref 94), (1, .int x1), (2, .int 2), (3, .int 1), (4, .int x4), (5, .int x5)] [.int 40, .int x5] rfl ?_
  refine ft_ifS mi_k13 (decide (x5 < 40)) 9 7 [] (by rfl) (fun c => ?_) (fun c => ?_)
  ·
    have c2 : x5.toInt < (40 : Int32).toInt := kd_lt c; clear c
    refine fo_goS mi_k13 fz13_9_2_11 [.int 1, .int 2] rfl ?_
    refine ko_callPI mi_k13.1 (pc := 11) (ls := [(0, .ref 94), (1, .int x1), (2, .int 2), (3, .int 1), (4, .int x4), (5, .int x5)]) (st := [.int 1, .int 2]) (h := ks i a q r) (i := (.invokestatic 39, 3, 11, 0, 9, 0, 298)) (mi_k13.2 _ _ (by rfl)) (ft_invS mi_pq11 (by rfl)) (cy := mi_c11) mi_pq11 rfl (kc11_l02_l11 hG.I hG.R ) (by decide) ?_
    intro vg3 hg3
    have z4 : vg3.toInt = 2 := hg3
    have evvg3 := kj_eq (oz1411 z4) (by decide : (2 : Int32).toInt = 2)
    subst evvg3
    refine ft_goL mi_k13 5 23 [(6, .int 2), (0, .ref 94), (1, .int x1), (2, .int 2), (3, .int 1), (4, .int x4), (5, .int x5)] [.int (2 * 4), .ref (mi_RO + 3)] (by rfl) ?_
    refine ko_top (by decide : (2 * 4 : Int32) = 8) ?_
    refine fo_goS mi_k13 fz13_23_2_25 [.int (8 + 1), .ref (mi_RO + 3)] rfl ?_
    refine ko_top (by decide : (8 + 1 : Int32) = 9) ?_
    refine ft_ro mi_k13 (w := 30) (by decide +kernel) (by decide +kernel) ?_
    refine fo_goL mi_k13 fz13_26_4_34 [(7, .int 30), (6, .int 2), (0, .ref 94), (1, .int x1), (2, .int 2), (3, .int 1), (4, .int x4), (5, .int x5)] [.int 24, .int (i 6019)] rfl ?_
    refine ft_ifS mi_k13 (decide (24 ≤ (i 6019))) 48 37 [] (by rfl) (fun c => ?_) (fun c => ?_)
    ·
      have c6 : (24 : Int32).toInt ≤ (i 6019).toInt := kd_le c; clear c
      have s7 : ((i 6019) + 1).toInt = (i 6019).toInt + (1 : Int32).toInt := kd_add (oz1332 c6 kn24 kn1) (oz951 fi_6019.2 kn1)
      have hJ8 := kG_i hG 6019 rfl (v := ((i 6019) + 1)) ⟨(oz1333 c6 s7 kn24 kn1), (oz1385 hp3.2 s7 kn1)⟩
      refine ft_goI mi_k13 12 83 [.int 2, .ref (mi_RO + 4), .int x1, .ref 94] (ku i 6019 ((i 6019) + 1)) (by rfl) ?_
      refine ft_ro mi_k13 (w := 0) (by decide +kernel) (by decide +kernel) ?_
      have s10 : (x5 + 1).toInt = x5.toInt + (1 : Int32).toInt := kd_add (oz12 hp2.1 kn1) (oz1366 hp2.2 kn1)
      first | refine ft_goS mi_k13 8 105 [.int (x5 + 1), .int x4, .int 1, .int 0, .int x1, .ref 94] (by rfl) ?_
      refine ko_callI mi_k13.1 (pc := 105) (ls := [(7, .int 30), (6, .int 2), (0, .ref 94), (1, .int x1), (2, .int 2), (3, .int 1), (4, .int x4), (5, .int x5)]) (st := [.int (x5 + 1), .int x4, .int 1, .int 0, .int x1, .ref 94]) (h := ks (ku i 6019 ((i 6019) + 1)) a q r) (i := (.invokevirtual 35, 3, 13, 0, 9, 0, 297)) (mi_k13.2 _ _ (by rfl)) (ft_invS mi_pq13 (by rfl)) (cy := mi_c13) mi_pq13 rfl (kc13_94_l10_l21_K3 hJ8.I hJ8.R x1 x4 (x5 + 1) (oz1339 hp0.1 hp0.2) (oz1421 hp1) (oz1372 hp2.1 hp2.2 s10 kn1) (oz1388 c6 hp3.2 s7 kn24 kn1)) (by decide) ?_
      intro vg11 ig11 ag11 qg11 rg11 kg11 hg11
      have hGg11 := kG_call hJ8 kg11 (by decide +kernel)
      have z12 : (ig11 6019).toInt = (((i 6019) + 1).toInt + 2) := hg11
      refine ft_goL mi_k13 5 196 [(8, .int vg11), (7, .int 30), (6, .int 2), (0, .ref 94), (1, .int x1), (2, .int 2), (3, .int 1), (4, .int x4), (5, .int x5)] [.int (-vg11)] (by rfl) ?_
      exact ft_ret mi_k13 (by rfl) (hP (-vg11) _ _ _ _ hGg11 (oz1389 s7 z12 kn1))
    ·
      have c13 : (i 6019).toInt < (24 : Int32).toInt := kd_leF c; clear c
      refine fo_goS mi_k13 fz13_37_5_47 [.int 30, .int (i 6019), .ref 96] rfl ?_
      refine ko_iast3 mi_k13.1 (n := 24) (c := 24) (ax := (0, 0, 0, 0, 0)) (mi_k13.2 _ _ (by rfl)) (by rfl) (ksG96 _ _ _ _) (ksA96 _ _ _ _) (hG.I.2.1 96) rfl (oz3 fi_6019.1) (oz1343 c13 kn24) ?_
      intro a14 ea14 fa14
      have hJ14 := kG_a3 hG 96 rfl ea14 fa14 (kd_bd _)
      have s15 : ((i 6019) + 1).toInt = (i 6019).toInt + (1 : Int32).toInt := kd_add (oz12 fi_6019.1 kn1) (oz951 fi_6019.2 kn1)
      have hJ16 := kG_i hJ14 6019 rfl (v := ((i 6019) + 1)) ⟨(oz14 fi_6019.1 s15 kn1), (oz1385 hp3.2 s15 kn1)⟩
      refine ft_goI mi_k13 12 83 [.int 2, .ref (mi_RO + 4), .int x1, .ref 94] (ku i 6019 ((i 6019) + 1)) (by rfl) ?_
      refine ft_ro mi_k13 (w := 0) (by decide +kernel) (by decide +kernel) ?_
      have s18 : (x5 + 1).toInt = x5.toInt + (1 : Int32).toInt := kd_add (oz12 hp2.1 kn1) (oz1366 hp2.2 kn1)
      first | refine ft_goS mi_k13 8 105 [.int (x5 + 1), .int x4, .int 1, .int 0, .int x1, .ref 94] (by rfl) ?_
      have r19 : ((0 : Int) ≤ ((a14 95).getD x1.toNatClampNeg 0).toInt) ∧ (((a14 95).getD x1.toNatClampNeg 0).toInt ≤ 7) := hJ16.I.2.2.1 95 (x1.toNatClampNeg)
      have u20 : ((a14 95).getD x1.toNatClampNeg 0).toInt = ((a 95).getD x1.toNatClampNeg 0).toInt := congrArg (fun z : List Int32 => (z.getD x1.toNatClampNeg 0).toInt) (fa14 95 (by decide))
      refine ko_callI mi_k13.1 (pc := 105) (ls := [(7, .int 30), (6, .int 2), (0, .ref 94), (1, .int x1), (2, .int 2), (3, .int 1), (4, .int x4), (5, .int x5)]) (st := [.int (x5 + 1), .int x4, .int 1, .int 0, .int x1, .ref 94]) (h := ks (ku i 6019 ((i 6019) + 1)) a14 q r) (i := (.invokevirtual 35, 3, 13, 0, 9, 0, 297)) (mi_k13.2 _ _ (by rfl)) (ft_invS mi_pq13 (by rfl)) (cy := mi_c13) mi_pq13 rfl (kc13_94_l10_l21_K3 hJ16.I hJ16.R x1 x4 (x5 + 1) (oz1339 hp0.1 hp0.2) (oz1422 hp1 u20) (oz1372 hp2.1 hp2.2 s18 kn1) (oz1390 fi_6019.1 hp3.2 s15 kn1)) (by decide) ?_
      intro vg21 ig21 ag21 qg21 rg21 kg21 hg21
      have hGg21 := kG_call hJ16 kg21 (by decide +kernel)
      have z22 : (ig21 6019).toInt = (((i 6019) + 1).toInt + 2) := hg21
      refine ft_goL mi_k13 5 196 [(8, .int vg21), (7, .int 30), (6, .int 2), (0, .ref 94), (1, .int x1), (2, .int 2), (3, .int 1), (4, .int x4), (5, .int x5)] [.int (-vg21)] (by rfl) ?_
      exact ft_ret mi_k13 (by rfl) (hP (-vg21) _ _ _ _ hGg21 (oz1389 s15 z22 kn1))
  ·
    have c23 : (40 : Int32).toInt ≤ x5.toInt := kd_ltF c; clear c
    exact (oz1376 c23 hp2.2 kn40).elim
noncomputable def w13_94_l13_l21_K3 : kW := ([6019], [96], [], [])
set_option maxRecDepth 100000 in
theorem kc13_94_l13_l21_K3 {i : Nat → Int32} {a : Nat → List Int32} {q : Nat → List Int64} {r : Nat → Nat} (hI : kI i a q) (hr : kr r) (x1 : Int32) (x4 : Int32) (x5 : Int32) (hp0 : ((0 : Int) ≤ x1.toInt) ∧ (x1.toInt ≤ 49)) (hp1 : ((a 95).getD x1.toNatClampNeg 0).toInt = 3) (hp2 : ((0 : Int) ≤ x5.toInt) ∧ ((x5.toInt + 4) ≤ 39)) (hp3 : ((0 : Int) ≤ (i 6019).toInt) ∧ (((i 6019).toInt + 4) ≤ 900)) : km 11 13 [.ref 94, .int x1, .int 3, .int 1, .int x4, .int x5] (ks i a q r) (kVI w13_94_l13_l21_K3 i a q r (fun v i1 a1 q1 r1 => (i1 6019).toInt = ((i 6019).toInt + 4))) := by
  have hG := kG_self w13_94_l13_l21_K3 hI hr
  refine km_ofI (q := (mi_h13, mi_c13)) rfl (by decide) (Nat.le_of_ble_eq_true rfl) ?_
  intro P hP
  have r1 : ((0 : Int) ≤ ((a 95).getD x1.toNatClampNeg 0).toInt) ∧ (((a 95).getD x1.toNatClampNeg 0).toInt ≤ 7) := hG.I.2.2.1 95 (x1.toNatClampNeg)
  have fi_6019 : ((0 : Int) ≤ (i 6019).toInt) ∧ ((i 6019).toInt ≤ 1000) := hG.I.1 6019
  refine fo_goL mi_k13 fz13_0_2_4 [(0, .ref 94), (1, .int x1), (2, .int 3), (3, .int 1), (4, .int x4), (5, .int x5)] [.int 40, .int x5] rfl ?_
  refine ft_ifS mi_k13 (decide (x5 < 40)) 9 7 [] (by rfl) (fun c => ?_) (fun c => ?_)
  ·
    have c2 : x5.toInt < (40 : Int32).toInt := kd_lt c; clear c
    refine fo_goS mi_k13 fz13_9_2_11 [.int 1, .int 3] rfl ?_
    refine ko_callPI mi_k13.1 (pc := 11) (ls := [(0, .ref 94), (1, .int x1), (2, .int 3), (3, .int 1), (4, .int x4), (5, .int x5)]) (st := [.int 1, .int 3]) (h := ks i a q r) (i := (.invokestatic 39, 3, 11, 0, 9, 0, 298)) (mi_k13.2 _ _ (by rfl)) (ft_invS mi_pq11 (by rfl)) (cy := mi_c11) mi_pq11 rfl (kc11_l03_l11 hG.I hG.R ) (by decide) ?_
    intro vg3 hg3
    have z4 : vg3.toInt = 3 := hg3
    have evvg3 := kj_eq (oz1421 z4) (by decide : (3 : Int32).toInt = 3)
    subst evvg3
    refine ft_goL mi_k13 5 23 [(6, .int 3), (0, .ref 94), (1, .int x1), (2, .int 3), (3, .int 1), (4, .int x4), (5, .int x5)] [.int (3 * 4), .ref (mi_RO + 3)] (by rfl) ?_
    refine ko_top (by decide : (3 * 4 : Int32) = 12) ?_
    refine fo_goS mi_k13 fz13_23_2_25 [.int (12 + 1), .ref (mi_RO + 3)] rfl ?_
    refine ko_top (by decide : (12 + 1 : Int32) = 13) ?_
    refine ft_ro mi_k13 (w := 41) (by decide +kernel) (by decide +kernel) ?_
    refine fo_goL mi_k13 fz13_26_4_34 [(7, .int 41), (6, .int 3), (0, .ref 94), (1, .int x1), (2, .int 3), (3, .int 1), (4, .int x4), (5, .int x5)] [.int 24, .int (i 6019)] rfl ?_
    refine ft_ifS mi_k13 (decide (24 ≤ (i 6019))) 48 37 [] (by rfl) (fun c => ?_) (fun c => ?_)
    ·
      have c6 : (24 : Int32).toInt ≤ (i 6019).toInt := kd_le c; clear c
      have s7 : ((i 6019) + 1).toInt = (i 6019).toInt + (1 : Int32).toInt := kd_add (oz1332 c6 kn24 kn1) (oz951 fi_6019.2 kn1)
      have hJ8 := kG_i hG 6019 rfl (v := ((i 6019) + 1)) ⟨(oz1333 c6 s7 kn24 kn1), (oz1365 hp3.2 s7 kn1)⟩
      refine ft_goI mi_k13 12 83 [.int 3, .ref (mi_RO + 4), .int x1, .ref 94] (ku i 6019 ((i 6019) + 1)) (by rfl) ?_
      refine ft_ro mi_k13 (w := 2) (by decide +kernel) (by decide +kernel) ?_
      have b10 : ((-2147483648 : Int) ≤ x4.toInt) ∧ (x4.toInt ≤ 2147483647) := kd_bd x4
      have s11 : (x5 + 1).toInt = x5.toInt + (1 : Int32).toInt := kd_add (oz12 hp2.1 kn1) (oz1395 hp2.2 kn1)
      first | refine ft_goS mi_k13 11 105 [.int (x5 + 1), .int (x4 + 1), .int 1, .int 2, .int x1, .ref 94] (by rfl) ?_
      refine ko_callI mi_k13.1 (pc := 105) (ls := [(7, .int 41), (6, .int 3), (0, .ref 94), (1, .int x1), (2, .int 3), (3, .int 1), (4, .int x4), (5, .int x5)]) (st := [.int (x5 + 1), .int (x4 + 1), .int 1, .int 2, .int x1, .ref 94]) (h := ks (ku i 6019 ((i 6019) + 1)) a q r) (i := (.invokevirtual 35, 3, 13, 0, 9, 0, 297)) (mi_k13.2 _ _ (by rfl)) (ft_invS mi_pq13 (by rfl)) (cy := mi_c13) mi_pq13 rfl (kc13_94_l12_l21_K3 hJ8.I hJ8.R x1 (x4 + 1) (x5 + 1) (oz1339 hp0.1 hp0.2) (oz1421 hp1) (oz1401 hp2.1 hp2.2 s11 kn1) (oz1373 c6 hp3.2 s7 kn24 kn1)) (by decide) ?_
      intro vg12 ig12 ag12 qg12 rg12 kg12 hg12
      have hGg12 := kG_call hJ8 kg12 (by decide +kernel)
      have z13 : (ig12 6019).toInt = (((i 6019) + 1).toInt + 3) := hg12
      refine ft_goL mi_k13 4 261 [(8, .int vg12), (7, .int 41), (6, .int 3), (0, .ref 94), (1, .int x1), (2, .int 3), (3, .int 1), (4, .int x4), (5, .int x5)] [.int vg12] (by rfl) ?_
      exact ft_ret mi_k13 (by rfl) (hP vg12 _ _ _ _ hGg12 (oz1374 s7 z13 kn1))
    ·
      have c14 : (i 6019).toInt < (24 : Int32).toInt := kd_leF c; clear c
      refine fo_goS mi_k13 fz13_37_5_47 [.int 41, .int (i 6019), .ref 96] rfl ?_
      refine ko_iast3 mi_k13.1 (n := 24) (c := 24) (ax := (0, 0, 0, 0, 0)) (mi_k13.2 _ _ (by rfl)) (by rfl) (ksG96 _ _ _ _) (ksA96 _ _ _ _) (hG.I.2.1 96) rfl (oz3 fi_6019.1) (oz1343 c14 kn24) ?_
      intro a15 ea15 fa15
      have hJ15 := kG_a3 hG 96 rfl ea15 fa15 (kd_bd _)
      have s16 : ((i 6019) + 1).toInt = (i 6019).toInt + (1 : Int32).toInt := kd_add (oz12 fi_6019.1 kn1) (oz951 fi_6019.2 kn1)
      have hJ17 := kG_i hJ15 6019 rfl (v := ((i 6019) + 1)) ⟨(oz14 fi_6019.1 s16 kn1), (oz1365 hp3.2 s16 kn1)⟩
      refine ft_goI mi_k13 12 83 [.int 3, .ref (mi_RO + 4), .int x1, .ref 94] (ku i 6019 ((i 6019) + 1)) (by rfl) ?_
      refine ft_ro mi_k13 (w := 2) (by decide +kernel) (by decide +kernel) ?_
      have b19 : ((-2147483648 : Int) ≤ x4.toInt) ∧ (x4.toInt ≤ 2147483647) := kd_bd x4
      have s20 : (x5 + 1).toInt = x5.toInt + (1 : Int32).toInt := kd_add (oz12 hp2.1 kn1) (oz1395 hp2.2 kn1)
      first | refine ft_goS mi_k13 11 105 [.int (x5 + 1), .int (x4 + 1), .int 1, .int 2, .int x1, .ref 94] (by rfl) ?_
      have r21 : ((0 : Int) ≤ ((a15 95).getD x1.toNatClampNeg 0).toInt) ∧ (((a15 95).getD x1.toNatClampNeg 0).toInt ≤ 7) := hJ17.I.2.2.1 95 (x1.toNatClampNeg)
      have u22 : ((a15 95).getD x1.toNatClampNeg 0).toInt = ((a 95).getD x1.toNatClampNeg 0).toInt := congrArg (fun z : List Int32 => (z.getD x1.toNatClampNeg 0).toInt) (fa15 95 (by decide))
      refine ko_callI mi_k13.1 (pc := 105) (ls := [(7, .int 41), (6, .int 3), (0, .ref 94), (1, .int x1), (2, .int 3), (3, .int 1), (4, .int x4), (5, .int x5)]) (st := [.int (x5 + 1), .int (x4 + 1), .int 1, .int 2, .int x1, .ref 94]) (h := ks (ku i 6019 ((i 6019) + 1)) a15 q r) (i := (.invokevirtual 35, 3, 13, 0, 9, 0, 297)) (mi_k13.2 _ _ (by rfl)) (ft_invS mi_pq13 (by rfl)) (cy := mi_c13) mi_pq13 rfl (kc13_94_l12_l21_K3 hJ17.I hJ17.R x1 (x4 + 1) (x5 + 1) (oz1339 hp0.1 hp0.2) (oz1422 hp1 u22) (oz1401 hp2.1 hp2.2 s20 kn1) (oz1375 fi_6019.1 hp3.2 s16 kn1)) (by decide) ?_
      intro vg23 ig23 ag23 qg23 rg23 kg23 hg23
      have hGg23 := kG_call hJ17 kg23 (by decide +kernel)
      have z24 : (ig23 6019).toInt = (((i 6019) + 1).toInt + 3) := hg23
      refine ft_goL mi_k13 4 261 [(8, .int vg23), (7, .int 41), (6, .int 3), (0, .ref 94), (1, .int x1), (2, .int 3), (3, .int 1), (4, .int x4), (5, .int x5)] [.int vg23] (by rfl) ?_
      exact ft_ret mi_k13 (by rfl) (hP vg23 _ _ _ _ hGg23 (oz1374 s16 z24 kn1))
  ·
    have c25 : (40 : Int32).toInt ≤ x5.toInt := kd_ltF c; clear c
    exact (oz1405 c25 hp2.2 kn40).elim
set_option maxRecDepth 100000 in
theorem kc11_l03_l12 {i : Nat → Int32} {a : Nat → List Int32} {q : Nat → List Int64} {r : Nat → Nat} (hI : kI i a q) (hr : kr r)  : km 1 11 [.int 3, .int 2] (ks i a q r) (kPI (ks i a q r) (fun v => v.toInt = 3)) := by
  have hG := kG_self kW0 hI hr
  refine km_ofPI (q := (mi_h11, mi_c11)) rfl (by decide) (Nat.le_of_ble_eq_true rfl) ?_
  intro P hP
  first | refine ft_goL mi_k11 16 26 [(3, .int 0), (2, .int 3), (0, .int 3), (1, .int 2)] [.int (3 * 4), .ref (mi_RO + 3)] (by rfl) ?_
  refine ko_top (by decide : (3 * 4 : Int32) = 12) ?_
  refine fo_goS mi_k11 fz11_26_2_28 [.int (12 + 2), .ref (mi_RO + 3)] rfl ?_
  refine ko_top (by decide : (12 + 2 : Int32) = 14) ?_
  refine ft_ro mi_k11 (w := 40) (by decide +kernel) (by decide +kernel) ?_
  refine fo_goS mi_k11 fz11_29_2_33 [.int 3] rfl ?_
  exact ft_ret mi_k11 (by rfl) (hP 3 (oz1421 kn3))
noncomputable def w14_94_l12_K3 : kW := ([], [], [], [])
set_option maxRecDepth 100000 in
theorem kc14_94_l12_K3 {i : Nat → Int32} {a : Nat → List Int32} {q : Nat → List Int64} {r : Nat → Nat} (hI : kI i a q) (hr : kr r) (x1 : Int32) (x3 : Int32) (x4 : Int32) (hp0 : ((0 : Int) ≤ x1.toInt) ∧ (x1.toInt ≤ 49)) (hp1 : ((a 95).getD x1.toNatClampNeg 0).toInt = 3) (hp2 : ((0 : Int) ≤ x4.toInt) ∧ ((x4.toInt + 0) ≤ 39)) (hp3 : ((0 : Int) ≤ (i 6019).toInt) ∧ (((i 6019).toInt + 0) ≤ 900)) : km 1 14 [.ref 94, .int x1, .int 2, .int x3, .int x4] (ks i a q r) (kVI w14_94_l12_K3 i a q r (fun v i1 a1 q1 r1 => (i1 6019).toInt = ((i 6019).toInt + 0))) := by
  have hG := kG_self w14_94_l12_K3 hI hr
  refine km_ofI (q := (mi_h14, mi_c14)) rfl (by decide) (Nat.le_of_ble_eq_true rfl) ?_
  intro P hP
  have r1 : ((0 : Int) ≤ ((a 95).getD x1.toNatClampNeg 0).toInt) ∧ (((a 95).getD x1.toNatClampNeg 0).toInt ≤ 7) := hG.I.2.2.1 95 (x1.toNatClampNeg)
  refine fo_goL mi_k14 fz14_0_3_5 [(0, .ref 94), (1, .int x1), (2, .int 2), (3, .int x3), (4, .int x4)] [.int x1, .ref 95] rfl ?_
  refine ko_iald3 mi_k14.1 (n := 50) (c := 50) (ax := (0, 0, 0, 0, 0)) (mi_k14.2 _ _ (by rfl)) (by rfl) (ksG95 _ _ _ _) (hG.I.2.1 95) rfl (oz3 hp0.1) (oz1336 hp0.2) ?_
  refine ko_top (kj_eq (oz1421 hp1) (by decide) : ((a 95).getD x1.toNatClampNeg 0) = 3) ?_
  refine ft_goL mi_k14 6 57 [(5, .int 3), (0, .ref 94), (1, .int x1), (2, .int 2), (3, .int x3), (4, .int x4)] [.int (x3 ^^^ x1)] (by rfl) ?_
  exact ft_ret mi_k14 (by rfl) (hP (x3 ^^^ x1) _ _ _ _ hG oz1338)
noncomputable def w13_94_l12_l22_K3 : kW := ([6019], [96], [], [])
set_option maxRecDepth 100000 in
theorem kc13_94_l12_l22_K3 {i : Nat → Int32} {a : Nat → List Int32} {q : Nat → List Int64} {r : Nat → Nat} (hI : kI i a q) (hr : kr r) (x1 : Int32) (x4 : Int32) (x5 : Int32) (hp0 : ((0 : Int) ≤ x1.toInt) ∧ (x1.toInt ≤ 49)) (hp1 : ((a 95).getD x1.toNatClampNeg 0).toInt = 3) (hp2 : ((0 : Int) ≤ x5.toInt) ∧ ((x5.toInt + 1) ≤ 39)) (hp3 : ((0 : Int) ≤ (i 6019).toInt) ∧ (((i 6019).toInt + 1) ≤ 900)) : km 3 13 [.ref 94, .int x1, .int 2, .int 2, .int x4, .int x5] (ks i a q r) (kVI w13_94_l12_l22_K3 i a q r (fun v i1 a1 q1 r1 => (i1 6019).toInt = ((i 6019).toInt + 1))) := by
  have hG := kG_self w13_94_l12_l22_K3 hI hr
  refine km_ofI (q := (mi_h13, mi_c13)) rfl (by decide) (Nat.le_of_ble_eq_true rfl) ?_
  intro P hP
  have r1 : ((0 : Int) ≤ ((a 95).getD x1.toNatClampNeg 0).toInt) ∧ (((a 95).getD x1.toNatClampNeg 0).toInt ≤ 7) := hG.I.2.2.1 95 (x1.toNatClampNeg)
  have fi_6019 : ((0 : Int) ≤ (i 6019).toInt) ∧ ((i 6019).toInt ≤ 1000) := hG.I.1 6019
  refine fo_goL mi_k13 fz13_0_2_4 [(0, .ref 94), (1, .int x1), (2, .int 2), (3, .int 2), (4, .int x4), (5, .int x5)] [.int 40, .int x5] rfl ?_
  refine ft_ifS mi_k13 (decide (x5 < 40)) 9 7 [] (by rfl) (fun c => ?_) (fun c => ?_)
  ·
    have c2 : x5.toInt < (40 : Int32).toInt := kd_lt c; clear c
    refine fo_goS mi_k13 fz13_9_2_11 [.int 2, .int 2] rfl ?_
    refine ko_callPI mi_k13.1 (pc := 11) (ls := [(0, .ref 94), (1, .int x1), (2, .int 2), (3, .int 2), (4, .int x4), (5, .int x5)]) (st := [.int 2, .int 2]) (h := ks i a q r) (i := (.invokestatic 39, 3, 11, 0, 9, 0, 298)) (mi_k13.2 _ _ (by rfl)) (ft_invS mi_pq11 (by rfl)) (cy := mi_c11) mi_pq11 rfl (kc11_l02_l12 hG.I hG.R ) (by decide) ?_
    intro vg3 hg3
    have z4 : vg3.toInt = 0 := hg3
    have evvg3 := kj_eq (oz236 z4) (by decide : (0 : Int32).toInt = 0)
    subst evvg3
    refine ft_goL mi_k13 5 23 [(6, .int 0), (0, .ref 94), (1, .int x1), (2, .int 2), (3, .int 2), (4, .int x4), (5, .int x5)] [.int (0 * 4), .ref (mi_RO + 3)] (by rfl) ?_
    refine ko_top (by decide : (0 * 4 : Int32) = 0) ?_
    refine fo_goS mi_k13 fz13_23_2_25 [.int (0 + 2), .ref (mi_RO + 3)] rfl ?_
    refine ko_top (by decide : (0 + 2 : Int32) = 2) ?_
    refine ft_ro mi_k13 (w := 11) (by decide +kernel) (by decide +kernel) ?_
    refine fo_goL mi_k13 fz13_26_4_34 [(7, .int 11), (6, .int 0), (0, .ref 94), (1, .int x1), (2, .int 2), (3, .int 2), (4, .int x4), (5, .int x5)] [.int 24, .int (i 6019)] rfl ?_
    refine ft_ifS mi_k13 (decide (24 ≤ (i 6019))) 48 37 [] (by rfl) (fun c => ?_) (fun c => ?_)
    ·
      have c6 : (24 : Int32).toInt ≤ (i 6019).toInt := kd_le c; clear c
      have s7 : ((i 6019) + 1).toInt = (i 6019).toInt + (1 : Int32).toInt := kd_add (oz1332 c6 kn24 kn1) (oz951 fi_6019.2 kn1)
      have hJ8 := kG_i hG 6019 rfl (v := ((i 6019) + 1)) ⟨(oz1333 c6 s7 kn24 kn1), (oz1334 hp3.2 s7 kn1)⟩
      have s9 : (x5 + 1).toInt = x5.toInt + (1 : Int32).toInt := kd_add (oz12 hp2.1 kn1) (oz1335 hp2.2 kn1)
      first | refine fo_goI mi_k13 fz13_48_15_72 [.int (x5 + 1), .int x4, .int 2, .int x1, .ref 94] (ku i 6019 ((i 6019) + 1)) (by rfl) ?_ | refine ft_go mi_k13 15 72 [(7, .int 11), (6, .int 0), (0, .ref 94), (1, .int x1), (2, .int 2), (3, .int 2), (4, .int x4), (5, .int x5)] [.int (x5 + 1), .int x4, .int 2, .int x1, .ref 94] (ku i 6019 ((i 6019) + 1)) a q r (by rfl) ?_
      refine ko_callI mi_k13.1 (pc := 72) (ls := [(7, .int 11), (6, .int 0), (0, .ref 94), (1, .int x1), (2, .int 2), (3, .int 2), (4, .int x4), (5, .int x5)]) (st := [.int (x5 + 1), .int x4, .int 2, .int x1, .ref 94]) (h := ks (ku i 6019 ((i 6019) + 1)) a q r) (i := (.invokevirtual 43, 3, 14, 0, 9, 0, 301)) (mi_k13.2 _ _ (by rfl)) (ft_invS mi_pq14 (by rfl)) (cy := mi_c14) mi_pq14 rfl (kc14_94_l12_K3 hJ8.I hJ8.R x1 x4 (x5 + 1) (oz1339 hp0.1 hp0.2) (oz1421 hp1) (oz1340 hp2.1 hp2.2 s9 kn1) (oz1341 c6 hp3.2 s7 kn24 kn1)) (by decide) ?_
      intro vg10 ig10 ag10 qg10 rg10 kg10 hg10
      have hGg10 := kG_call hJ8 kg10 (by decide +kernel)
      have efig10_6019 : (ig10 6019).toInt = ((i 6019) + 1).toInt := kg10.ti 6019 rfl
      exact ft_ret mi_k13 (by rfl) (hP vg10 _ _ _ _ hGg10 (oz1342 efig10_6019 s7 kn1))
    ·
      have c12 : (i 6019).toInt < (24 : Int32).toInt := kd_leF c; clear c
      refine fo_goS mi_k13 fz13_37_5_47 [.int 11, .int (i 6019), .ref 96] rfl ?_
      refine ko_iast3 mi_k13.1 (n := 24) (c := 24) (ax := (0, 0, 0, 0, 0)) (mi_k13.2 _ _ (by rfl)) (by rfl) (ksG96 _ _ _ _) (ksA96 _ _ _ _) (hG.I.2.1 96) rfl (oz3 fi_6019.1) (oz1343 c12 kn24) ?_
      intro a13 ea13 fa13
      have hJ13 := kG_a3 hG 96 rfl ea13 fa13 (kd_bd _)
      have s14 : ((i 6019) + 1).toInt = (i 6019).toInt + (1 : Int32).toInt := kd_add (oz12 fi_6019.1 kn1) (oz951 fi_6019.2 kn1)
      have hJ15 := kG_i hJ13 6019 rfl (v := ((i 6019) + 1)) ⟨(oz14 fi_6019.1 s14 kn1), (oz1334 hp3.2 s14 kn1)⟩
      have s16 : (x5 + 1).toInt = x5.toInt + (1 : Int32).toInt := kd_add (oz12 hp2.1 kn1) (oz1335 hp2.2 kn1)
      first | refine fo_goI mi_k13 fz13_48_15_72 [.int (x5 + 1), .int x4, .int 2, .int x1, .ref 94] (ku i 6019 ((i 6019) + 1)) (by rfl) ?_ | refine ft_go mi_k13 15 72 [(7, .int 11), (6, .int 0), (0, .ref 94), (1, .int x1), (2, .int 2), (3, .int 2), (4, .int x4), (5, .int x5)] [.int (x5 + 1), .int x4, .int 2, .int x1, .ref 94] (ku i 6019 ((i 6019) + 1)) a13 q r (by rfl) ?_
      have r17 : ((0 : Int) ≤ ((a13 95).getD x1.toNatClampNeg 0).toInt) ∧ (((a13 95).getD x1.toNatClampNeg 0).toInt ≤ 7) := hJ15.I.2.2.1 95 (x1.toNatClampNeg)
      have u18 : ((a13 95).getD x1.toNatClampNeg 0).toInt = ((a 95).getD x1.toNatClampNeg 0).toInt := congrArg (fun z : List Int32 => (z.getD x1.toNatClampNeg 0).toInt) (fa13 95 (by decide))
      refine ko_callI mi_k13.1 (pc := 72) (ls := [(7, .int 11), (6, .int 0), (0, .ref 94), (1, .int x1), (2, .int 2), (3, .int 2), (4, .int x4), (5, .int x5)]) (st := [.int (x5 + 1), .int x4, .int 2, .int x1, .ref 94]) (h := ks (ku i 6019 ((i 6019) + 1)) a13 q r) (i := (.invokevirtual 43, 3, 14, 0, 9, 0, 301)) (mi_k13.2 _ _ (by rfl)) (ft_invS mi_pq14 (by rfl)) (cy := mi_c14) mi_pq14 rfl (kc14_94_l12_K3 hJ15.I hJ15.R x1 x4 (x5 + 1) (oz1339 hp0.1 hp0.2) (oz1422 hp1 u18) (oz1340 hp2.1 hp2.2 s16 kn1) (oz1345 fi_6019.1 hp3.2 s14 kn1)) (by decide) ?_
      intro vg19 ig19 ag19 qg19 rg19 kg19 hg19
      have hGg19 := kG_call hJ15 kg19 (by decide +kernel)
      have efig19_6019 : (ig19 6019).toInt = ((i 6019) + 1).toInt := kg19.ti 6019 rfl
      exact ft_ret mi_k13 (by rfl) (hP vg19 _ _ _ _ hGg19 (oz1342 efig19_6019 s14 kn1))
  ·
    have c21 : (40 : Int32).toInt ≤ x5.toInt := kd_ltF c; clear c
    exact (oz1346 c21 hp2.2 kn40).elim
noncomputable def w13_94_l13_l22_K3 : kW := ([6019], [96], [], [])
set_option maxRecDepth 100000 in
theorem kc13_94_l13_l22_K3 {i : Nat → Int32} {a : Nat → List Int32} {q : Nat → List Int64} {r : Nat → Nat} (hI : kI i a q) (hr : kr r) (x1 : Int32) (x4 : Int32) (x5 : Int32) (hp0 : ((0 : Int) ≤ x1.toInt) ∧ (x1.toInt ≤ 49)) (hp1 : ((a 95).getD x1.toNatClampNeg 0).toInt = 3) (hp2 : ((0 : Int) ≤ x5.toInt) ∧ ((x5.toInt + 2) ≤ 39)) (hp3 : ((0 : Int) ≤ (i 6019).toInt) ∧ (((i 6019).toInt + 2) ≤ 900)) : km 5 13 [.ref 94, .int x1, .int 3, .int 2, .int x4, .int x5] (ks i a q r) (kVI w13_94_l13_l22_K3 i a q r (fun v i1 a1 q1 r1 => (i1 6019).toInt = ((i 6019).toInt + 2))) := by
  have hG := kG_self w13_94_l13_l22_K3 hI hr
  refine km_ofI (q := (mi_h13, mi_c13)) rfl (by decide) (Nat.le_of_ble_eq_true rfl) ?_
  intro P hP
  have r1 : ((0 : Int) ≤ ((a 95).getD x1.toNatClampNeg 0).toInt) ∧ (((a 95).getD x1.toNatClampNeg 0).toInt ≤ 7) := hG.I.2.2.1 95 (x1.toNatClampNeg)
  have fi_6019 : ((0 : Int) ≤ (i 6019).toInt) ∧ ((i 6019).toInt ≤ 1000) := hG.I.1 6019
  refine fo_goL mi_k13 fz13_0_2_4 [(0, .ref 94), (1, .int x1), (2, .int 3), (3, .int 2), (4, .int x4), (5, .int x5)] [.int 40, .int x5] rfl ?_
  refine ft_ifS mi_k13 (decide (x5 < 40)) 9 7 [] (by rfl) (fun c => ?_) (fun c => ?_)
  ·
    have c2 : x5.toInt < (40 : Int32).toInt := kd_lt c; clear c
    refine fo_goS mi_k13 fz13_9_2_11 [.int 2, .int 3] rfl ?_
    refine ko_callPI mi_k13.1 (pc := 11) (ls := [(0, .ref 94), (1, .int x1), (2, .int 3), (3, .int 2), (4, .int x4), (5, .int x5)]) (st := [.int 2, .int 3]) (h := ks i a q r) (i := (.invokestatic 39, 3, 11, 0, 9, 0, 298)) (mi_k13.2 _ _ (by rfl)) (ft_invS mi_pq11 (by rfl)) (cy := mi_c11) mi_pq11 rfl (kc11_l03_l12 hG.I hG.R ) (by decide) ?_
    intro vg3 hg3
    have z4 : vg3.toInt = 3 := hg3
    have evvg3 := kj_eq (oz1421 z4) (by decide : (3 : Int32).toInt = 3)
    subst evvg3
    refine ft_goL mi_k13 5 23 [(6, .int 3), (0, .ref 94), (1, .int x1), (2, .int 3), (3, .int 2), (4, .int x4), (5, .int x5)] [.int (3 * 4), .ref (mi_RO + 3)] (by rfl) ?_
    refine ko_top (by decide : (3 * 4 : Int32) = 12) ?_
    refine fo_goS mi_k13 fz13_23_2_25 [.int (12 + 2), .ref (mi_RO + 3)] rfl ?_
    refine ko_top (by decide : (12 + 2 : Int32) = 14) ?_
    refine ft_ro mi_k13 (w := 40) (by decide +kernel) (by decide +kernel) ?_
    refine fo_goL mi_k13 fz13_26_4_34 [(7, .int 40), (6, .int 3), (0, .ref 94), (1, .int x1), (2, .int 3), (3, .int 2), (4, .int x4), (5, .int x5)] [.int 24, .int (i 6019)] rfl ?_
    refine ft_ifS mi_k13 (decide (24 ≤ (i 6019))) 48 37 [] (by rfl) (fun c => ?_) (fun c => ?_)
    ·
      have c6 : (24 : Int32).toInt ≤ (i 6019).toInt := kd_le c; clear c
      have s7 : ((i 6019) + 1).toInt = (i 6019).toInt + (1 : Int32).toInt := kd_add (oz1332 c6 kn24 kn1) (oz951 fi_6019.2 kn1)
      have hJ8 := kG_i hG 6019 rfl (v := ((i 6019) + 1)) ⟨(oz1333 c6 s7 kn24 kn1), (oz1351 hp3.2 s7 kn1)⟩
      refine ft_goI mi_k13 12 83 [.int 3, .ref (mi_RO + 4), .int x1, .ref 94] (ku i 6019 ((i 6019) + 1)) (by rfl) ?_
      refine ft_ro mi_k13 (w := 2) (by decide +kernel) (by decide +kernel) ?_
      have s10 : (x5 + 1).toInt = x5.toInt + (1 : Int32).toInt := kd_add (oz12 hp2.1 kn1) (oz1352 hp2.2 kn1)
      first | refine ft_goS mi_k13 8 105 [.int (x5 + 1), .int x4, .int 2, .int 2, .int x1, .ref 94] (by rfl) ?_
      refine ko_callI mi_k13.1 (pc := 105) (ls := [(7, .int 40), (6, .int 3), (0, .ref 94), (1, .int x1), (2, .int 3), (3, .int 2), (4, .int x4), (5, .int x5)]) (st := [.int (x5 + 1), .int x4, .int 2, .int 2, .int x1, .ref 94]) (h := ks (ku i 6019 ((i 6019) + 1)) a q r) (i := (.invokevirtual 35, 3, 13, 0, 9, 0, 297)) (mi_k13.2 _ _ (by rfl)) (ft_invS mi_pq13 (by rfl)) (cy := mi_c13) mi_pq13 rfl (kc13_94_l12_l22_K3 hJ8.I hJ8.R x1 x4 (x5 + 1) (oz1339 hp0.1 hp0.2) (oz1421 hp1) (oz1356 hp2.1 hp2.2 s10 kn1) (oz1357 c6 hp3.2 s7 kn24 kn1)) (by decide) ?_
      intro vg11 ig11 ag11 qg11 rg11 kg11 hg11
      have hGg11 := kG_call hJ8 kg11 (by decide +kernel)
      have z12 : (ig11 6019).toInt = (((i 6019) + 1).toInt + 1) := hg11
      have b13 : ((-2147483648 : Int) ≤ vg11.toInt) ∧ (vg11.toInt ≤ 2147483647) := kd_bd vg11
      refine ft_goL mi_k13 6 201 [(8, .int vg11), (7, .int 40), (6, .int 3), (0, .ref 94), (1, .int x1), (2, .int 3), (3, .int 2), (4, .int x4), (5, .int x5)] [.int (vg11 * 3)] (by rfl) ?_
      exact ft_ret mi_k13 (by rfl) (hP (vg11 * 3) _ _ _ _ hGg11 (oz1358 s7 z12 kn1))
    ·
      have c14 : (i 6019).toInt < (24 : Int32).toInt := kd_leF c; clear c
      refine fo_goS mi_k13 fz13_37_5_47 [.int 40, .int (i 6019), .ref 96] rfl ?_
      refine ko_iast3 mi_k13.1 (n := 24) (c := 24) (ax := (0, 0, 0, 0, 0)) (mi_k13.2 _ _ (by rfl)) (by rfl) (ksG96 _ _ _ _) (ksA96 _ _ _ _) (hG.I.2.1 96) rfl (oz3 fi_6019.1) (oz1343 c14 kn24) ?_
      intro a15 ea15 fa15
      have hJ15 := kG_a3 hG 96 rfl ea15 fa15 (kd_bd _)
      have s16 : ((i 6019) + 1).toInt = (i 6019).toInt + (1 : Int32).toInt := kd_add (oz12 fi_6019.1 kn1) (oz951 fi_6019.2 kn1)
      have hJ17 := kG_i hJ15 6019 rfl (v := ((i 6019) + 1)) ⟨(oz14 fi_6019.1 s16 kn1), (oz1351 hp3.2 s16 kn1)⟩
      refine ft_goI mi_k13 12 83 [.int 3, .ref (mi_RO + 4), .int x1, .ref 94] (ku i 6019 ((i 6019) + 1)) (by rfl) ?_
      refine ft_ro mi_k13 (w := 2) (by decide +kernel) (by decide +kernel) ?_
      have s19 : (x5 + 1).toInt = x5.toInt + (1 : Int32).toInt := kd_add (oz12 hp2.1 kn1) (oz1352 hp2.2 kn1)
      first | refine ft_goS mi_k13 8 105 [.int (x5 + 1), .int x4, .int 2, .int 2, .int x1, .ref 94] (by rfl) ?_
      have r20 : ((0 : Int) ≤ ((a15 95).getD x1.toNatClampNeg 0).toInt) ∧ (((a15 95).getD x1.toNatClampNeg 0).toInt ≤ 7) := hJ17.I.2.2.1 95 (x1.toNatClampNeg)
      have u21 : ((a15 95).getD x1.toNatClampNeg 0).toInt = ((a 95).getD x1.toNatClampNeg 0).toInt := congrArg (fun z : List Int32 => (z.getD x1.toNatClampNeg 0).toInt) (fa15 95 (by decide))
      refine ko_callI mi_k13.1 (pc := 105) (ls := [(7, .int 40), (6, .int 3), (0, .ref 94), (1, .int x1), (2, .int 3), (3, .int 2), (4, .int x4), (5, .int x5)]) (st := [.int (x5 + 1), .int x4, .int 2, .int 2, .int x1, .ref 94]) (h := ks (ku i 6019 ((i 6019) + 1)) a15 q r) (i := (.invokevirtual 35, 3, 13, 0, 9, 0, 297)) (mi_k13.2 _ _ (by rfl)) (ft_invS mi_pq13 (by rfl)) (cy := mi_c13) mi_pq13 rfl (kc13_94_l12_l22_K3 hJ17.I hJ17.R x1 x4 (x5 + 1) (oz1339 hp0.1 hp0.2) (oz1422 hp1 u21) (oz1356 hp2.1 hp2.2 s19 kn1) (oz1359 fi_6019.1 hp3.2 s16 kn1)) (by decide) ?_
      intro vg22 ig22 ag22 qg22 rg22 kg22 hg22
      have hGg22 := kG_call hJ17 kg22 (by decide +kernel)
      have z23 : (ig22 6019).toInt = (((i 6019) + 1).toInt + 1) := hg22
      have b24 : ((-2147483648 : Int) ≤ vg22.toInt) ∧ (vg22.toInt ≤ 2147483647) := kd_bd vg22
      refine ft_goL mi_k13 6 201 [(8, .int vg22), (7, .int 40), (6, .int 3), (0, .ref 94), (1, .int x1), (2, .int 3), (3, .int 2), (4, .int x4), (5, .int x5)] [.int (vg22 * 3)] (by rfl) ?_
      exact ft_ret mi_k13 (by rfl) (hP (vg22 * 3) _ _ _ _ hGg22 (oz1358 s16 z23 kn1))
  ·
    have c25 : (40 : Int32).toInt ≤ x5.toInt := kd_ltF c; clear c
    exact (oz1360 c25 hp2.2 kn40).elim
set_option maxRecDepth 100000 in
theorem kc11_l03_l13 {i : Nat → Int32} {a : Nat → List Int32} {q : Nat → List Int64} {r : Nat → Nat} (hI : kI i a q) (hr : kr r)  : km 1 11 [.int 3, .int 3] (ks i a q r) (kPI (ks i a q r) (fun v => v.toInt = 0)) := by
  have hG := kG_self kW0 hI hr
  refine km_ofPI (q := (mi_h11, mi_c11)) rfl (by decide) (Nat.le_of_ble_eq_true rfl) ?_
  intro P hP
  first | refine ft_goL mi_k11 16 26 [(3, .int 0), (2, .int 3), (0, .int 3), (1, .int 3)] [.int (3 * 4), .ref (mi_RO + 3)] (by rfl) ?_
  refine ko_top (by decide : (3 * 4 : Int32) = 12) ?_
  refine fo_goS mi_k11 fz11_26_2_28 [.int (12 + 3), .ref (mi_RO + 3)] rfl ?_
  refine ko_top (by decide : (12 + 3 : Int32) = 15) ?_
  refine ft_ro mi_k11 (w := 0) (by decide +kernel) (by decide +kernel) ?_
  refine ft_goS mi_k11 3 38 [.int 3, .ref (mi_RO + 4)] (by rfl) ?_
  refine ft_ro mi_k11 (w := 2) (by decide +kernel) (by decide +kernel) ?_
  refine fo_goL mi_k11 fz11_39_2_43 [(3, .int (0 + 1)), (2, .int 2), (0, .int 3), (1, .int 3)] [] rfl ?_
  refine ko_loc (by decide : (0 + 1 : Int32) = 1) ?_
  first | refine ft_goL mi_k11 13 26 [(3, .int 1), (2, .int 2), (0, .int 3), (1, .int 3)] [.int (2 * 4), .ref (mi_RO + 3)] (by rfl) ?_ | refine ft_goS mi_k11 13 26 [.int (2 * 4), .ref (mi_RO + 3)] (by rfl) ?_
  refine ko_top (by decide : (2 * 4 : Int32) = 8) ?_
  refine fo_goS mi_k11 fz11_26_2_28 [.int (8 + 3), .ref (mi_RO + 3)] rfl ?_
  refine ko_top (by decide : (8 + 3 : Int32) = 11) ?_
  refine ft_ro mi_k11 (w := 0) (by decide +kernel) (by decide +kernel) ?_
  refine ft_goS mi_k11 3 38 [.int 2, .ref (mi_RO + 4)] (by rfl) ?_
  refine ft_ro mi_k11 (w := 0) (by decide +kernel) (by decide +kernel) ?_
  refine fo_goL mi_k11 fz11_39_2_43 [(3, .int (1 + 1)), (2, .int 0), (0, .int 3), (1, .int 3)] [] rfl ?_
  refine ko_loc (by decide : (1 + 1 : Int32) = 2) ?_
  first | refine ft_goL mi_k11 7 47 [(3, .int 2), (2, .int 0), (0, .int 3), (1, .int 3)] [.int 0] (by rfl) ?_ | refine ft_goS mi_k11 7 47 [.int 0] (by rfl) ?_
  exact ft_ret mi_k11 (by rfl) (hP 0 (oz236 kn0))
noncomputable def w14_94_l13_K3 : kW := ([6019], [96], [], [])
set_option maxRecDepth 100000 in
theorem kc14_94_l13_K3 {i : Nat → Int32} {a : Nat → List Int32} {q : Nat → List Int64} {r : Nat → Nat} (hI : kI i a q) (hr : kr r) (x1 : Int32) (x3 : Int32) (x4 : Int32) (hp0 : ((0 : Int) ≤ x1.toInt) ∧ (x1.toInt ≤ 49)) (hp1 : ((a 95).getD x1.toNatClampNeg 0).toInt = 3) (hp2 : ((0 : Int) ≤ x4.toInt) ∧ ((x4.toInt + 4) ≤ 39)) (hp3 : ((0 : Int) ≤ (i 6019).toInt) ∧ (((i 6019).toInt + 6) ≤ 900)) : km 13 14 [.ref 94, .int x1, .int 3, .int x3, .int x4] (ks i a q r) (kVI w14_94_l13_K3 i a q r (fun v i1 a1 q1 r1 => (i1 6019).toInt = ((i 6019).toInt + 6))) := by
  have hG := kG_self w14_94_l13_K3 hI hr
  refine km_ofI (q := (mi_h14, mi_c14)) rfl (by decide) (Nat.le_of_ble_eq_true rfl) ?_
  intro P hP
  have r1 : ((0 : Int) ≤ ((a 95).getD x1.toNatClampNeg 0).toInt) ∧ (((a 95).getD x1.toNatClampNeg 0).toInt ≤ 7) := hG.I.2.2.1 95 (x1.toNatClampNeg)
  have fi_6019 : ((0 : Int) ≤ (i 6019).toInt) ∧ ((i 6019).toInt ≤ 1000) := hG.I.1 6019
  refine fo_goL mi_k14 fz14_0_3_5 [(0, .ref 94), (1, .int x1), (2, .int 3), (3, .int x3), (4, .int x4)] [.int x1, .ref 95] rfl ?_
  refine ko_iald3 mi_k14.1 (n := 50) (c := 50) (ax := (0, 0, 0, 0, 0)) (mi_k14.2 _ _ (by rfl)) (by rfl) (ksG95 _ _ _ _) (hG.I.2.1 95) rfl (oz3 hp0.1) (oz1336 hp0.2) ?_
  refine ko_top (kj_eq (oz1421 hp1) (by decide) : ((a 95).getD x1.toNatClampNeg 0) = 3) ?_
  refine ft_goL mi_k14 9 66 [(5, .int 3), (0, .ref 94), (1, .int x1), (2, .int 3), (3, .int x3), (4, .int x4)] [.int x4, .int x3, .int 1, .int 3, .int x1, .ref 94] (by rfl) ?_
  refine ko_callI mi_k14.1 (pc := 66) (ls := [(5, .int 3), (0, .ref 94), (1, .int x1), (2, .int 3), (3, .int x3), (4, .int x4)]) (st := [.int x4, .int x3, .int 1, .int 3, .int x1, .ref 94]) (h := ks i a q r) (i := (.invokevirtual 35, 3, 13, 0, 9, 0, 297)) (mi_k14.2 _ _ (by rfl)) (ft_invS mi_pq13 (by rfl)) (cy := mi_c13) mi_pq13 rfl (kc13_94_l13_l21_K3 hG.I hG.R x1 x3 x4 (oz1339 hp0.1 hp0.2) (oz1421 hp1) (oz1431 hp2.1 hp2.2) (oz1432 fi_6019.1 hp3.2)) (by decide) ?_
  intro vg2 ig2 ag2 qg2 rg2 kg2 hg2
  have hGg2 := kG_call hG kg2 (by decide +kernel)
  have fig2_6019 : ((0 : Int) ≤ (ig2 6019).toInt) ∧ ((ig2 6019).toInt ≤ 1000) := hGg2.I.1 6019
  have z3 : (ig2 6019).toInt = ((i 6019).toInt + 4) := hg2
  refine fo_goL mi_k14 fz14_69_8_81 [(6, .int vg2), (5, .int 3), (0, .ref 94), (1, .int x1), (2, .int 3), (3, .int x3), (4, .int x4)] [.int x4, .int 1, .int 2, .int 3, .int x1, .ref 94, .int vg2] rfl ?_
  have r4 : ((0 : Int) ≤ ((ag2 95).getD x1.toNatClampNeg 0).toInt) ∧ (((ag2 95).getD x1.toNatClampNeg 0).toInt ≤ 7) := hGg2.I.2.2.1 95 (x1.toNatClampNeg)
  have u5 : ((ag2 95).getD x1.toNatClampNeg 0).toInt = ((a 95).getD x1.toNatClampNeg 0).toInt := congrArg (fun z : List Int32 => (z.getD x1.toNatClampNeg 0).toInt) (kg2.fa 95 rfl)
  refine ko_callI mi_k14.1 (pc := 81) (ls := [(6, .int vg2), (5, .int 3), (0, .ref 94), (1, .int x1), (2, .int 3), (3, .int x3), (4, .int x4)]) (st := [.int x4, .int 1, .int 2, .int 3, .int x1, .ref 94, .int vg2]) (h := ks ig2 ag2 qg2 rg2) (i := (.invokevirtual 35, 3, 13, 0, 9, 0, 297)) (mi_k14.2 _ _ (by rfl)) (ft_invS mi_pq13 (by rfl)) (cy := mi_c13) mi_pq13 rfl (kc13_94_l13_l22_K3 hGg2.I hGg2.R x1 1 x4 (oz1339 hp0.1 hp0.2) (oz1422 hp1 u5) (oz1433 hp2.1 hp2.2) (oz1434 fig2_6019.1 hp3.2 z3)) (by decide) ?_
  intro vg6 ig6 ag6 qg6 rg6 kg6 hg6
  have hGg6 := kG_call hGg2 kg6 (by decide +kernel)
  have z7 : (ig6 6019).toInt = ((ig2 6019).toInt + 2) := hg6
  have b8 : ((-2147483648 : Int) ≤ vg2.toInt) ∧ (vg2.toInt ≤ 2147483647) := kd_bd vg2
  have b9 : ((-2147483648 : Int) ≤ vg6.toInt) ∧ (vg6.toInt ≤ 2147483647) := kd_bd vg6
  refine fo_goS mi_k14 fz14_84_1_85 [.int (vg2 - vg6)] rfl ?_
  exact ft_ret mi_k14 (by rfl) (hP (vg2 - vg6) _ _ _ _ hGg6 (oz1435 z3 z7))
noncomputable def w13_94_l13_l23_K3 : kW := ([6019], [96], [], [])
set_option maxRecDepth 100000 in
theorem kc13_94_l13_l23_K3 {i : Nat → Int32} {a : Nat → List Int32} {q : Nat → List Int64} {r : Nat → Nat} (hI : kI i a q) (hr : kr r) (x1 : Int32) (x4 : Int32) (x5 : Int32) (hp0 : ((0 : Int) ≤ x1.toInt) ∧ (x1.toInt ≤ 49)) (hp1 : ((a 95).getD x1.toNatClampNeg 0).toInt = 3) (hp2 : ((0 : Int) ≤ x5.toInt) ∧ ((x5.toInt + 5) ≤ 39)) (hp3 : ((0 : Int) ≤ (i 6019).toInt) ∧ (((i 6019).toInt + 7) ≤ 900)) : km 15 13 [.ref 94, .int x1, .int 3, .int 3, .int x4, .int x5] (ks i a q r) (kVI w13_94_l13_l23_K3 i a q r (fun v i1 a1 q1 r1 => (i1 6019).toInt = ((i 6019).toInt + 7))) := by
  have hG := kG_self w13_94_l13_l23_K3 hI hr
  refine km_ofI (q := (mi_h13, mi_c13)) rfl (by decide) (Nat.le_of_ble_eq_true rfl) ?_
  intro P hP
  have r1 : ((0 : Int) ≤ ((a 95).getD x1.toNatClampNeg 0).toInt) ∧ (((a 95).getD x1.toNatClampNeg 0).toInt ≤ 7) := hG.I.2.2.1 95 (x1.toNatClampNeg)
  have fi_6019 : ((0 : Int) ≤ (i 6019).toInt) ∧ ((i 6019).toInt ≤ 1000) := hG.I.1 6019
  refine fo_goL mi_k13 fz13_0_2_4 [(0, .ref 94), (1, .int x1), (2, .int 3), (3, .int 3), (4, .int x4), (5, .int x5)] [.int 40, .int x5] rfl ?_
  refine ft_ifS mi_k13 (decide (x5 < 40)) 9 7 [] (by rfl) (fun c => ?_) (fun c => ?_)
  ·
    have c2 : x5.toInt < (40 : Int32).toInt := kd_lt c; clear c
    refine fo_goS mi_k13 fz13_9_2_11 [.int 3, .int 3] rfl ?_
    refine ko_callPI mi_k13.1 (pc := 11) (ls := [(0, .ref 94), (1, .int x1), (2, .int 3), (3, .int 3), (4, .int x4), (5, .int x5)]) (st := [.int 3, .int 3]) (h := ks i a q r) (i := (.invokestatic 39, 3, 11, 0, 9, 0, 298)) (mi_k13.2 _ _ (by rfl)) (ft_invS mi_pq11 (by rfl)) (cy := mi_c11) mi_pq11 rfl (kc11_l03_l13 hG.I hG.R ) (by decide) ?_
    intro vg3 hg3
    have z4 : vg3.toInt = 0 := hg3
    have evvg3 := kj_eq (oz236 z4) (by decide : (0 : Int32).toInt = 0)
    subst evvg3
    refine ft_goL mi_k13 5 23 [(6, .int 0), (0, .ref 94), (1, .int x1), (2, .int 3), (3, .int 3), (4, .int x4), (5, .int x5)] [.int (0 * 4), .ref (mi_RO + 3)] (by rfl) ?_
    refine ko_top (by decide : (0 * 4 : Int32) = 0) ?_
    refine fo_goS mi_k13 fz13_23_2_25 [.int (0 + 3), .ref (mi_RO + 3)] rfl ?_
    refine ko_top (by decide : (0 + 3 : Int32) = 3) ?_
    refine ft_ro mi_k13 (w := 2) (by decide +kernel) (by decide +kernel) ?_
    refine fo_goL mi_k13 fz13_26_4_34 [(7, .int 2), (6, .int 0), (0, .ref 94), (1, .int x1), (2, .int 3), (3, .int 3), (4, .int x4), (5, .int x5)] [.int 24, .int (i 6019)] rfl ?_
    refine ft_ifS mi_k13 (decide (24 ≤ (i 6019))) 48 37 [] (by rfl) (fun c => ?_) (fun c => ?_)
    ·
      have c6 : (24 : Int32).toInt ≤ (i 6019).toInt := kd_le c; clear c
      have s7 : ((i 6019) + 1).toInt = (i 6019).toInt + (1 : Int32).toInt := kd_add (oz1332 c6 kn24 kn1) (oz951 fi_6019.2 kn1)
      have hJ8 := kG_i hG 6019 rfl (v := ((i 6019) + 1)) ⟨(oz1333 c6 s7 kn24 kn1), (oz1429 hp3.2 s7 kn1)⟩
      have s9 : (x5 + 1).toInt = x5.toInt + (1 : Int32).toInt := kd_add (oz12 hp2.1 kn1) (oz1430 hp2.2 kn1)
      first | refine fo_goI mi_k13 fz13_48_15_72 [.int (x5 + 1), .int x4, .int 3, .int x1, .ref 94] (ku i 6019 ((i 6019) + 1)) (by rfl) ?_ | refine ft_go mi_k13 15 72 [(7, .int 2), (6, .int 0), (0, .ref 94), (1, .int x1), (2, .int 3), (3, .int 3), (4, .int x4), (5, .int x5)] [.int (x5 + 1), .int x4, .int 3, .int x1, .ref 94] (ku i 6019 ((i 6019) + 1)) a q r (by rfl) ?_
      refine ko_callI mi_k13.1 (pc := 72) (ls := [(7, .int 2), (6, .int 0), (0, .ref 94), (1, .int x1), (2, .int 3), (3, .int 3), (4, .int x4), (5, .int x5)]) (st := [.int (x5 + 1), .int x4, .int 3, .int x1, .ref 94]) (h := ks (ku i 6019 ((i 6019) + 1)) a q r) (i := (.invokevirtual 43, 3, 14, 0, 9, 0, 301)) (mi_k13.2 _ _ (by rfl)) (ft_invS mi_pq14 (by rfl)) (cy := mi_c14) mi_pq14 rfl (kc14_94_l13_K3 hJ8.I hJ8.R x1 x4 (x5 + 1) (oz1339 hp0.1 hp0.2) (oz1421 hp1) (oz1436 hp2.1 hp2.2 s9 kn1) (oz1437 c6 hp3.2 s7 kn24 kn1)) (by decide) ?_
      intro vg10 ig10 ag10 qg10 rg10 kg10 hg10
      have hGg10 := kG_call hJ8 kg10 (by decide +kernel)
      have z11 : (ig10 6019).toInt = (((i 6019) + 1).toInt + 6) := hg10
      exact ft_ret mi_k13 (by rfl) (hP vg10 _ _ _ _ hGg10 (oz1438 s7 z11 kn1))
    ·
      have c12 : (i 6019).toInt < (24 : Int32).toInt := kd_leF c; clear c
      refine fo_goS mi_k13 fz13_37_5_47 [.int 2, .int (i 6019), .ref 96] rfl ?_
      refine ko_iast3 mi_k13.1 (n := 24) (c := 24) (ax := (0, 0, 0, 0, 0)) (mi_k13.2 _ _ (by rfl)) (by rfl) (ksG96 _ _ _ _) (ksA96 _ _ _ _) (hG.I.2.1 96) rfl (oz3 fi_6019.1) (oz1343 c12 kn24) ?_
      intro a13 ea13 fa13
      have hJ13 := kG_a3 hG 96 rfl ea13 fa13 (kd_bd _)
      have s14 : ((i 6019) + 1).toInt = (i 6019).toInt + (1 : Int32).toInt := kd_add (oz12 fi_6019.1 kn1) (oz951 fi_6019.2 kn1)
      have hJ15 := kG_i hJ13 6019 rfl (v := ((i 6019) + 1)) ⟨(oz14 fi_6019.1 s14 kn1), (oz1429 hp3.2 s14 kn1)⟩
      have s16 : (x5 + 1).toInt = x5.toInt + (1 : Int32).toInt := kd_add (oz12 hp2.1 kn1) (oz1430 hp2.2 kn1)
      first | refine fo_goI mi_k13 fz13_48_15_72 [.int (x5 + 1), .int x4, .int 3, .int x1, .ref 94] (ku i 6019 ((i 6019) + 1)) (by rfl) ?_ | refine ft_go mi_k13 15 72 [(7, .int 2), (6, .int 0), (0, .ref 94), (1, .int x1), (2, .int 3), (3, .int 3), (4, .int x4), (5, .int x5)] [.int (x5 + 1), .int x4, .int 3, .int x1, .ref 94] (ku i 6019 ((i 6019) + 1)) a13 q r (by rfl) ?_
      have r17 : ((0 : Int) ≤ ((a13 95).getD x1.toNatClampNeg 0).toInt) ∧ (((a13 95).getD x1.toNatClampNeg 0).toInt ≤ 7) := hJ15.I.2.2.1 95 (x1.toNatClampNeg)
      have u18 : ((a13 95).getD x1.toNatClampNeg 0).toInt = ((a 95).getD x1.toNatClampNeg 0).toInt := congrArg (fun z : List Int32 => (z.getD x1.toNatClampNeg 0).toInt) (fa13 95 (by decide))
      refine ko_callI mi_k13.1 (pc := 72) (ls := [(7, .int 2), (6, .int 0), (0, .ref 94), (1, .int x1), (2, .int 3), (3, .int 3), (4, .int x4), (5, .int x5)]) (st := [.int (x5 + 1), .int x4, .int 3, .int x1, .ref 94]) (h := ks (ku i 6019 ((i 6019) + 1)) a13 q r) (i := (.invokevirtual 43, 3, 14, 0, 9, 0, 301)) (mi_k13.2 _ _ (by rfl)) (ft_invS mi_pq14 (by rfl)) (cy := mi_c14) mi_pq14 rfl (kc14_94_l13_K3 hJ15.I hJ15.R x1 x4 (x5 + 1) (oz1339 hp0.1 hp0.2) (oz1422 hp1 u18) (oz1436 hp2.1 hp2.2 s16 kn1) (oz1439 fi_6019.1 hp3.2 s14 kn1)) (by decide) ?_
      intro vg19 ig19 ag19 qg19 rg19 kg19 hg19
      have hGg19 := kG_call hJ15 kg19 (by decide +kernel)
      have z20 : (ig19 6019).toInt = (((i 6019) + 1).toInt + 6) := hg19
      exact ft_ret mi_k13 (by rfl) (hP vg19 _ _ _ _ hGg19 (oz1438 s14 z20 kn1))
  ·
    have c21 : (40 : Int32).toInt ≤ x5.toInt := kd_ltF c; clear c
    exact (oz1440 c21 hp2.2 kn40).elim
set_option maxRecDepth 100000 in
theorem kc11_l04_l10 {i : Nat → Int32} {a : Nat → List Int32} {q : Nat → List Int64} {r : Nat → Nat} (hI : kI i a q) (hr : kr r)  : km 1 11 [.int 4, .int 0] (ks i a q r) (kPI (ks i a q r) (fun v => v.toInt = 1)) := by
  have hG := kG_self kW0 hI hr
  refine km_ofPI (q := (mi_h11, mi_c11)) rfl (by decide) (Nat.le_of_ble_eq_true rfl) ?_
  intro P hP
  first | refine ft_goL mi_k11 16 26 [(3, .int 0), (2, .int 4), (0, .int 4), (1, .int 0)] [.int (4 * 4), .ref (mi_RO + 3)] (by rfl) ?_
  refine ko_top (by decide : (4 * 4 : Int32) = 16) ?_
  refine fo_goS mi_k11 fz11_26_2_28 [.int (16 + 0), .ref (mi_RO + 3)] rfl ?_
  refine ko_top (by decide : (16 + 0 : Int32) = 16) ?_
  refine ft_ro mi_k11 (w := 0) (by decide +kernel) (by decide +kernel) ?_
  refine ft_goS mi_k11 3 38 [.int 4, .ref (mi_RO + 4)] (by rfl) ?_
  refine ft_ro mi_k11 (w := 1) (by decide +kernel) (by decide +kernel) ?_
  refine fo_goL mi_k11 fz11_39_2_43 [(3, .int (0 + 1)), (2, .int 1), (0, .int 4), (1, .int 0)] [] rfl ?_
  refine ko_loc (by decide : (0 + 1 : Int32) = 1) ?_
  first | refine ft_goL mi_k11 13 26 [(3, .int 1), (2, .int 1), (0, .int 4), (1, .int 0)] [.int (1 * 4), .ref (mi_RO + 3)] (by rfl) ?_ | refine ft_goS mi_k11 13 26 [.int (1 * 4), .ref (mi_RO + 3)] (by rfl) ?_
  refine ko_top (by decide : (1 * 4 : Int32) = 4) ?_
  refine fo_goS mi_k11 fz11_26_2_28 [.int (4 + 0), .ref (mi_RO + 3)] rfl ?_
  refine ko_top (by decide : (4 + 0 : Int32) = 4) ?_
  refine ft_ro mi_k11 (w := 20) (by decide +kernel) (by decide +kernel) ?_
  refine fo_goS mi_k11 fz11_29_2_33 [.int 1] rfl ?_
  exact ft_ret mi_k11 (by rfl) (hP 1 (oz1381 kn1))
noncomputable def w14_94_l10_K4 : kW := ([], [], [], [])
set_option maxRecDepth 100000 in
theorem kc14_94_l10_K4 {i : Nat → Int32} {a : Nat → List Int32} {q : Nat → List Int64} {r : Nat → Nat} (hI : kI i a q) (hr : kr r) (x1 : Int32) (x3 : Int32) (x4 : Int32) (hp0 : ((0 : Int) ≤ x1.toInt) ∧ (x1.toInt ≤ 49)) (hp1 : ((a 95).getD x1.toNatClampNeg 0).toInt = 4) (hp2 : ((0 : Int) ≤ x4.toInt) ∧ ((x4.toInt + 0) ≤ 39)) (hp3 : ((0 : Int) ≤ (i 6019).toInt) ∧ (((i 6019).toInt + 0) ≤ 900)) : km 1 14 [.ref 94, .int x1, .int 0, .int x3, .int x4] (ks i a q r) (kVI w14_94_l10_K4 i a q r (fun v i1 a1 q1 r1 => (i1 6019).toInt = ((i 6019).toInt + 0))) := by
  have hG := kG_self w14_94_l10_K4 hI hr
  refine km_ofI (q := (mi_h14, mi_c14)) rfl (by decide) (Nat.le_of_ble_eq_true rfl) ?_
  intro P hP
  have r1 : ((0 : Int) ≤ ((a 95).getD x1.toNatClampNeg 0).toInt) ∧ (((a 95).getD x1.toNatClampNeg 0).toInt ≤ 7) := hG.I.2.2.1 95 (x1.toNatClampNeg)
  refine fo_goL mi_k14 fz14_0_3_5 [(0, .ref 94), (1, .int x1), (2, .int 0), (3, .int x3), (4, .int x4)] [.int x1, .ref 95] rfl ?_
  refine ko_iald3 mi_k14.1 (n := 50) (c := 50) (ax := (0, 0, 0, 0, 0)) (mi_k14.2 _ _ (by rfl)) (by rfl) (ksG95 _ _ _ _) (hG.I.2.1 95) rfl (oz3 hp0.1) (oz1336 hp0.2) ?_
  refine ko_top (kj_eq (oz1446 hp1) (by decide) : ((a 95).getD x1.toNatClampNeg 0) = 4) ?_
  have b2 : ((-2147483648 : Int) ≤ x3.toInt) ∧ (x3.toInt ≤ 2147483647) := kd_bd x3
  have b3 : ((-2147483648 : Int) ≤ x1.toInt) ∧ (x1.toInt ≤ 2147483647) := kd_bd x1
  refine ft_goL mi_k14 6 39 [(5, .int 4), (0, .ref 94), (1, .int x1), (2, .int 0), (3, .int x3), (4, .int x4)] [.int (x3 + x1)] (by rfl) ?_
  exact ft_ret mi_k14 (by rfl) (hP (x3 + x1) _ _ _ _ hG oz1338)
noncomputable def w13_94_l10_l20_K4 : kW := ([6019], [96], [], [])
set_option maxRecDepth 100000 in
theorem kc13_94_l10_l20_K4 {i : Nat → Int32} {a : Nat → List Int32} {q : Nat → List Int64} {r : Nat → Nat} (hI : kI i a q) (hr : kr r) (x1 : Int32) (x4 : Int32) (x5 : Int32) (hp0 : ((0 : Int) ≤ x1.toInt) ∧ (x1.toInt ≤ 49)) (hp1 : ((a 95).getD x1.toNatClampNeg 0).toInt = 4) (hp2 : ((0 : Int) ≤ x5.toInt) ∧ ((x5.toInt + 1) ≤ 39)) (hp3 : ((0 : Int) ≤ (i 6019).toInt) ∧ (((i 6019).toInt + 1) ≤ 900)) : km 3 13 [.ref 94, .int x1, .int 0, .int 0, .int x4, .int x5] (ks i a q r) (kVI w13_94_l10_l20_K4 i a q r (fun v i1 a1 q1 r1 => (i1 6019).toInt = ((i 6019).toInt + 1))) := by
  have hG := kG_self w13_94_l10_l20_K4 hI hr
  refine km_ofI (q := (mi_h13, mi_c13)) rfl (by decide) (Nat.le_of_ble_eq_true rfl) ?_
  intro P hP
  have r1 : ((0 : Int) ≤ ((a 95).getD x1.toNatClampNeg 0).toInt) ∧ (((a 95).getD x1.toNatClampNeg 0).toInt ≤ 7) := hG.I.2.2.1 95 (x1.toNatClampNeg)
  have fi_6019 : ((0 : Int) ≤ (i 6019).toInt) ∧ ((i 6019).toInt ≤ 1000) := hG.I.1 6019
  refine fo_goL mi_k13 fz13_0_2_4 [(0, .ref 94), (1, .int x1), (2, .int 0), (3, .int 0), (4, .int x4), (5, .int x5)] [.int 40, .int x5] rfl ?_
  refine ft_ifS mi_k13 (decide (x5 < 40)) 9 7 [] (by rfl) (fun c => ?_) (fun c => ?_)
  ·
    have c2 : x5.toInt < (40 : Int32).toInt := kd_lt c; clear c
    refine fo_goS mi_k13 fz13_9_2_11 [.int 0, .int 0] rfl ?_
    refine ko_callPI mi_k13.1 (pc := 11) (ls := [(0, .ref 94), (1, .int x1), (2, .int 0), (3, .int 0), (4, .int x4), (5, .int x5)]) (st := [.int 0, .int 0]) (h := ks i a q r) (i := (.invokestatic 39, 3, 11, 0, 9, 0, 298)) (mi_k13.2 _ _ (by rfl)) (ft_invS mi_pq11 (by rfl)) (cy := mi_c11) mi_pq11 rfl (kc11_l00_l10 hG.I hG.R ) (by decide) ?_
    intro vg3 hg3
    have z4 : vg3.toInt = 0 := hg3
    have evvg3 := kj_eq (oz236 z4) (by decide : (0 : Int32).toInt = 0)
    subst evvg3
    refine ft_goL mi_k13 5 23 [(6, .int 0), (0, .ref 94), (1, .int x1), (2, .int 0), (3, .int 0), (4, .int x4), (5, .int x5)] [.int (0 * 4), .ref (mi_RO + 3)] (by rfl) ?_
    refine ko_top (by decide : (0 * 4 : Int32) = 0) ?_
    refine fo_goS mi_k13 fz13_23_2_25 [.int (0 + 0), .ref (mi_RO + 3)] rfl ?_
    refine ko_top (by decide : (0 + 0 : Int32) = 0) ?_
    refine ft_ro mi_k13 (w := 1) (by decide +kernel) (by decide +kernel) ?_
    refine fo_goL mi_k13 fz13_26_4_34 [(7, .int 1), (6, .int 0), (0, .ref 94), (1, .int x1), (2, .int 0), (3, .int 0), (4, .int x4), (5, .int x5)] [.int 24, .int (i 6019)] rfl ?_
    refine ft_ifS mi_k13 (decide (24 ≤ (i 6019))) 48 37 [] (by rfl) (fun c => ?_) (fun c => ?_)
    ·
      have c6 : (24 : Int32).toInt ≤ (i 6019).toInt := kd_le c; clear c
      have s7 : ((i 6019) + 1).toInt = (i 6019).toInt + (1 : Int32).toInt := kd_add (oz1332 c6 kn24 kn1) (oz951 fi_6019.2 kn1)
      have hJ8 := kG_i hG 6019 rfl (v := ((i 6019) + 1)) ⟨(oz1333 c6 s7 kn24 kn1), (oz1334 hp3.2 s7 kn1)⟩
      have s9 : (x5 + 1).toInt = x5.toInt + (1 : Int32).toInt := kd_add (oz12 hp2.1 kn1) (oz1335 hp2.2 kn1)
      first | refine fo_goI mi_k13 fz13_48_15_72 [.int (x5 + 1), .int x4, .int 0, .int x1, .ref 94] (ku i 6019 ((i 6019) + 1)) (by rfl) ?_ | refine ft_go mi_k13 15 72 [(7, .int 1), (6, .int 0), (0, .ref 94), (1, .int x1), (2, .int 0), (3, .int 0), (4, .int x4), (5, .int x5)] [.int (x5 + 1), .int x4, .int 0, .int x1, .ref 94] (ku i 6019 ((i 6019) + 1)) a q r (by rfl) ?_
      refine ko_callI mi_k13.1 (pc := 72) (ls := [(7, .int 1), (6, .int 0), (0, .ref 94), (1, .int x1), (2, .int 0), (3, .int 0), (4, .int x4), (5, .int x5)]) (st := [.int (x5 + 1), .int x4, .int 0, .int x1, .ref 94]) (h := ks (ku i 6019 ((i 6019) + 1)) a q r) (i := (.invokevirtual 43, 3, 14, 0, 9, 0, 301)) (mi_k13.2 _ _ (by rfl)) (ft_invS mi_pq14 (by rfl)) (cy := mi_c14) mi_pq14 rfl (kc14_94_l10_K4 hJ8.I hJ8.R x1 x4 (x5 + 1) (oz1339 hp0.1 hp0.2) (oz1446 hp1) (oz1340 hp2.1 hp2.2 s9 kn1) (oz1341 c6 hp3.2 s7 kn24 kn1)) (by decide) ?_
      intro vg10 ig10 ag10 qg10 rg10 kg10 hg10
      have hGg10 := kG_call hJ8 kg10 (by decide +kernel)
      have efig10_6019 : (ig10 6019).toInt = ((i 6019) + 1).toInt := kg10.ti 6019 rfl
      exact ft_ret mi_k13 (by rfl) (hP vg10 _ _ _ _ hGg10 (oz1342 efig10_6019 s7 kn1))
    ·
      have c12 : (i 6019).toInt < (24 : Int32).toInt := kd_leF c; clear c
      refine fo_goS mi_k13 fz13_37_5_47 [.int 1, .int (i 6019), .ref 96] rfl ?_
      refine ko_iast3 mi_k13.1 (n := 24) (c := 24) (ax := (0, 0, 0, 0, 0)) (mi_k13.2 _ _ (by rfl)) (by rfl) (ksG96 _ _ _ _) (ksA96 _ _ _ _) (hG.I.2.1 96) rfl (oz3 fi_6019.1) (oz1343 c12 kn24) ?_
      intro a13 ea13 fa13
      have hJ13 := kG_a3 hG 96 rfl ea13 fa13 (kd_bd _)
      have s14 : ((i 6019) + 1).toInt = (i 6019).toInt + (1 : Int32).toInt := kd_add (oz12 fi_6019.1 kn1) (oz951 fi_6019.2 kn1)
      have hJ15 := kG_i hJ13 6019 rfl (v := ((i 6019) + 1)) ⟨(oz14 fi_6019.1 s14 kn1), (oz1334 hp3.2 s14 kn1)⟩
      have s16 : (x5 + 1).toInt = x5.toInt + (1 : Int32).toInt := kd_add (oz12 hp2.1 kn1) (oz1335 hp2.2 kn1)
      first | refine fo_goI mi_k13 fz13_48_15_72 [.int (x5 + 1), .int x4, .int 0, .int x1, .ref 94] (ku i 6019 ((i 6019) + 1)) (by rfl) ?_ | refine ft_go mi_k13 15 72 [(7, .int 1), (6, .int 0), (0, .ref 94), (1, .int x1), (2, .int 0), (3, .int 0), (4, .int x4), (5, .int x5)] [.int (x5 + 1), .int x4, .int 0, .int x1, .ref 94] (ku i 6019 ((i 6019) + 1)) a13 q r (by rfl) ?_
      have r17 : ((0 : Int) ≤ ((a13 95).getD x1.toNatClampNeg 0).toInt) ∧ (((a13 95).getD x1.toNatClampNeg 0).toInt ≤ 7) := hJ15.I.2.2.1 95 (x1.toNatClampNeg)
      have u18 : ((a13 95).getD x1.toNatClampNeg 0).toInt = ((a 95).getD x1.toNatClampNeg 0).toInt := congrArg (fun z : List Int32 => (z.getD x1.toNatClampNeg 0).toInt) (fa13 95 (by decide))
      refine ko_callI mi_k13.1 (pc := 72) (ls := [(7, .int 1), (6, .int 0), (0, .ref 94), (1, .int x1), (2, .int 0), (3, .int 0), (4, .int x4), (5, .int x5)]) (st := [.int (x5 + 1), .int x4, .int 0, .int x1, .ref 94]) (h := ks (ku i 6019 ((i 6019) + 1)) a13 q r) (i := (.invokevirtual 43, 3, 14, 0, 9, 0, 301)) (mi_k13.2 _ _ (by rfl)) (ft_invS mi_pq14 (by rfl)) (cy := mi_c14) mi_pq14 rfl (kc14_94_l10_K4 hJ15.I hJ15.R x1 x4 (x5 + 1) (oz1339 hp0.1 hp0.2) (oz1447 hp1 u18) (oz1340 hp2.1 hp2.2 s16 kn1) (oz1345 fi_6019.1 hp3.2 s14 kn1)) (by decide) ?_
      intro vg19 ig19 ag19 qg19 rg19 kg19 hg19
      have hGg19 := kG_call hJ15 kg19 (by decide +kernel)
      have efig19_6019 : (ig19 6019).toInt = ((i 6019) + 1).toInt := kg19.ti 6019 rfl
      exact ft_ret mi_k13 (by rfl) (hP vg19 _ _ _ _ hGg19 (oz1342 efig19_6019 s14 kn1))
  ·
    have c21 : (40 : Int32).toInt ≤ x5.toInt := kd_ltF c; clear c
    exact (oz1346 c21 hp2.2 kn40).elim
noncomputable def w13_94_l14_l20_K4 : kW := ([6019], [96], [], [])
set_option maxRecDepth 100000 in
theorem kc13_94_l14_l20_K4 {i : Nat → Int32} {a : Nat → List Int32} {q : Nat → List Int64} {r : Nat → Nat} (hI : kI i a q) (hr : kr r) (x1 : Int32) (x4 : Int32) (x5 : Int32) (hp0 : ((0 : Int) ≤ x1.toInt) ∧ (x1.toInt ≤ 49)) (hp1 : ((a 95).getD x1.toNatClampNeg 0).toInt = 4) (hp2 : ((0 : Int) ≤ x5.toInt) ∧ ((x5.toInt + 2) ≤ 39)) (hp3 : ((0 : Int) ≤ (i 6019).toInt) ∧ (((i 6019).toInt + 2) ≤ 900)) : km 5 13 [.ref 94, .int x1, .int 4, .int 0, .int x4, .int x5] (ks i a q r) (kVI w13_94_l14_l20_K4 i a q r (fun v i1 a1 q1 r1 => (i1 6019).toInt = ((i 6019).toInt + 2))) := by
  have hG := kG_self w13_94_l14_l20_K4 hI hr
  refine km_ofI (q := (mi_h13, mi_c13)) rfl (by decide) (Nat.le_of_ble_eq_true rfl) ?_
  intro P hP
  have r1 : ((0 : Int) ≤ ((a 95).getD x1.toNatClampNeg 0).toInt) ∧ (((a 95).getD x1.toNatClampNeg 0).toInt ≤ 7) := hG.I.2.2.1 95 (x1.toNatClampNeg)
  have fi_6019 : ((0 : Int) ≤ (i 6019).toInt) ∧ ((i 6019).toInt ≤ 1000) := hG.I.1 6019
  refine fo_goL mi_k13 fz13_0_2_4 [(0, .ref 94), (1, .int x1), (2, .int 4), (3, .int 0), (4, .int x4), (5, .int x5)] [.int 40, .int x5] rfl ?_
  refine ft_ifS mi_k13 (decide (x5 < 40)) 9 7 [] (by rfl) (fun c => ?_) (fun c => ?_)
  ·
    have c2 : x5.toInt < (40 : Int32).toInt := kd_lt c; clear c
    refine fo_goS mi_k13 fz13_9_2_11 [.int 0, .int 4] rfl ?_
    refine ko_callPI mi_k13.1 (pc := 11) (ls := [(0, .ref 94), (1, .int x1), (2, .int 4), (3, .int 0), (4, .int x4), (5, .int x5)]) (st := [.int 0, .int 4]) (h := ks i a q r) (i := (.invokestatic 39, 3, 11, 0, 9, 0, 298)) (mi_k13.2 _ _ (by rfl)) (ft_invS mi_pq11 (by rfl)) (cy := mi_c11) mi_pq11 rfl (kc11_l04_l10 hG.I hG.R ) (by decide) ?_
    intro vg3 hg3
    have z4 : vg3.toInt = 1 := hg3
    have evvg3 := kj_eq (oz1381 z4) (by decide : (1 : Int32).toInt = 1)
    subst evvg3
    refine ft_goL mi_k13 5 23 [(6, .int 1), (0, .ref 94), (1, .int x1), (2, .int 4), (3, .int 0), (4, .int x4), (5, .int x5)] [.int (1 * 4), .ref (mi_RO + 3)] (by rfl) ?_
    refine ko_top (by decide : (1 * 4 : Int32) = 4) ?_
    refine fo_goS mi_k13 fz13_23_2_25 [.int (4 + 0), .ref (mi_RO + 3)] rfl ?_
    refine ko_top (by decide : (4 + 0 : Int32) = 4) ?_
    refine ft_ro mi_k13 (w := 20) (by decide +kernel) (by decide +kernel) ?_
    refine fo_goL mi_k13 fz13_26_4_34 [(7, .int 20), (6, .int 1), (0, .ref 94), (1, .int x1), (2, .int 4), (3, .int 0), (4, .int x4), (5, .int x5)] [.int 24, .int (i 6019)] rfl ?_
    refine ft_ifS mi_k13 (decide (24 ≤ (i 6019))) 48 37 [] (by rfl) (fun c => ?_) (fun c => ?_)
    ·
      have c6 : (24 : Int32).toInt ≤ (i 6019).toInt := kd_le c; clear c
      have s7 : ((i 6019) + 1).toInt = (i 6019).toInt + (1 : Int32).toInt := kd_add (oz1332 c6 kn24 kn1) (oz951 fi_6019.2 kn1)
      have hJ8 := kG_i hG 6019 rfl (v := ((i 6019) + 1)) ⟨(oz1333 c6 s7 kn24 kn1), (oz1351 hp3.2 s7 kn1)⟩
      refine ft_goI mi_k13 12 83 [.int 1, .ref (mi_RO + 4), .int x1, .ref 94] (ku i 6019 ((i 6019) + 1)) (by rfl) ?_
      refine ft_ro mi_k13 (w := 0) (by decide +kernel) (by decide +kernel) ?_
      have s10 : (x5 + 1).toInt = x5.toInt + (1 : Int32).toInt := kd_add (oz12 hp2.1 kn1) (oz1352 hp2.2 kn1)
      first | refine ft_goS mi_k13 8 105 [.int (x5 + 1), .int x4, .int 0, .int 0, .int x1, .ref 94] (by rfl) ?_
      refine ko_callI mi_k13.1 (pc := 105) (ls := [(7, .int 20), (6, .int 1), (0, .ref 94), (1, .int x1), (2, .int 4), (3, .int 0), (4, .int x4), (5, .int x5)]) (st := [.int (x5 + 1), .int x4, .int 0, .int 0, .int x1, .ref 94]) (h := ks (ku i 6019 ((i 6019) + 1)) a q r) (i := (.invokevirtual 35, 3, 13, 0, 9, 0, 297)) (mi_k13.2 _ _ (by rfl)) (ft_invS mi_pq13 (by rfl)) (cy := mi_c13) mi_pq13 rfl (kc13_94_l10_l20_K4 hJ8.I hJ8.R x1 x4 (x5 + 1) (oz1339 hp0.1 hp0.2) (oz1446 hp1) (oz1356 hp2.1 hp2.2 s10 kn1) (oz1357 c6 hp3.2 s7 kn24 kn1)) (by decide) ?_
      intro vg11 ig11 ag11 qg11 rg11 kg11 hg11
      have hGg11 := kG_call hJ8 kg11 (by decide +kernel)
      have z12 : (ig11 6019).toInt = (((i 6019) + 1).toInt + 1) := hg11
      have b13 : ((-2147483648 : Int) ≤ vg11.toInt) ∧ (vg11.toInt ≤ 2147483647) := kd_bd vg11
      refine ft_goL mi_k13 6 192 [(8, .int vg11), (7, .int 20), (6, .int 1), (0, .ref 94), (1, .int x1), (2, .int 4), (3, .int 0), (4, .int x4), (5, .int x5)] [.int (vg11 + 3)] (by rfl) ?_
      exact ft_ret mi_k13 (by rfl) (hP (vg11 + 3) _ _ _ _ hGg11 (oz1358 s7 z12 kn1))
    ·
      have c14 : (i 6019).toInt < (24 : Int32).toInt := kd_leF c; clear c
      refine fo_goS mi_k13 fz13_37_5_47 [.int 20, .int (i 6019), .ref 96] rfl ?_
      refine ko_iast3 mi_k13.1 (n := 24) (c := 24) (ax := (0, 0, 0, 0, 0)) (mi_k13.2 _ _ (by rfl)) (by rfl) (ksG96 _ _ _ _) (ksA96 _ _ _ _) (hG.I.2.1 96) rfl (oz3 fi_6019.1) (oz1343 c14 kn24) ?_
      intro a15 ea15 fa15
      have hJ15 := kG_a3 hG 96 rfl ea15 fa15 (kd_bd _)
      have s16 : ((i 6019) + 1).toInt = (i 6019).toInt + (1 : Int32).toInt := kd_add (oz12 fi_6019.1 kn1) (oz951 fi_6019.2 kn1)
      have hJ17 := kG_i hJ15 6019 rfl (v := ((i 6019) + 1)) ⟨(oz14 fi_6019.1 s16 kn1), (oz1351 hp3.2 s16 kn1)⟩
      refine ft_goI mi_k13 12 83 [.int 1, .ref (mi_RO + 4), .int x1, .ref 94] (ku i 6019 ((i 6019) + 1)) (by rfl) ?_
      refine ft_ro mi_k13 (w := 0) (by decide +kernel) (by decide +kernel) ?_
      have s19 : (x5 + 1).toInt = x5.toInt + (1 : Int32).toInt := kd_add (oz12 hp2.1 kn1) (oz1352 hp2.2 kn1)
      first | refine ft_goS mi_k13 8 105 [.int (x5 + 1), .int x4, .int 0, .int 0, .int x1, .ref 94] (by rfl) ?_
      have r20 : ((0 : Int) ≤ ((a15 95).getD x1.toNatClampNeg 0).toInt) ∧ (((a15 95).getD x1.toNatClampNeg 0).toInt ≤ 7) := hJ17.I.2.2.1 95 (x1.toNatClampNeg)
      have u21 : ((a15 95).getD x1.toNatClampNeg 0).toInt = ((a 95).getD x1.toNatClampNeg 0).toInt := congrArg (fun z : List Int32 => (z.getD x1.toNatClampNeg 0).toInt) (fa15 95 (by decide))
      refine ko_callI mi_k13.1 (pc := 105) (ls := [(7, .int 20), (6, .int 1), (0, .ref 94), (1, .int x1), (2, .int 4), (3, .int 0), (4, .int x4), (5, .int x5)]) (st := [.int (x5 + 1), .int x4, .int 0, .int 0, .int x1, .ref 94]) (h := ks (ku i 6019 ((i 6019) + 1)) a15 q r) (i := (.invokevirtual 35, 3, 13, 0, 9, 0, 297)) (mi_k13.2 _ _ (by rfl)) (ft_invS mi_pq13 (by rfl)) (cy := mi_c13) mi_pq13 rfl (kc13_94_l10_l20_K4 hJ17.I hJ17.R x1 x4 (x5 + 1) (oz1339 hp0.1 hp0.2) (oz1447 hp1 u21) (oz1356 hp2.1 hp2.2 s19 kn1) (oz1359 fi_6019.1 hp3.2 s16 kn1)) (by decide) ?_
      intro vg22 ig22 ag22 qg22 rg22 kg22 hg22
      have hGg22 := kG_call hJ17 kg22 (by decide +kernel)
      have z23 : (ig22 6019).toInt = (((i 6019) + 1).toInt + 1) := hg22
      have b24 : ((-2147483648 : Int) ≤ vg22.toInt) ∧ (vg22.toInt ≤ 2147483647) := kd_bd vg22
      refine ft_goL mi_k13 6 192 [(8, .int vg22), (7, .int 20), (6, .int 1), (0, .ref 94), (1, .int x1), (2, .int 4), (3, .int 0), (4, .int x4), (5, .int x5)] [.int (vg22 + 3)] (by rfl) ?_
      exact ft_ret mi_k13 (by rfl) (hP (vg22 + 3) _ _ _ _ hGg22 (oz1358 s16 z23 kn1))
  ·
    have c25 : (40 : Int32).toInt ≤ x5.toInt := kd_ltF c; clear c
    exact (oz1360 c25 hp2.2 kn40).elim
set_option maxRecDepth 100000 in
theorem kc11_l04_l11 {i : Nat → Int32} {a : Nat → List Int32} {q : Nat → List Int64} {r : Nat → Nat} (hI : kI i a q) (hr : kr r)  : km 1 11 [.int 4, .int 1] (ks i a q r) (kPI (ks i a q r) (fun v => v.toInt = 0)) := by
  have hG := kG_self kW0 hI hr
  refine km_ofPI (q := (mi_h11, mi_c11)) rfl (by decide) (Nat.le_of_ble_eq_true rfl) ?_
  intro P hP
  first | refine ft_goL mi_k11 16 26 [(3, .int 0), (2, .int 4), (0, .int 4), (1, .int 1)] [.int (4 * 4), .ref (mi_RO + 3)] (by rfl) ?_
  refine ko_top (by decide : (4 * 4 : Int32) = 16) ?_
  refine fo_goS mi_k11 fz11_26_2_28 [.int (16 + 1), .ref (mi_RO + 3)] rfl ?_
  refine ko_top (by decide : (16 + 1 : Int32) = 17) ?_
  refine ft_ro mi_k11 (w := 0) (by decide +kernel) (by decide +kernel) ?_
  refine ft_goS mi_k11 3 38 [.int 4, .ref (mi_RO + 4)] (by rfl) ?_
  refine ft_ro mi_k11 (w := 1) (by decide +kernel) (by decide +kernel) ?_
  refine fo_goL mi_k11 fz11_39_2_43 [(3, .int (0 + 1)), (2, .int 1), (0, .int 4), (1, .int 1)] [] rfl ?_
  refine ko_loc (by decide : (0 + 1 : Int32) = 1) ?_
  first | refine ft_goL mi_k11 13 26 [(3, .int 1), (2, .int 1), (0, .int 4), (1, .int 1)] [.int (1 * 4), .ref (mi_RO + 3)] (by rfl) ?_ | refine ft_goS mi_k11 13 26 [.int (1 * 4), .ref (mi_RO + 3)] (by rfl) ?_
  refine ko_top (by decide : (1 * 4 : Int32) = 4) ?_
  refine fo_goS mi_k11 fz11_26_2_28 [.int (4 + 1), .ref (mi_RO + 3)] rfl ?_
  refine ko_top (by decide : (4 + 1 : Int32) = 5) ?_
  refine ft_ro mi_k11 (w := 0) (by decide +kernel) (by decide +kernel) ?_
  refine ft_goS mi_k11 3 38 [.int 1, .ref (mi_RO + 4)] (by rfl) ?_
  refine ft_ro mi_k11 (w := 0) (by decide +kernel) (by decide +kernel) ?_
  refine fo_goL mi_k11 fz11_39_2_43 [(3, .int (1 + 1)), (2, .int 0), (0, .int 4), (1, .int 1)] [] rfl ?_
  refine ko_loc (by decide : (1 + 1 : Int32) = 2) ?_
  first | refine ft_goL mi_k11 7 47 [(3, .int 2), (2, .int 0), (0, .int 4), (1, .int 1)] [.int 0] (by rfl) ?_ | refine ft_goS mi_k11 7 47 [.int 0] (by rfl) ?_
  exact ft_ret mi_k11 (by rfl) (hP 0 (oz236 kn0))
noncomputable def w14_94_l11_K4 : kW := ([6019], [96], [], [])
set_option maxRecDepth 100000 in
theorem kc14_94_l11_K4 {i : Nat → Int32} {a : Nat → List Int32} {q : Nat → List Int64} {r : Nat → Nat} (hI : kI i a q) (hr : kr r) (x1 : Int32) (x3 : Int32) (x4 : Int32) (hp0 : ((0 : Int) ≤ x1.toInt) ∧ (x1.toInt ≤ 49)) (hp1 : ((a 95).getD x1.toNatClampNeg 0).toInt = 4) (hp2 : ((0 : Int) ≤ x4.toInt) ∧ ((x4.toInt + 2) ≤ 39)) (hp3 : ((0 : Int) ≤ (i 6019).toInt) ∧ (((i 6019).toInt + 2) ≤ 900)) : km 7 14 [.ref 94, .int x1, .int 1, .int x3, .int x4] (ks i a q r) (kVI w14_94_l11_K4 i a q r (fun v i1 a1 q1 r1 => (i1 6019).toInt = ((i 6019).toInt + 2))) := by
  have hG := kG_self w14_94_l11_K4 hI hr
  refine km_ofI (q := (mi_h14, mi_c14)) rfl (by decide) (Nat.le_of_ble_eq_true rfl) ?_
  intro P hP
  have r1 : ((0 : Int) ≤ ((a 95).getD x1.toNatClampNeg 0).toInt) ∧ (((a 95).getD x1.toNatClampNeg 0).toInt ≤ 7) := hG.I.2.2.1 95 (x1.toNatClampNeg)
  have fi_6019 : ((0 : Int) ≤ (i 6019).toInt) ∧ ((i 6019).toInt ≤ 1000) := hG.I.1 6019
  refine fo_goL mi_k14 fz14_0_3_5 [(0, .ref 94), (1, .int x1), (2, .int 1), (3, .int x3), (4, .int x4)] [.int x1, .ref 95] rfl ?_
  refine ko_iald3 mi_k14.1 (n := 50) (c := 50) (ax := (0, 0, 0, 0, 0)) (mi_k14.2 _ _ (by rfl)) (by rfl) (ksG95 _ _ _ _) (hG.I.2.1 95) rfl (oz3 hp0.1) (oz1336 hp0.2) ?_
  refine ko_top (kj_eq (oz1446 hp1) (by decide) : ((a 95).getD x1.toNatClampNeg 0) = 4) ?_
  refine ft_goL mi_k14 9 48 [(5, .int 4), (0, .ref 94), (1, .int x1), (2, .int 1), (3, .int x3), (4, .int x4)] [.int x4, .int x3, .int 0, .int 4, .int x1, .ref 94] (by rfl) ?_
  refine ko_callI mi_k14.1 (pc := 48) (ls := [(5, .int 4), (0, .ref 94), (1, .int x1), (2, .int 1), (3, .int x3), (4, .int x4)]) (st := [.int x4, .int x3, .int 0, .int 4, .int x1, .ref 94]) (h := ks i a q r) (i := (.invokevirtual 35, 3, 13, 0, 9, 0, 297)) (mi_k14.2 _ _ (by rfl)) (ft_invS mi_pq13 (by rfl)) (cy := mi_c13) mi_pq13 rfl (kc13_94_l14_l20_K4 hG.I hG.R x1 x3 x4 (oz1339 hp0.1 hp0.2) (oz1446 hp1) (oz1367 hp2.1 hp2.2) (oz1386 fi_6019.1 hp3.2)) (by decide) ?_
  intro vg2 ig2 ag2 qg2 rg2 kg2 hg2
  have hGg2 := kG_call hG kg2 (by decide +kernel)
  have z3 : (ig2 6019).toInt = ((i 6019).toInt + 2) := hg2
  have b4 : ((-2147483648 : Int) ≤ vg2.toInt) ∧ (vg2.toInt ≤ 2147483647) := kd_bd vg2
  refine fo_goS mi_k14 fz14_51_2_53 [.int (vg2 * 2)] rfl ?_
  exact ft_ret mi_k14 (by rfl) (hP (vg2 * 2) _ _ _ _ hGg2 (oz1387 z3))
noncomputable def w13_94_l14_l21_K4 : kW := ([6019], [96], [], [])
set_option maxRecDepth 100000 in
theorem kc13_94_l14_l21_K4 {i : Nat → Int32} {a : Nat → List Int32} {q : Nat → List Int64} {r : Nat → Nat} (hI : kI i a q) (hr : kr r) (x1 : Int32) (x4 : Int32) (x5 : Int32) (hp0 : ((0 : Int) ≤ x1.toInt) ∧ (x1.toInt ≤ 49)) (hp1 : ((a 95).getD x1.toNatClampNeg 0).toInt = 4) (hp2 : ((0 : Int) ≤ x5.toInt) ∧ ((x5.toInt + 3) ≤ 39)) (hp3 : ((0 : Int) ≤ (i 6019).toInt) ∧ (((i 6019).toInt + 3) ≤ 900)) : km 9 13 [.ref 94, .int x1, .int 4, .int 1, .int x4, .int x5] (ks i a q r) (kVI w13_94_l14_l21_K4 i a q r (fun v i1 a1 q1 r1 => (i1 6019).toInt = ((i 6019).toInt + 3))) := by
  have hG := kG_self w13_94_l14_l21_K4 hI hr
  refine km_ofI (q := (mi_h13, mi_c13)) rfl (by decide) (Nat.le_of_ble_eq_true rfl) ?_
  intro P hP
  have r1 : ((0 : Int) ≤ ((a 95).getD x1.toNatClampNeg 0).toInt) ∧ (((a 95).getD x1.toNatClampNeg 0).toInt ≤ 7) := hG.I.2.2.1 95 (x1.toNatClampNeg)
  have fi_6019 : ((0 : Int) ≤ (i 6019).toInt) ∧ ((i 6019).toInt ≤ 1000) := hG.I.1 6019
  refine fo_goL mi_k13 fz13_0_2_4 [(0, .ref 94), (1, .int x1), (2, .int 4), (3, .int 1), (4, .int x4), (5, .int x5)] [.int 40, .int x5] rfl ?_
  refine ft_ifS mi_k13 (decide (x5 < 40)) 9 7 [] (by rfl) (fun c => ?_) (fun c => ?_)
  ·
    have c2 : x5.toInt < (40 : Int32).toInt := kd_lt c; clear c
    refine fo_goS mi_k13 fz13_9_2_11 [.int 1, .int 4] rfl ?_
    refine ko_callPI mi_k13.1 (pc := 11) (ls := [(0, .ref 94), (1, .int x1), (2, .int 4), (3, .int 1), (4, .int x4), (5, .int x5)]) (st := [.int 1, .int 4]) (h := ks i a q r) (i := (.invokestatic 39, 3, 11, 0, 9, 0, 298)) (mi_k13.2 _ _ (by rfl)) (ft_invS mi_pq11 (by rfl)) (cy := mi_c11) mi_pq11 rfl (kc11_l04_l11 hG.I hG.R ) (by decide) ?_
    intro vg3 hg3
    have z4 : vg3.toInt = 0 := hg3
    have evvg3 := kj_eq (oz236 z4) (by decide : (0 : Int32).toInt = 0)
    subst evvg3
    refine ft_goL mi_k13 5 23 [(6, .int 0), (0, .ref 94), (1, .int x1), (2, .int 4), (3, .int 1), (4, .int x4), (5, .int x5)] [.int (0 * 4), .ref (mi_RO + 3)] (by rfl) ?_
    refine ko_top (by decide : (0 * 4 : Int32) = 0) ?_
    refine fo_goS mi_k13 fz13_23_2_25 [.int (0 + 1), .ref (mi_RO + 3)] rfl ?_
    refine ko_top (by decide : (0 + 1 : Int32) = 1) ?_
    refine ft_ro mi_k13 (w := 10) (by decide +kernel) (by decide +kernel) ?_
    refine fo_goL mi_k13 fz13_26_4_34 [(7, .int 10), (6, .int 0), (0, .ref 94), (1, .int x1), (2, .int 4), (3, .int 1), (4, .int x4), (5, .int x5)] [.int 24, .int (i 6019)] rfl ?_
    refine ft_ifS mi_k13 (decide (24 ≤ (i 6019))) 48 37 [] (by rfl) (fun c => ?_) (fun c => ?_)
    ·
      have c6 : (24 : Int32).toInt ≤ (i 6019).toInt := kd_le c; clear c
      have s7 : ((i 6019) + 1).toInt = (i 6019).toInt + (1 : Int32).toInt := kd_add (oz1332 c6 kn24 kn1) (oz951 fi_6019.2 kn1)
      have hJ8 := kG_i hG 6019 rfl (v := ((i 6019) + 1)) ⟨(oz1333 c6 s7 kn24 kn1), (oz1385 hp3.2 s7 kn1)⟩
      have s9 : (x5 + 1).toInt = x5.toInt + (1 : Int32).toInt := kd_add (oz12 hp2.1 kn1) (oz1366 hp2.2 kn1)
      first | refine fo_goI mi_k13 fz13_48_15_72 [.int (x5 + 1), .int x4, .int 1, .int x1, .ref 94] (ku i 6019 ((i 6019) + 1)) (by rfl) ?_ | refine ft_go mi_k13 15 72 [(7, .int 10), (6, .int 0), (0, .ref 94), (1, .int x1), (2, .int 4), (3, .int 1), (4, .int x4), (5, .int x5)] [.int (x5 + 1), .int x4, .int 1, .int x1, .ref 94] (ku i 6019 ((i 6019) + 1)) a q r (by rfl) ?_
      refine ko_callI mi_k13.1 (pc := 72) (ls := [(7, .int 10), (6, .int 0), (0, .ref 94), (1, .int x1), (2, .int 4), (3, .int 1), (4, .int x4), (5, .int x5)]) (st := [.int (x5 + 1), .int x4, .int 1, .int x1, .ref 94]) (h := ks (ku i 6019 ((i 6019) + 1)) a q r) (i := (.invokevirtual 43, 3, 14, 0, 9, 0, 301)) (mi_k13.2 _ _ (by rfl)) (ft_invS mi_pq14 (by rfl)) (cy := mi_c14) mi_pq14 rfl (kc14_94_l11_K4 hJ8.I hJ8.R x1 x4 (x5 + 1) (oz1339 hp0.1 hp0.2) (oz1446 hp1) (oz1372 hp2.1 hp2.2 s9 kn1) (oz1388 c6 hp3.2 s7 kn24 kn1)) (by decide) ?_
      intro vg10 ig10 ag10 qg10 rg10 kg10 hg10
      have hGg10 := kG_call hJ8 kg10 (by decide +kernel)
      have z11 : (ig10 6019).toInt = (((i 6019) + 1).toInt + 2) := hg10
      exact ft_ret mi_k13 (by rfl) (hP vg10 _ _ _ _ hGg10 (oz1389 s7 z11 kn1))
    ·
      have c12 : (i 6019).toInt < (24 : Int32).toInt := kd_leF c; clear c
      refine fo_goS mi_k13 fz13_37_5_47 [.int 10, .int (i 6019), .ref 96] rfl ?_
      refine ko_iast3 mi_k13.1 (n := 24) (c := 24) (ax := (0, 0, 0, 0, 0)) (mi_k13.2 _ _ (by rfl)) (by rfl) (ksG96 _ _ _ _) (ksA96 _ _ _ _) (hG.I.2.1 96) rfl (oz3 fi_6019.1) (oz1343 c12 kn24) ?_
      intro a13 ea13 fa13
      have hJ13 := kG_a3 hG 96 rfl ea13 fa13 (kd_bd _)
      have s14 : ((i 6019) + 1).toInt = (i 6019).toInt + (1 : Int32).toInt := kd_add (oz12 fi_6019.1 kn1) (oz951 fi_6019.2 kn1)
      have hJ15 := kG_i hJ13 6019 rfl (v := ((i 6019) + 1)) ⟨(oz14 fi_6019.1 s14 kn1), (oz1385 hp3.2 s14 kn1)⟩
      have s16 : (x5 + 1).toInt = x5.toInt + (1 : Int32).toInt := kd_add (oz12 hp2.1 kn1) (oz1366 hp2.2 kn1)
      first | refine fo_goI mi_k13 fz13_48_15_72 [.int (x5 + 1), .int x4, .int 1, .int x1, .ref 94] (ku i 6019 ((i 6019) + 1)) (by rfl) ?_ | refine ft_go mi_k13 15 72 [(7, .int 10), (6, .int 0), (0, .ref 94), (1, .int x1), (2, .int 4), (3, .int 1), (4, .int x4), (5, .int x5)] [.int (x5 + 1), .int x4, .int 1, .int x1, .ref 94] (ku i 6019 ((i 6019) + 1)) a13 q r (by rfl) ?_
      have r17 : ((0 : Int) ≤ ((a13 95).getD x1.toNatClampNeg 0).toInt) ∧ (((a13 95).getD x1.toNatClampNeg 0).toInt ≤ 7) := hJ15.I.2.2.1 95 (x1.toNatClampNeg)
      have u18 : ((a13 95).getD x1.toNatClampNeg 0).toInt = ((a 95).getD x1.toNatClampNeg 0).toInt := congrArg (fun z : List Int32 => (z.getD x1.toNatClampNeg 0).toInt) (fa13 95 (by decide))
      refine ko_callI mi_k13.1 (pc := 72) (ls := [(7, .int 10), (6, .int 0), (0, .ref 94), (1, .int x1), (2, .int 4), (3, .int 1), (4, .int x4), (5, .int x5)]) (st := [.int (x5 + 1), .int x4, .int 1, .int x1, .ref 94]) (h := ks (ku i 6019 ((i 6019) + 1)) a13 q r) (i := (.invokevirtual 43, 3, 14, 0, 9, 0, 301)) (mi_k13.2 _ _ (by rfl)) (ft_invS mi_pq14 (by rfl)) (cy := mi_c14) mi_pq14 rfl (kc14_94_l11_K4 hJ15.I hJ15.R x1 x4 (x5 + 1) (oz1339 hp0.1 hp0.2) (oz1447 hp1 u18) (oz1372 hp2.1 hp2.2 s16 kn1) (oz1390 fi_6019.1 hp3.2 s14 kn1)) (by decide) ?_
      intro vg19 ig19 ag19 qg19 rg19 kg19 hg19
      have hGg19 := kG_call hJ15 kg19 (by decide +kernel)
      have z20 : (ig19 6019).toInt = (((i 6019) + 1).toInt + 2) := hg19
      exact ft_ret mi_k13 (by rfl) (hP vg19 _ _ _ _ hGg19 (oz1389 s14 z20 kn1))
  ·
    have c21 : (40 : Int32).toInt ≤ x5.toInt := kd_ltF c; clear c
    exact (oz1376 c21 hp2.2 kn40).elim
set_option maxRecDepth 100000 in
theorem kc11_l04_l12 {i : Nat → Int32} {a : Nat → List Int32} {q : Nat → List Int64} {r : Nat → Nat} (hI : kI i a q) (hr : kr r)  : km 1 11 [.int 4, .int 2] (ks i a q r) (kPI (ks i a q r) (fun v => v.toInt = 4)) := by
  have hG := kG_self kW0 hI hr
  refine km_ofPI (q := (mi_h11, mi_c11)) rfl (by decide) (Nat.le_of_ble_eq_true rfl) ?_
  intro P hP
  first | refine ft_goL mi_k11 16 26 [(3, .int 0), (2, .int 4), (0, .int 4), (1, .int 2)] [.int (4 * 4), .ref (mi_RO + 3)] (by rfl) ?_
  refine ko_top (by decide : (4 * 4 : Int32) = 16) ?_
  refine fo_goS mi_k11 fz11_26_2_28 [.int (16 + 2), .ref (mi_RO + 3)] rfl ?_
  refine ko_top (by decide : (16 + 2 : Int32) = 18) ?_
  refine ft_ro mi_k11 (w := 50) (by decide +kernel) (by decide +kernel) ?_
  refine fo_goS mi_k11 fz11_29_2_33 [.int 4] rfl ?_
  exact ft_ret mi_k11 (by rfl) (hP 4 (oz1446 kn4))
noncomputable def w14_94_l12_K4 : kW := ([], [], [], [])
set_option maxRecDepth 100000 in
theorem kc14_94_l12_K4 {i : Nat → Int32} {a : Nat → List Int32} {q : Nat → List Int64} {r : Nat → Nat} (hI : kI i a q) (hr : kr r) (x1 : Int32) (x3 : Int32) (x4 : Int32) (hp0 : ((0 : Int) ≤ x1.toInt) ∧ (x1.toInt ≤ 49)) (hp1 : ((a 95).getD x1.toNatClampNeg 0).toInt = 4) (hp2 : ((0 : Int) ≤ x4.toInt) ∧ ((x4.toInt + 0) ≤ 39)) (hp3 : ((0 : Int) ≤ (i 6019).toInt) ∧ (((i 6019).toInt + 0) ≤ 900)) : km 1 14 [.ref 94, .int x1, .int 2, .int x3, .int x4] (ks i a q r) (kVI w14_94_l12_K4 i a q r (fun v i1 a1 q1 r1 => (i1 6019).toInt = ((i 6019).toInt + 0))) := by
  have hG := kG_self w14_94_l12_K4 hI hr
  refine km_ofI (q := (mi_h14, mi_c14)) rfl (by decide) (Nat.le_of_ble_eq_true rfl) ?_
  intro P hP
  have r1 : ((0 : Int) ≤ ((a 95).getD x1.toNatClampNeg 0).toInt) ∧ (((a 95).getD x1.toNatClampNeg 0).toInt ≤ 7) := hG.I.2.2.1 95 (x1.toNatClampNeg)
  refine fo_goL mi_k14 fz14_0_3_5 [(0, .ref 94), (1, .int x1), (2, .int 2), (3, .int x3), (4, .int x4)] [.int x1, .ref 95] rfl ?_
  refine ko_iald3 mi_k14.1 (n := 50) (c := 50) (ax := (0, 0, 0, 0, 0)) (mi_k14.2 _ _ (by rfl)) (by rfl) (ksG95 _ _ _ _) (hG.I.2.1 95) rfl (oz3 hp0.1) (oz1336 hp0.2) ?_
  refine ko_top (kj_eq (oz1446 hp1) (by decide) : ((a 95).getD x1.toNatClampNeg 0) = 4) ?_
  refine ft_goL mi_k14 6 57 [(5, .int 4), (0, .ref 94), (1, .int x1), (2, .int 2), (3, .int x3), (4, .int x4)] [.int (x3 ^^^ x1)] (by rfl) ?_
  exact ft_ret mi_k14 (by rfl) (hP (x3 ^^^ x1) _ _ _ _ hG oz1338)
noncomputable def w13_94_l11_l22_K4 : kW := ([6019], [96], [], [])
set_option maxRecDepth 100000 in
theorem kc13_94_l11_l22_K4 {i : Nat → Int32} {a : Nat → List Int32} {q : Nat → List Int64} {r : Nat → Nat} (hI : kI i a q) (hr : kr r) (x1 : Int32) (x4 : Int32) (x5 : Int32) (hp0 : ((0 : Int) ≤ x1.toInt) ∧ (x1.toInt ≤ 49)) (hp1 : ((a 95).getD x1.toNatClampNeg 0).toInt = 4) (hp2 : ((0 : Int) ≤ x5.toInt) ∧ ((x5.toInt + 1) ≤ 39)) (hp3 : ((0 : Int) ≤ (i 6019).toInt) ∧ (((i 6019).toInt + 1) ≤ 900)) : km 3 13 [.ref 94, .int x1, .int 1, .int 2, .int x4, .int x5] (ks i a q r) (kVI w13_94_l11_l22_K4 i a q r (fun v i1 a1 q1 r1 => (i1 6019).toInt = ((i 6019).toInt + 1))) := by
  have hG := kG_self w13_94_l11_l22_K4 hI hr
  refine km_ofI (q := (mi_h13, mi_c13)) rfl (by decide) (Nat.le_of_ble_eq_true rfl) ?_
  intro P hP
  have r1 : ((0 : Int) ≤ ((a 95).getD x1.toNatClampNeg 0).toInt) ∧ (((a 95).getD x1.toNatClampNeg 0).toInt ≤ 7) := hG.I.2.2.1 95 (x1.toNatClampNeg)
  have fi_6019 : ((0 : Int) ≤ (i 6019).toInt) ∧ ((i 6019).toInt ≤ 1000) := hG.I.1 6019
  refine fo_goL mi_k13 fz13_0_2_4 [(0, .ref 94), (1, .int x1), (2, .int 1), (3, .int 2), (4, .int x4), (5, .int x5)] [.int 40, .int x5] rfl ?_
  refine ft_ifS mi_k13 (decide (x5 < 40)) 9 7 [] (by rfl) (fun c => ?_) (fun c => ?_)
  ·
    have c2 : x5.toInt < (40 : Int32).toInt := kd_lt c; clear c
    refine fo_goS mi_k13 fz13_9_2_11 [.int 2, .int 1] rfl ?_
    refine ko_callPI mi_k13.1 (pc := 11) (ls := [(0, .ref 94), (1, .int x1), (2, .int 1), (3, .int 2), (4, .int x4), (5, .int x5)]) (st := [.int 2, .int 1]) (h := ks i a q r) (i := (.invokestatic 39, 3, 11, 0, 9, 0, 298)) (mi_k13.2 _ _ (by rfl)) (ft_invS mi_pq11 (by rfl)) (cy := mi_c11) mi_pq11 rfl (kc11_l01_l12 hG.I hG.R ) (by decide) ?_
    intro vg3 hg3
    have z4 : vg3.toInt = 0 := hg3
    have evvg3 := kj_eq (oz236 z4) (by decide : (0 : Int32).toInt = 0)
    subst evvg3
    refine ft_goL mi_k13 5 23 [(6, .int 0), (0, .ref 94), (1, .int x1), (2, .int 1), (3, .int 2), (4, .int x4), (5, .int x5)] [.int (0 * 4), .ref (mi_RO + 3)] (by rfl) ?_
    refine ko_top (by decide : (0 * 4 : Int32) = 0) ?_
    refine fo_goS mi_k13 fz13_23_2_25 [.int (0 + 2), .ref (mi_RO + 3)] rfl ?_
    refine ko_top (by decide : (0 + 2 : Int32) = 2) ?_
    refine ft_ro mi_k13 (w := 11) (by decide +kernel) (by decide +kernel) ?_
    refine fo_goL mi_k13 fz13_26_4_34 [(7, .int 11), (6, .int 0), (0, .ref 94), (1, .int x1), (2, .int 1), (3, .int 2), (4, .int x4), (5, .int x5)] [.int 24, .int (i 6019)] rfl ?_
    refine ft_ifS mi_k13 (decide (24 ≤ (i 6019))) 48 37 [] (by rfl) (fun c => ?_) (fun c => ?_)
    ·
      have c6 : (24 : Int32).toInt ≤ (i 6019).toInt := kd_le c; clear c
      have s7 : ((i 6019) + 1).toInt = (i 6019).toInt + (1 : Int32).toInt := kd_add (oz1332 c6 kn24 kn1) (oz951 fi_6019.2 kn1)
      have hJ8 := kG_i hG 6019 rfl (v := ((i 6019) + 1)) ⟨(oz1333 c6 s7 kn24 kn1), (oz1334 hp3.2 s7 kn1)⟩
      have s9 : (x5 + 1).toInt = x5.toInt + (1 : Int32).toInt := kd_add (oz12 hp2.1 kn1) (oz1335 hp2.2 kn1)
      first | refine fo_goI mi_k13 fz13_48_15_72 [.int (x5 + 1), .int x4, .int 2, .int x1, .ref 94] (ku i 6019 ((i 6019) + 1)) (by rfl) ?_ | refine ft_go mi_k13 15 72 [(7, .int 11), (6, .int 0), (0, .ref 94), (1, .int x1), (2, .int 1), (3, .int 2), (4, .int x4), (5, .int x5)] [.int (x5 + 1), .int x4, .int 2, .int x1, .ref 94] (ku i 6019 ((i 6019) + 1)) a q r (by rfl) ?_
      refine ko_callI mi_k13.1 (pc := 72) (ls := [(7, .int 11), (6, .int 0), (0, .ref 94), (1, .int x1), (2, .int 1), (3, .int 2), (4, .int x4), (5, .int x5)]) (st := [.int (x5 + 1), .int x4, .int 2, .int x1, .ref 94]) (h := ks (ku i 6019 ((i 6019) + 1)) a q r) (i := (.invokevirtual 43, 3, 14, 0, 9, 0, 301)) (mi_k13.2 _ _ (by rfl)) (ft_invS mi_pq14 (by rfl)) (cy := mi_c14) mi_pq14 rfl (kc14_94_l12_K4 hJ8.I hJ8.R x1 x4 (x5 + 1) (oz1339 hp0.1 hp0.2) (oz1446 hp1) (oz1340 hp2.1 hp2.2 s9 kn1) (oz1341 c6 hp3.2 s7 kn24 kn1)) (by decide) ?_
      intro vg10 ig10 ag10 qg10 rg10 kg10 hg10
      have hGg10 := kG_call hJ8 kg10 (by decide +kernel)
      have efig10_6019 : (ig10 6019).toInt = ((i 6019) + 1).toInt := kg10.ti 6019 rfl
      exact ft_ret mi_k13 (by rfl) (hP vg10 _ _ _ _ hGg10 (oz1342 efig10_6019 s7 kn1))
    ·
      have c12 : (i 6019).toInt < (24 : Int32).toInt := kd_leF c; clear c
      refine fo_goS mi_k13 fz13_37_5_47 [.int 11, .int (i 6019), .ref 96] rfl ?_
      refine ko_iast3 mi_k13.1 (n := 24) (c := 24) (ax := (0, 0, 0, 0, 0)) (mi_k13.2 _ _ (by rfl)) (by rfl) (ksG96 _ _ _ _) (ksA96 _ _ _ _) (hG.I.2.1 96) rfl (oz3 fi_6019.1) (oz1343 c12 kn24) ?_
      intro a13 ea13 fa13
      have hJ13 := kG_a3 hG 96 rfl ea13 fa13 (kd_bd _)
      have s14 : ((i 6019) + 1).toInt = (i 6019).toInt + (1 : Int32).toInt := kd_add (oz12 fi_6019.1 kn1) (oz951 fi_6019.2 kn1)
      have hJ15 := kG_i hJ13 6019 rfl (v := ((i 6019) + 1)) ⟨(oz14 fi_6019.1 s14 kn1), (oz1334 hp3.2 s14 kn1)⟩
      have s16 : (x5 + 1).toInt = x5.toInt + (1 : Int32).toInt := kd_add (oz12 hp2.1 kn1) (oz1335 hp2.2 kn1)
      first | refine fo_goI mi_k13 fz13_48_15_72 [.int (x5 + 1), .int x4, .int 2, .int x1, .ref 94] (ku i 6019 ((i 6019) + 1)) (by rfl) ?_ | refine ft_go mi_k13 15 72 [(7, .int 11), (6, .int 0), (0, .ref 94), (1, .int x1), (2, .int 1), (3, .int 2), (4, .int x4), (5, .int x5)] [.int (x5 + 1), .int x4, .int 2, .int x1, .ref 94] (ku i 6019 ((i 6019) + 1)) a13 q r (by rfl) ?_
      have r17 : ((0 : Int) ≤ ((a13 95).getD x1.toNatClampNeg 0).toInt) ∧ (((a13 95).getD x1.toNatClampNeg 0).toInt ≤ 7) := hJ15.I.2.2.1 95 (x1.toNatClampNeg)
      have u18 : ((a13 95).getD x1.toNatClampNeg 0).toInt = ((a 95).getD x1.toNatClampNeg 0).toInt := congrArg (fun z : List Int32 => (z.getD x1.toNatClampNeg 0).toInt) (fa13 95 (by decide))
      refine ko_callI mi_k13.1 (pc := 72) (ls := [(7, .int 11), (6, .int 0), (0, .ref 94), (1, .int x1), (2, .int 1), (3, .int 2), (4, .int x4), (5, .int x5)]) (st := [.int (x5 + 1), .int x4, .int 2, .int x1, .ref 94]) (h := ks (ku i 6019 ((i 6019) + 1)) a13 q r) (i := (.invokevirtual 43, 3, 14, 0, 9, 0, 301)) (mi_k13.2 _ _ (by rfl)) (ft_invS mi_pq14 (by rfl)) (cy := mi_c14) mi_pq14 rfl (kc14_94_l12_K4 hJ15.I hJ15.R x1 x4 (x5 + 1) (oz1339 hp0.1 hp0.2) (oz1447 hp1 u18) (oz1340 hp2.1 hp2.2 s16 kn1) (oz1345 fi_6019.1 hp3.2 s14 kn1)) (by decide) ?_
      intro vg19 ig19 ag19 qg19 rg19 kg19 hg19
      have hGg19 := kG_call hJ15 kg19 (by decide +kernel)
      have efig19_6019 : (ig19 6019).toInt = ((i 6019) + 1).toInt := kg19.ti 6019 rfl
      exact ft_ret mi_k13 (by rfl) (hP vg19 _ _ _ _ hGg19 (oz1342 efig19_6019 s14 kn1))
  ·
    have c21 : (40 : Int32).toInt ≤ x5.toInt := kd_ltF c; clear c
    exact (oz1346 c21 hp2.2 kn40).elim
noncomputable def w13_94_l14_l22_K4 : kW := ([6019], [96], [], [])
set_option maxRecDepth 100000 in
theorem kc13_94_l14_l22_K4 {i : Nat → Int32} {a : Nat → List Int32} {q : Nat → List Int64} {r : Nat → Nat} (hI : kI i a q) (hr : kr r) (x1 : Int32) (x4 : Int32) (x5 : Int32) (hp0 : ((0 : Int) ≤ x1.toInt) ∧ (x1.toInt ≤ 49)) (hp1 : ((a 95).getD x1.toNatClampNeg 0).toInt = 4) (hp2 : ((0 : Int) ≤ x5.toInt) ∧ ((x5.toInt + 3) ≤ 39)) (hp3 : ((0 : Int) ≤ (i 6019).toInt) ∧ (((i 6019).toInt + 4) ≤ 900)) : km 7 13 [.ref 94, .int x1, .int 4, .int 2, .int x4, .int x5] (ks i a q r) (kVI w13_94_l14_l22_K4 i a q r (fun v i1 a1 q1 r1 => (i1 6019).toInt = ((i 6019).toInt + 4))) := by
  have hG := kG_self w13_94_l14_l22_K4 hI hr
  refine km_ofI (q := (mi_h13, mi_c13)) rfl (by decide) (Nat.le_of_ble_eq_true rfl) ?_
  intro P hP
  have r1 : ((0 : Int) ≤ ((a 95).getD x1.toNatClampNeg 0).toInt) ∧ (((a 95).getD x1.toNatClampNeg 0).toInt ≤ 7) := hG.I.2.2.1 95 (x1.toNatClampNeg)
  have fi_6019 : ((0 : Int) ≤ (i 6019).toInt) ∧ ((i 6019).toInt ≤ 1000) := hG.I.1 6019
  refine fo_goL mi_k13 fz13_0_2_4 [(0, .ref 94), (1, .int x1), (2, .int 4), (3, .int 2), (4, .int x4), (5, .int x5)] [.int 40, .int x5] rfl ?_
  refine ft_ifS mi_k13 (decide (x5 < 40)) 9 7 [] (by rfl) (fun c => ?_) (fun c => ?_)
  ·
    have c2 : x5.toInt < (40 : Int32).toInt := kd_lt c; clear c
    refine fo_goS mi_k13 fz13_9_2_11 [.int 2, .int 4] rfl ?_
    refine ko_callPI mi_k13.1 (pc := 11) (ls := [(0, .ref 94), (1, .int x1), (2, .int 4), (3, .int 2), (4, .int x4), (5, .int x5)]) (st := [.int 2, .int 4]) (h := ks i a q r) (i := (.invokestatic 39, 3, 11, 0, 9, 0, 298)) (mi_k13.2 _ _ (by rfl)) (ft_invS mi_pq11 (by rfl)) (cy := mi_c11) mi_pq11 rfl (kc11_l04_l12 hG.I hG.R ) (by decide) ?_
    intro vg3 hg3
    have z4 : vg3.toInt = 4 := hg3
    have evvg3 := kj_eq (oz1446 z4) (by decide : (4 : Int32).toInt = 4)
    subst evvg3
    refine ft_goL mi_k13 5 23 [(6, .int 4), (0, .ref 94), (1, .int x1), (2, .int 4), (3, .int 2), (4, .int x4), (5, .int x5)] [.int (4 * 4), .ref (mi_RO + 3)] (by rfl) ?_
    refine ko_top (by decide : (4 * 4 : Int32) = 16) ?_
    refine fo_goS mi_k13 fz13_23_2_25 [.int (16 + 2), .ref (mi_RO + 3)] rfl ?_
    refine ko_top (by decide : (16 + 2 : Int32) = 18) ?_
    refine ft_ro mi_k13 (w := 50) (by decide +kernel) (by decide +kernel) ?_
    refine fo_goL mi_k13 fz13_26_4_34 [(7, .int 50), (6, .int 4), (0, .ref 94), (1, .int x1), (2, .int 4), (3, .int 2), (4, .int x4), (5, .int x5)] [.int 24, .int (i 6019)] rfl ?_
    refine ft_ifS mi_k13 (decide (24 ≤ (i 6019))) 48 37 [] (by rfl) (fun c => ?_) (fun c => ?_)
    ·
      have c6 : (24 : Int32).toInt ≤ (i 6019).toInt := kd_le c; clear c
      have s7 : ((i 6019) + 1).toInt = (i 6019).toInt + (1 : Int32).toInt := kd_add (oz1332 c6 kn24 kn1) (oz951 fi_6019.2 kn1)
      have hJ8 := kG_i hG 6019 rfl (v := ((i 6019) + 1)) ⟨(oz1333 c6 s7 kn24 kn1), (oz1365 hp3.2 s7 kn1)⟩
      refine ft_goI mi_k13 12 83 [.int 4, .ref (mi_RO + 4), .int x1, .ref 94] (ku i 6019 ((i 6019) + 1)) (by rfl) ?_
      refine ft_ro mi_k13 (w := 1) (by decide +kernel) (by decide +kernel) ?_
      have s10 : (x5 + 1).toInt = x5.toInt + (1 : Int32).toInt := kd_add (oz12 hp2.1 kn1) (oz1366 hp2.2 kn1)
      first | refine ft_goS mi_k13 8 105 [.int (x5 + 1), .int x4, .int 2, .int 1, .int x1, .ref 94] (by rfl) ?_
      refine ko_callI mi_k13.1 (pc := 105) (ls := [(7, .int 50), (6, .int 4), (0, .ref 94), (1, .int x1), (2, .int 4), (3, .int 2), (4, .int x4), (5, .int x5)]) (st := [.int (x5 + 1), .int x4, .int 2, .int 1, .int x1, .ref 94]) (h := ks (ku i 6019 ((i 6019) + 1)) a q r) (i := (.invokevirtual 35, 3, 13, 0, 9, 0, 297)) (mi_k13.2 _ _ (by rfl)) (ft_invS mi_pq13 (by rfl)) (cy := mi_c13) mi_pq13 rfl (kc13_94_l11_l22_K4 hJ8.I hJ8.R x1 x4 (x5 + 1) (oz1339 hp0.1 hp0.2) (oz1446 hp1) (oz1451 hp2.1 hp2.2 s10 kn1) (oz1452 c6 hp3.2 s7 kn24 kn1)) (by decide) ?_
      intro vg11 ig11 ag11 qg11 rg11 kg11 hg11
      have hGg11 := kG_call hJ8 kg11 (by decide +kernel)
      have z12 : (ig11 6019).toInt = (((i 6019) + 1).toInt + 1) := hg11
      refine ft_goL mi_k13 9 211 [(8, .int vg11), (7, .int 50), (6, .int 4), (0, .ref 94), (1, .int x1), (2, .int 4), (3, .int 2), (4, .int x4), (5, .int x5)] [.int x1, .ref 95, .int x1, .ref 94, .int vg11] (by rfl) ?_
      refine ko_iald3 mi_k13.1 (n := 50) (c := 50) (ax := (0, 0, 0, 0, 0)) (mi_k13.2 _ _ (by rfl)) (by rfl) (ksG95 _ _ _ _) (hGg11.I.2.1 95) rfl (oz3 hp0.1) (oz1336 hp0.2) ?_
      have r13 : ((0 : Int) ≤ ((ag11 95).getD x1.toNatClampNeg 0).toInt) ∧ (((ag11 95).getD x1.toNatClampNeg 0).toInt ≤ 7) := hGg11.I.2.2.1 95 (x1.toNatClampNeg)
      have u14 : ((ag11 95).getD x1.toNatClampNeg 0).toInt = ((a 95).getD x1.toNatClampNeg 0).toInt := congrArg (fun z : List Int32 => (z.getD x1.toNatClampNeg 0).toInt) (kg11.fa 95 rfl)
      refine ko_top (kj_eq (oz1447 hp1 u14) (by decide) : ((ag11 95).getD x1.toNatClampNeg 0) = 4) ?_
      refine fo_goS mi_k13 fz13_212_5_218 [.int (x5 + 1), .int 2, .int 0, .int 4, .int x1, .ref 94, .int vg11] rfl ?_
      refine ko_callI mi_k13.1 (pc := 218) (ls := [(8, .int vg11), (7, .int 50), (6, .int 4), (0, .ref 94), (1, .int x1), (2, .int 4), (3, .int 2), (4, .int x4), (5, .int x5)]) (st := [.int (x5 + 1), .int 2, .int 0, .int 4, .int x1, .ref 94, .int vg11]) (h := ks ig11 ag11 qg11 rg11) (i := (.invokevirtual 35, 3, 13, 0, 9, 0, 297)) (mi_k13.2 _ _ (by rfl)) (ft_invS mi_pq13 (by rfl)) (cy := mi_c13) mi_pq13 rfl (kc13_94_l14_l20_K4 hGg11.I hGg11.R x1 2 (x5 + 1) (oz1339 hp0.1 hp0.2) (oz1447 hp1 u14) (oz1372 hp2.1 hp2.2 s10 kn1) (oz1453 c6 hp3.2 s7 z12 kn24 kn1)) (by decide) ?_
      intro vg15 ig15 ag15 qg15 rg15 kg15 hg15
      have hGg15 := kG_call hGg11 kg15 (by decide +kernel)
      have z16 : (ig15 6019).toInt = ((ig11 6019).toInt + 2) := hg15
      have b17 : ((-2147483648 : Int) ≤ vg11.toInt) ∧ (vg11.toInt ≤ 2147483647) := kd_bd vg11
      have b18 : ((-2147483648 : Int) ≤ vg15.toInt) ∧ (vg15.toInt ≤ 2147483647) := kd_bd vg15
      refine ft_goS mi_k13 1 222 [.int (vg11 - vg15)] (by rfl) ?_
      exact ft_ret mi_k13 (by rfl) (hP (vg11 - vg15) _ _ _ _ hGg15 (oz1454 s7 z12 z16 kn1))
    ·
      have c19 : (i 6019).toInt < (24 : Int32).toInt := kd_leF c; clear c
      refine fo_goS mi_k13 fz13_37_5_47 [.int 50, .int (i 6019), .ref 96] rfl ?_
      refine ko_iast3 mi_k13.1 (n := 24) (c := 24) (ax := (0, 0, 0, 0, 0)) (mi_k13.2 _ _ (by rfl)) (by rfl) (ksG96 _ _ _ _) (ksA96 _ _ _ _) (hG.I.2.1 96) rfl (oz3 fi_6019.1) (oz1343 c19 kn24) ?_
      intro a20 ea20 fa20
      have hJ20 := kG_a3 hG 96 rfl ea20 fa20 (kd_bd _)
      have s21 : ((i 6019) + 1).toInt = (i 6019).toInt + (1 : Int32).toInt := kd_add (oz12 fi_6019.1 kn1) (oz951 fi_6019.2 kn1)
      have hJ22 := kG_i hJ20 6019 rfl (v := ((i 6019) + 1)) ⟨(oz14 fi_6019.1 s21 kn1), (oz1365 hp3.2 s21 kn1)⟩
      refine ft_goI mi_k13 12 83 [.int 4, .ref (mi_RO + 4), .int x1, .ref 94] (ku i 6019 ((i 6019) + 1)) (by rfl) ?_
      refine ft_ro mi_k13 (w := 1) (by decide +kernel) (by decide +kernel) ?_
      have s24 : (x5 + 1).toInt = x5.toInt + (1 : Int32).toInt := kd_add (oz12 hp2.1 kn1) (oz1366 hp2.2 kn1)
      first | refine ft_goS mi_k13 8 105 [.int (x5 + 1), .int x4, .int 2, .int 1, .int x1, .ref 94] (by rfl) ?_
      have r25 : ((0 : Int) ≤ ((a20 95).getD x1.toNatClampNeg 0).toInt) ∧ (((a20 95).getD x1.toNatClampNeg 0).toInt ≤ 7) := hJ22.I.2.2.1 95 (x1.toNatClampNeg)
      have u26 : ((a20 95).getD x1.toNatClampNeg 0).toInt = ((a 95).getD x1.toNatClampNeg 0).toInt := congrArg (fun z : List Int32 => (z.getD x1.toNatClampNeg 0).toInt) (fa20 95 (by decide))
      refine ko_callI mi_k13.1 (pc := 105) (ls := [(7, .int 50), (6, .int 4), (0, .ref 94), (1, .int x1), (2, .int 4), (3, .int 2), (4, .int x4), (5, .int x5)]) (st := [.int (x5 + 1), .int x4, .int 2, .int 1, .int x1, .ref 94]) (h := ks (ku i 6019 ((i 6019) + 1)) a20 q r) (i := (.invokevirtual 35, 3, 13, 0, 9, 0, 297)) (mi_k13.2 _ _ (by rfl)) (ft_invS mi_pq13 (by rfl)) (cy := mi_c13) mi_pq13 rfl (kc13_94_l11_l22_K4 hJ22.I hJ22.R x1 x4 (x5 + 1) (oz1339 hp0.1 hp0.2) (oz1447 hp1 u26) (oz1451 hp2.1 hp2.2 s24 kn1) (oz1455 fi_6019.1 hp3.2 s21 kn1)) (by decide) ?_
      intro vg27 ig27 ag27 qg27 rg27 kg27 hg27
      have hGg27 := kG_call hJ22 kg27 (by decide +kernel)
      have fig27_6019 : ((0 : Int) ≤ (ig27 6019).toInt) ∧ ((ig27 6019).toInt ≤ 1000) := hGg27.I.1 6019
      have z28 : (ig27 6019).toInt = (((i 6019) + 1).toInt + 1) := hg27
      refine ft_goL mi_k13 9 211 [(8, .int vg27), (7, .int 50), (6, .int 4), (0, .ref 94), (1, .int x1), (2, .int 4), (3, .int 2), (4, .int x4), (5, .int x5)] [.int x1, .ref 95, .int x1, .ref 94, .int vg27] (by rfl) ?_
      refine ko_iald3 mi_k13.1 (n := 50) (c := 50) (ax := (0, 0, 0, 0, 0)) (mi_k13.2 _ _ (by rfl)) (by rfl) (ksG95 _ _ _ _) (hGg27.I.2.1 95) rfl (oz3 hp0.1) (oz1336 hp0.2) ?_
      have r29 : ((0 : Int) ≤ ((ag27 95).getD x1.toNatClampNeg 0).toInt) ∧ (((ag27 95).getD x1.toNatClampNeg 0).toInt ≤ 7) := hGg27.I.2.2.1 95 (x1.toNatClampNeg)
      have u30 : ((ag27 95).getD x1.toNatClampNeg 0).toInt = ((a20 95).getD x1.toNatClampNeg 0).toInt := congrArg (fun z : List Int32 => (z.getD x1.toNatClampNeg 0).toInt) (kg27.fa 95 rfl)
      refine ko_top (kj_eq (oz1456 hp1 u26 u30) (by decide) : ((ag27 95).getD x1.toNatClampNeg 0) = 4) ?_
      refine fo_goS mi_k13 fz13_212_5_218 [.int (x5 + 1), .int 2, .int 0, .int 4, .int x1, .ref 94, .int vg27] rfl ?_
      refine ko_callI mi_k13.1 (pc := 218) (ls := [(8, .int vg27), (7, .int 50), (6, .int 4), (0, .ref 94), (1, .int x1), (2, .int 4), (3, .int 2), (4, .int x4), (5, .int x5)]) (st := [.int (x5 + 1), .int 2, .int 0, .int 4, .int x1, .ref 94, .int vg27]) (h := ks ig27 ag27 qg27 rg27) (i := (.invokevirtual 35, 3, 13, 0, 9, 0, 297)) (mi_k13.2 _ _ (by rfl)) (ft_invS mi_pq13 (by rfl)) (cy := mi_c13) mi_pq13 rfl (kc13_94_l14_l20_K4 hGg27.I hGg27.R x1 2 (x5 + 1) (oz1339 hp0.1 hp0.2) (oz1456 hp1 u26 u30) (oz1372 hp2.1 hp2.2 s24 kn1) (oz1457 fig27_6019.1 hp3.2 s21 z28 kn1)) (by decide) ?_
      intro vg31 ig31 ag31 qg31 rg31 kg31 hg31
      have hGg31 := kG_call hGg27 kg31 (by decide +kernel)
      have z32 : (ig31 6019).toInt = ((ig27 6019).toInt + 2) := hg31
      have b33 : ((-2147483648 : Int) ≤ vg27.toInt) ∧ (vg27.toInt ≤ 2147483647) := kd_bd vg27
      have b34 : ((-2147483648 : Int) ≤ vg31.toInt) ∧ (vg31.toInt ≤ 2147483647) := kd_bd vg31
      refine ft_goS mi_k13 1 222 [.int (vg27 - vg31)] (by rfl) ?_
      exact ft_ret mi_k13 (by rfl) (hP (vg27 - vg31) _ _ _ _ hGg31 (oz1454 s21 z28 z32 kn1))
  ·
    have c35 : (40 : Int32).toInt ≤ x5.toInt := kd_ltF c; clear c
    exact (oz1376 c35 hp2.2 kn40).elim
set_option maxRecDepth 100000 in
theorem kc11_l04_l13 {i : Nat → Int32} {a : Nat → List Int32} {q : Nat → List Int64} {r : Nat → Nat} (hI : kI i a q) (hr : kr r)  : km 1 11 [.int 4, .int 3] (ks i a q r) (kPI (ks i a q r) (fun v => v.toInt = 0)) := by
  have hG := kG_self kW0 hI hr
  refine km_ofPI (q := (mi_h11, mi_c11)) rfl (by decide) (Nat.le_of_ble_eq_true rfl) ?_
  intro P hP
  first | refine ft_goL mi_k11 16 26 [(3, .int 0), (2, .int 4), (0, .int 4), (1, .int 3)] [.int (4 * 4), .ref (mi_RO + 3)] (by rfl) ?_
  refine ko_top (by decide : (4 * 4 : Int32) = 16) ?_
  refine fo_goS mi_k11 fz11_26_2_28 [.int (16 + 3), .ref (mi_RO + 3)] rfl ?_
  refine ko_top (by decide : (16 + 3 : Int32) = 19) ?_
  refine ft_ro mi_k11 (w := 0) (by decide +kernel) (by decide +kernel) ?_
  refine ft_goS mi_k11 3 38 [.int 4, .ref (mi_RO + 4)] (by rfl) ?_
  refine ft_ro mi_k11 (w := 1) (by decide +kernel) (by decide +kernel) ?_
  refine fo_goL mi_k11 fz11_39_2_43 [(3, .int (0 + 1)), (2, .int 1), (0, .int 4), (1, .int 3)] [] rfl ?_
  refine ko_loc (by decide : (0 + 1 : Int32) = 1) ?_
  first | refine ft_goL mi_k11 13 26 [(3, .int 1), (2, .int 1), (0, .int 4), (1, .int 3)] [.int (1 * 4), .ref (mi_RO + 3)] (by rfl) ?_ | refine ft_goS mi_k11 13 26 [.int (1 * 4), .ref (mi_RO + 3)] (by rfl) ?_
  refine ko_top (by decide : (1 * 4 : Int32) = 4) ?_
  refine fo_goS mi_k11 fz11_26_2_28 [.int (4 + 3), .ref (mi_RO + 3)] rfl ?_
  refine ko_top (by decide : (4 + 3 : Int32) = 7) ?_
  refine ft_ro mi_k11 (w := 0) (by decide +kernel) (by decide +kernel) ?_
  refine ft_goS mi_k11 3 38 [.int 1, .ref (mi_RO + 4)] (by rfl) ?_
  refine ft_ro mi_k11 (w := 0) (by decide +kernel) (by decide +kernel) ?_
  refine fo_goL mi_k11 fz11_39_2_43 [(3, .int (1 + 1)), (2, .int 0), (0, .int 4), (1, .int 3)] [] rfl ?_
  refine ko_loc (by decide : (1 + 1 : Int32) = 2) ?_
  first | refine ft_goL mi_k11 7 47 [(3, .int 2), (2, .int 0), (0, .int 4), (1, .int 3)] [.int 0] (by rfl) ?_ | refine ft_goS mi_k11 7 47 [.int 0] (by rfl) ?_
  exact ft_ret mi_k11 (by rfl) (hP 0 (oz236 kn0))
noncomputable def w14_94_l13_K4 : kW := ([6019], [96], [], [])
set_option maxRecDepth 100000 in
theorem kc14_94_l13_K4 {i : Nat → Int32} {a : Nat → List Int32} {q : Nat → List Int64} {r : Nat → Nat} (hI : kI i a q) (hr : kr r) (x1 : Int32) (x3 : Int32) (x4 : Int32) (hp0 : ((0 : Int) ≤ x1.toInt) ∧ (x1.toInt ≤ 49)) (hp1 : ((a 95).getD x1.toNatClampNeg 0).toInt = 4) (hp2 : ((0 : Int) ≤ x4.toInt) ∧ ((x4.toInt + 3) ≤ 39)) (hp3 : ((0 : Int) ≤ (i 6019).toInt) ∧ (((i 6019).toInt + 7) ≤ 900)) : km 11 14 [.ref 94, .int x1, .int 3, .int x3, .int x4] (ks i a q r) (kVI w14_94_l13_K4 i a q r (fun v i1 a1 q1 r1 => (i1 6019).toInt = ((i 6019).toInt + 7))) := by
  have hG := kG_self w14_94_l13_K4 hI hr
  refine km_ofI (q := (mi_h14, mi_c14)) rfl (by decide) (Nat.le_of_ble_eq_true rfl) ?_
  intro P hP
  have r1 : ((0 : Int) ≤ ((a 95).getD x1.toNatClampNeg 0).toInt) ∧ (((a 95).getD x1.toNatClampNeg 0).toInt ≤ 7) := hG.I.2.2.1 95 (x1.toNatClampNeg)
  have fi_6019 : ((0 : Int) ≤ (i 6019).toInt) ∧ ((i 6019).toInt ≤ 1000) := hG.I.1 6019
  refine fo_goL mi_k14 fz14_0_3_5 [(0, .ref 94), (1, .int x1), (2, .int 3), (3, .int x3), (4, .int x4)] [.int x1, .ref 95] rfl ?_
  refine ko_iald3 mi_k14.1 (n := 50) (c := 50) (ax := (0, 0, 0, 0, 0)) (mi_k14.2 _ _ (by rfl)) (by rfl) (ksG95 _ _ _ _) (hG.I.2.1 95) rfl (oz3 hp0.1) (oz1336 hp0.2) ?_
  refine ko_top (kj_eq (oz1446 hp1) (by decide) : ((a 95).getD x1.toNatClampNeg 0) = 4) ?_
  refine ft_goL mi_k14 9 66 [(5, .int 4), (0, .ref 94), (1, .int x1), (2, .int 3), (3, .int x3), (4, .int x4)] [.int x4, .int x3, .int 1, .int 4, .int x1, .ref 94] (by rfl) ?_
  refine ko_callI mi_k14.1 (pc := 66) (ls := [(5, .int 4), (0, .ref 94), (1, .int x1), (2, .int 3), (3, .int x3), (4, .int x4)]) (st := [.int x4, .int x3, .int 1, .int 4, .int x1, .ref 94]) (h := ks i a q r) (i := (.invokevirtual 35, 3, 13, 0, 9, 0, 297)) (mi_k14.2 _ _ (by rfl)) (ft_invS mi_pq13 (by rfl)) (cy := mi_c13) mi_pq13 rfl (kc13_94_l14_l21_K4 hG.I hG.R x1 x3 x4 (oz1339 hp0.1 hp0.2) (oz1446 hp1) (oz1396 hp2.1 hp2.2) (oz1460 fi_6019.1 hp3.2)) (by decide) ?_
  intro vg2 ig2 ag2 qg2 rg2 kg2 hg2
  have hGg2 := kG_call hG kg2 (by decide +kernel)
  have fig2_6019 : ((0 : Int) ≤ (ig2 6019).toInt) ∧ ((ig2 6019).toInt ≤ 1000) := hGg2.I.1 6019
  have z3 : (ig2 6019).toInt = ((i 6019).toInt + 3) := hg2
  refine fo_goL mi_k14 fz14_69_8_81 [(6, .int vg2), (5, .int 4), (0, .ref 94), (1, .int x1), (2, .int 3), (3, .int x3), (4, .int x4)] [.int x4, .int 1, .int 2, .int 4, .int x1, .ref 94, .int vg2] rfl ?_
  have r4 : ((0 : Int) ≤ ((ag2 95).getD x1.toNatClampNeg 0).toInt) ∧ (((ag2 95).getD x1.toNatClampNeg 0).toInt ≤ 7) := hGg2.I.2.2.1 95 (x1.toNatClampNeg)
  have u5 : ((ag2 95).getD x1.toNatClampNeg 0).toInt = ((a 95).getD x1.toNatClampNeg 0).toInt := congrArg (fun z : List Int32 => (z.getD x1.toNatClampNeg 0).toInt) (kg2.fa 95 rfl)
  refine ko_callI mi_k14.1 (pc := 81) (ls := [(6, .int vg2), (5, .int 4), (0, .ref 94), (1, .int x1), (2, .int 3), (3, .int x3), (4, .int x4)]) (st := [.int x4, .int 1, .int 2, .int 4, .int x1, .ref 94, .int vg2]) (h := ks ig2 ag2 qg2 rg2) (i := (.invokevirtual 35, 3, 13, 0, 9, 0, 297)) (mi_k14.2 _ _ (by rfl)) (ft_invS mi_pq13 (by rfl)) (cy := mi_c13) mi_pq13 rfl (kc13_94_l14_l22_K4 hGg2.I hGg2.R x1 1 x4 (oz1339 hp0.1 hp0.2) (oz1447 hp1 u5) (oz1396 hp2.1 hp2.2) (oz1461 fig2_6019.1 hp3.2 z3)) (by decide) ?_
  intro vg6 ig6 ag6 qg6 rg6 kg6 hg6
  have hGg6 := kG_call hGg2 kg6 (by decide +kernel)
  have z7 : (ig6 6019).toInt = ((ig2 6019).toInt + 4) := hg6
  have b8 : ((-2147483648 : Int) ≤ vg2.toInt) ∧ (vg2.toInt ≤ 2147483647) := kd_bd vg2
  have b9 : ((-2147483648 : Int) ≤ vg6.toInt) ∧ (vg6.toInt ≤ 2147483647) := kd_bd vg6
  refine fo_goS mi_k14 fz14_84_1_85 [.int (vg2 - vg6)] rfl ?_
  exact ft_ret mi_k14 (by rfl) (hP (vg2 - vg6) _ _ _ _ hGg6 (oz1462 z3 z7))
noncomputable def w13_94_l14_l23_K4 : kW := ([6019], [96], [], [])
set_option maxRecDepth 100000 in
theorem kc13_94_l14_l23_K4 {i : Nat → Int32} {a : Nat → List Int32} {q : Nat → List Int64} {r : Nat → Nat} (hI : kI i a q) (hr : kr r) (x1 : Int32) (x4 : Int32) (x5 : Int32) (hp0 : ((0 : Int) ≤ x1.toInt) ∧ (x1.toInt ≤ 49)) (hp1 : ((a 95).getD x1.toNatClampNeg 0).toInt = 4) (hp2 : ((0 : Int) ≤ x5.toInt) ∧ ((x5.toInt + 4) ≤ 39)) (hp3 : ((0 : Int) ≤ (i 6019).toInt) ∧ (((i 6019).toInt + 8) ≤ 900)) : km 13 13 [.ref 94, .int x1, .int 4, .int 3, .int x4, .int x5] (ks i a q r) (kVI w13_94_l14_l23_K4 i a q r (fun v i1 a1 q1 r1 => (i1 6019).toInt = ((i 6019).toInt + 8))) := by
  have hG := kG_self w13_94_l14_l23_K4 hI hr
  refine km_ofI (q := (mi_h13, mi_c13)) rfl (by decide) (Nat.le_of_ble_eq_true rfl) ?_
  intro P hP
  have r1 : ((0 : Int) ≤ ((a 95).getD x1.toNatClampNeg 0).toInt) ∧ (((a 95).getD x1.toNatClampNeg 0).toInt ≤ 7) := hG.I.2.2.1 95 (x1.toNatClampNeg)
  have fi_6019 : ((0 : Int) ≤ (i 6019).toInt) ∧ ((i 6019).toInt ≤ 1000) := hG.I.1 6019
  refine fo_goL mi_k13 fz13_0_2_4 [(0, .ref 94), (1, .int x1), (2, .int 4), (3, .int 3), (4, .int x4), (5, .int x5)] [.int 40, .int x5] rfl ?_
  refine ft_ifS mi_k13 (decide (x5 < 40)) 9 7 [] (by rfl) (fun c => ?_) (fun c => ?_)
  ·
    have c2 : x5.toInt < (40 : Int32).toInt := kd_lt c; clear c
    refine fo_goS mi_k13 fz13_9_2_11 [.int 3, .int 4] rfl ?_
    refine ko_callPI mi_k13.1 (pc := 11) (ls := [(0, .ref 94), (1, .int x1), (2, .int 4), (3, .int 3), (4, .int x4), (5, .int x5)]) (st := [.int 3, .int 4]) (h := ks i a q r) (i := (.invokestatic 39, 3, 11, 0, 9, 0, 298)) (mi_k13.2 _ _ (by rfl)) (ft_invS mi_pq11 (by rfl)) (cy := mi_c11) mi_pq11 rfl (kc11_l04_l13 hG.I hG.R ) (by decide) ?_
    intro vg3 hg3
    have z4 : vg3.toInt = 0 := hg3
    have evvg3 := kj_eq (oz236 z4) (by decide : (0 : Int32).toInt = 0)
    subst evvg3
    refine ft_goL mi_k13 5 23 [(6, .int 0), (0, .ref 94), (1, .int x1), (2, .int 4), (3, .int 3), (4, .int x4), (5, .int x5)] [.int (0 * 4), .ref (mi_RO + 3)] (by rfl) ?_
    refine ko_top (by decide : (0 * 4 : Int32) = 0) ?_
    refine fo_goS mi_k13 fz13_23_2_25 [.int (0 + 3), .ref (mi_RO + 3)] rfl ?_
    refine ko_top (by decide : (0 + 3 : Int32) = 3) ?_
    refine ft_ro mi_k13 (w := 2) (by decide +kernel) (by decide +kernel) ?_
    refine fo_goL mi_k13 fz13_26_4_34 [(7, .int 2), (6, .int 0), (0, .ref 94), (1, .int x1), (2, .int 4), (3, .int 3), (4, .int x4), (5, .int x5)] [.int 24, .int (i 6019)] rfl ?_
    refine ft_ifS mi_k13 (decide (24 ≤ (i 6019))) 48 37 [] (by rfl) (fun c => ?_) (fun c => ?_)
    ·
      have c6 : (24 : Int32).toInt ≤ (i 6019).toInt := kd_le c; clear c
      have s7 : ((i 6019) + 1).toInt = (i 6019).toInt + (1 : Int32).toInt := kd_add (oz1332 c6 kn24 kn1) (oz951 fi_6019.2 kn1)
      have hJ8 := kG_i hG 6019 rfl (v := ((i 6019) + 1)) ⟨(oz1333 c6 s7 kn24 kn1), (oz1459 hp3.2 s7 kn1)⟩
      have s9 : (x5 + 1).toInt = x5.toInt + (1 : Int32).toInt := kd_add (oz12 hp2.1 kn1) (oz1395 hp2.2 kn1)
      first | refine fo_goI mi_k13 fz13_48_15_72 [.int (x5 + 1), .int x4, .int 3, .int x1, .ref 94] (ku i 6019 ((i 6019) + 1)) (by rfl) ?_ | refine ft_go mi_k13 15 72 [(7, .int 2), (6, .int 0), (0, .ref 94), (1, .int x1), (2, .int 4), (3, .int 3), (4, .int x4), (5, .int x5)] [.int (x5 + 1), .int x4, .int 3, .int x1, .ref 94] (ku i 6019 ((i 6019) + 1)) a q r (by rfl) ?_
      refine ko_callI mi_k13.1 (pc := 72) (ls := [(7, .int 2), (6, .int 0), (0, .ref 94), (1, .int x1), (2, .int 4), (3, .int 3), (4, .int x4), (5, .int x5)]) (st := [.int (x5 + 1), .int x4, .int 3, .int x1, .ref 94]) (h := ks (ku i 6019 ((i 6019) + 1)) a q r) (i := (.invokevirtual 43, 3, 14, 0, 9, 0, 301)) (mi_k13.2 _ _ (by rfl)) (ft_invS mi_pq14 (by rfl)) (cy := mi_c14) mi_pq14 rfl (kc14_94_l13_K4 hJ8.I hJ8.R x1 x4 (x5 + 1) (oz1339 hp0.1 hp0.2) (oz1446 hp1) (oz1401 hp2.1 hp2.2 s9 kn1) (oz1463 c6 hp3.2 s7 kn24 kn1)) (by decide) ?_
      intro vg10 ig10 ag10 qg10 rg10 kg10 hg10
      have hGg10 := kG_call hJ8 kg10 (by decide +kernel)
      have z11 : (ig10 6019).toInt = (((i 6019) + 1).toInt + 7) := hg10
      exact ft_ret mi_k13 (by rfl) (hP vg10 _ _ _ _ hGg10 (oz1464 s7 z11 kn1))
    ·
      have c12 : (i 6019).toInt < (24 : Int32).toInt := kd_leF c; clear c
      refine fo_goS mi_k13 fz13_37_5_47 [.int 2, .int (i 6019), .ref 96] rfl ?_
      refine ko_iast3 mi_k13.1 (n := 24) (c := 24) (ax := (0, 0, 0, 0, 0)) (mi_k13.2 _ _ (by rfl)) (by rfl) (ksG96 _ _ _ _) (ksA96 _ _ _ _) (hG.I.2.1 96) rfl (oz3 fi_6019.1) (oz1343 c12 kn24) ?_
      intro a13 ea13 fa13
      have hJ13 := kG_a3 hG 96 rfl ea13 fa13 (kd_bd _)
      have s14 : ((i 6019) + 1).toInt = (i 6019).toInt + (1 : Int32).toInt := kd_add (oz12 fi_6019.1 kn1) (oz951 fi_6019.2 kn1)
      have hJ15 := kG_i hJ13 6019 rfl (v := ((i 6019) + 1)) ⟨(oz14 fi_6019.1 s14 kn1), (oz1459 hp3.2 s14 kn1)⟩
      have s16 : (x5 + 1).toInt = x5.toInt + (1 : Int32).toInt := kd_add (oz12 hp2.1 kn1) (oz1395 hp2.2 kn1)
      first | refine fo_goI mi_k13 fz13_48_15_72 [.int (x5 + 1), .int x4, .int 3, .int x1, .ref 94] (ku i 6019 ((i 6019) + 1)) (by rfl) ?_ | refine ft_go mi_k13 15 72 [(7, .int 2), (6, .int 0), (0, .ref 94), (1, .int x1), (2, .int 4), (3, .int 3), (4, .int x4), (5, .int x5)] [.int (x5 + 1), .int x4, .int 3, .int x1, .ref 94] (ku i 6019 ((i 6019) + 1)) a13 q r (by rfl) ?_
      have r17 : ((0 : Int) ≤ ((a13 95).getD x1.toNatClampNeg 0).toInt) ∧ (((a13 95).getD x1.toNatClampNeg 0).toInt ≤ 7) := hJ15.I.2.2.1 95 (x1.toNatClampNeg)
      have u18 : ((a13 95).getD x1.toNatClampNeg 0).toInt = ((a 95).getD x1.toNatClampNeg 0).toInt := congrArg (fun z : List Int32 => (z.getD x1.toNatClampNeg 0).toInt) (fa13 95 (by decide))
      refine ko_callI mi_k13.1 (pc := 72) (ls := [(7, .int 2), (6, .int 0), (0, .ref 94), (1, .int x1), (2, .int 4), (3, .int 3), (4, .int x4), (5, .int x5)]) (st := [.int (x5 + 1), .int x4, .int 3, .int x1, .ref 94]) (h := ks (ku i 6019 ((i 6019) + 1)) a13 q r) (i := (.invokevirtual 43, 3, 14, 0, 9, 0, 301)) (mi_k13.2 _ _ (by rfl)) (ft_invS mi_pq14 (by rfl)) (cy := mi_c14) mi_pq14 rfl (kc14_94_l13_K4 hJ15.I hJ15.R x1 x4 (x5 + 1) (oz1339 hp0.1 hp0.2) (oz1447 hp1 u18) (oz1401 hp2.1 hp2.2 s16 kn1) (oz1465 fi_6019.1 hp3.2 s14 kn1)) (by decide) ?_
      intro vg19 ig19 ag19 qg19 rg19 kg19 hg19
      have hGg19 := kG_call hJ15 kg19 (by decide +kernel)
      have z20 : (ig19 6019).toInt = (((i 6019) + 1).toInt + 7) := hg19
      exact ft_ret mi_k13 (by rfl) (hP vg19 _ _ _ _ hGg19 (oz1464 s14 z20 kn1))
  ·
    have c21 : (40 : Int32).toInt ≤ x5.toInt := kd_ltF c; clear c
    exact (oz1405 c21 hp2.2 kn40).elim
set_option maxRecDepth 100000 in
theorem kc11_l05_l10 {i : Nat → Int32} {a : Nat → List Int32} {q : Nat → List Int64} {r : Nat → Nat} (hI : kI i a q) (hr : kr r)  : km 1 11 [.int 5, .int 0] (ks i a q r) (kPI (ks i a q r) (fun v => v.toInt = 0)) := by
  have hG := kG_self kW0 hI hr
  refine km_ofPI (q := (mi_h11, mi_c11)) rfl (by decide) (Nat.le_of_ble_eq_true rfl) ?_
  intro P hP
  first | refine ft_goL mi_k11 16 26 [(3, .int 0), (2, .int 5), (0, .int 5), (1, .int 0)] [.int (5 * 4), .ref (mi_RO + 3)] (by rfl) ?_
  refine ko_top (by decide : (5 * 4 : Int32) = 20) ?_
  refine fo_goS mi_k11 fz11_26_2_28 [.int (20 + 0), .ref (mi_RO + 3)] rfl ?_
  refine ko_top (by decide : (20 + 0 : Int32) = 20) ?_
  refine ft_ro mi_k11 (w := 0) (by decide +kernel) (by decide +kernel) ?_
  refine ft_goS mi_k11 3 38 [.int 5, .ref (mi_RO + 4)] (by rfl) ?_
  refine ft_ro mi_k11 (w := 3) (by decide +kernel) (by decide +kernel) ?_
  refine fo_goL mi_k11 fz11_39_2_43 [(3, .int (0 + 1)), (2, .int 3), (0, .int 5), (1, .int 0)] [] rfl ?_
  refine ko_loc (by decide : (0 + 1 : Int32) = 1) ?_
  first | refine ft_goL mi_k11 13 26 [(3, .int 1), (2, .int 3), (0, .int 5), (1, .int 0)] [.int (3 * 4), .ref (mi_RO + 3)] (by rfl) ?_ | refine ft_goS mi_k11 13 26 [.int (3 * 4), .ref (mi_RO + 3)] (by rfl) ?_
  refine ko_top (by decide : (3 * 4 : Int32) = 12) ?_
  refine fo_goS mi_k11 fz11_26_2_28 [.int (12 + 0), .ref (mi_RO + 3)] rfl ?_
  refine ko_top (by decide : (12 + 0 : Int32) = 12) ?_
  refine ft_ro mi_k11 (w := 0) (by decide +kernel) (by decide +kernel) ?_
  refine ft_goS mi_k11 3 38 [.int 3, .ref (mi_RO + 4)] (by rfl) ?_
  refine ft_ro mi_k11 (w := 2) (by decide +kernel) (by decide +kernel) ?_
  refine fo_goL mi_k11 fz11_39_2_43 [(3, .int (1 + 1)), (2, .int 2), (0, .int 5), (1, .int 0)] [] rfl ?_
  refine ko_loc (by decide : (1 + 1 : Int32) = 2) ?_
  first | refine ft_goL mi_k11 13 26 [(3, .int 2), (2, .int 2), (0, .int 5), (1, .int 0)] [.int (2 * 4), .ref (mi_RO + 3)] (by rfl) ?_ | refine ft_goS mi_k11 13 26 [.int (2 * 4), .ref (mi_RO + 3)] (by rfl) ?_
  refine ko_top (by decide : (2 * 4 : Int32) = 8) ?_
  refine fo_goS mi_k11 fz11_26_2_28 [.int (8 + 0), .ref (mi_RO + 3)] rfl ?_
  refine ko_top (by decide : (8 + 0 : Int32) = 8) ?_
  refine ft_ro mi_k11 (w := 0) (by decide +kernel) (by decide +kernel) ?_
  refine ft_goS mi_k11 3 38 [.int 2, .ref (mi_RO + 4)] (by rfl) ?_
  refine ft_ro mi_k11 (w := 0) (by decide +kernel) (by decide +kernel) ?_
  refine fo_goL mi_k11 fz11_39_2_43 [(3, .int (2 + 1)), (2, .int 0), (0, .int 5), (1, .int 0)] [] rfl ?_
  refine ko_loc (by decide : (2 + 1 : Int32) = 3) ?_
  first | refine ft_goL mi_k11 7 47 [(3, .int 3), (2, .int 0), (0, .int 5), (1, .int 0)] [.int 0] (by rfl) ?_ | refine ft_goS mi_k11 7 47 [.int 0] (by rfl) ?_
  exact ft_ret mi_k11 (by rfl) (hP 0 (oz236 kn0))
noncomputable def w14_94_l10_K5 : kW := ([], [], [], [])
set_option maxRecDepth 100000 in
theorem kc14_94_l10_K5 {i : Nat → Int32} {a : Nat → List Int32} {q : Nat → List Int64} {r : Nat → Nat} (hI : kI i a q) (hr : kr r) (x1 : Int32) (x3 : Int32) (x4 : Int32) (hp0 : ((0 : Int) ≤ x1.toInt) ∧ (x1.toInt ≤ 49)) (hp1 : ((a 95).getD x1.toNatClampNeg 0).toInt = 5) (hp2 : ((0 : Int) ≤ x4.toInt) ∧ ((x4.toInt + 0) ≤ 39)) (hp3 : ((0 : Int) ≤ (i 6019).toInt) ∧ (((i 6019).toInt + 0) ≤ 900)) : km 1 14 [.ref 94, .int x1, .int 0, .int x3, .int x4] (ks i a q r) (kVI w14_94_l10_K5 i a q r (fun v i1 a1 q1 r1 => (i1 6019).toInt = ((i 6019).toInt + 0))) := by
  have hG := kG_self w14_94_l10_K5 hI hr
  refine km_ofI (q := (mi_h14, mi_c14)) rfl (by decide) (Nat.le_of_ble_eq_true rfl) ?_
  intro P hP
  have r1 : ((0 : Int) ≤ ((a 95).getD x1.toNatClampNeg 0).toInt) ∧ (((a 95).getD x1.toNatClampNeg 0).toInt ≤ 7) := hG.I.2.2.1 95 (x1.toNatClampNeg)
  refine fo_goL mi_k14 fz14_0_3_5 [(0, .ref 94), (1, .int x1), (2, .int 0), (3, .int x3), (4, .int x4)] [.int x1, .ref 95] rfl ?_
  refine ko_iald3 mi_k14.1 (n := 50) (c := 50) (ax := (0, 0, 0, 0, 0)) (mi_k14.2 _ _ (by rfl)) (by rfl) (ksG95 _ _ _ _) (hG.I.2.1 95) rfl (oz3 hp0.1) (oz1336 hp0.2) ?_
  refine ko_top (kj_eq (oz1470 hp1) (by decide) : ((a 95).getD x1.toNatClampNeg 0) = 5) ?_
  have b2 : ((-2147483648 : Int) ≤ x3.toInt) ∧ (x3.toInt ≤ 2147483647) := kd_bd x3
  have b3 : ((-2147483648 : Int) ≤ x1.toInt) ∧ (x1.toInt ≤ 2147483647) := kd_bd x1
  refine ft_goL mi_k14 6 39 [(5, .int 5), (0, .ref 94), (1, .int x1), (2, .int 0), (3, .int x3), (4, .int x4)] [.int (x3 + x1)] (by rfl) ?_
  exact ft_ret mi_k14 (by rfl) (hP (x3 + x1) _ _ _ _ hG oz1338)
noncomputable def w13_94_l15_l20_K5 : kW := ([6019], [96], [], [])
set_option maxRecDepth 100000 in
theorem kc13_94_l15_l20_K5 {i : Nat → Int32} {a : Nat → List Int32} {q : Nat → List Int64} {r : Nat → Nat} (hI : kI i a q) (hr : kr r) (x1 : Int32) (x4 : Int32) (x5 : Int32) (hp0 : ((0 : Int) ≤ x1.toInt) ∧ (x1.toInt ≤ 49)) (hp1 : ((a 95).getD x1.toNatClampNeg 0).toInt = 5) (hp2 : ((0 : Int) ≤ x5.toInt) ∧ ((x5.toInt + 1) ≤ 39)) (hp3 : ((0 : Int) ≤ (i 6019).toInt) ∧ (((i 6019).toInt + 1) ≤ 900)) : km 3 13 [.ref 94, .int x1, .int 5, .int 0, .int x4, .int x5] (ks i a q r) (kVI w13_94_l15_l20_K5 i a q r (fun v i1 a1 q1 r1 => (i1 6019).toInt = ((i 6019).toInt + 1))) := by
  have hG := kG_self w13_94_l15_l20_K5 hI hr
  refine km_ofI (q := (mi_h13, mi_c13)) rfl (by decide) (Nat.le_of_ble_eq_true rfl) ?_
  intro P hP
  have r1 : ((0 : Int) ≤ ((a 95).getD x1.toNatClampNeg 0).toInt) ∧ (((a 95).getD x1.toNatClampNeg 0).toInt ≤ 7) := hG.I.2.2.1 95 (x1.toNatClampNeg)
  have fi_6019 : ((0 : Int) ≤ (i 6019).toInt) ∧ ((i 6019).toInt ≤ 1000) := hG.I.1 6019
  refine fo_goL mi_k13 fz13_0_2_4 [(0, .ref 94), (1, .int x1), (2, .int 5), (3, .int 0), (4, .int x4), (5, .int x5)] [.int 40, .int x5] rfl ?_
  refine ft_ifS mi_k13 (decide (x5 < 40)) 9 7 [] (by rfl) (fun c => ?_) (fun c => ?_)
  ·
    have c2 : x5.toInt < (40 : Int32).toInt := kd_lt c; clear c
    refine fo_goS mi_k13 fz13_9_2_11 [.int 0, .int 5] rfl ?_
    refine ko_callPI mi_k13.1 (pc := 11) (ls := [(0, .ref 94), (1, .int x1), (2, .int 5), (3, .int 0), (4, .int x4), (5, .int x5)]) (st := [.int 0, .int 5]) (h := ks i a q r) (i := (.invokestatic 39, 3, 11, 0, 9, 0, 298)) (mi_k13.2 _ _ (by rfl)) (ft_invS mi_pq11 (by rfl)) (cy := mi_c11) mi_pq11 rfl (kc11_l05_l10 hG.I hG.R ) (by decide) ?_
    intro vg3 hg3
    have z4 : vg3.toInt = 0 := hg3
    have evvg3 := kj_eq (oz236 z4) (by decide : (0 : Int32).toInt = 0)
    subst evvg3
    refine ft_goL mi_k13 5 23 [(6, .int 0), (0, .ref 94), (1, .int x1), (2, .int 5), (3, .int 0), (4, .int x4), (5, .int x5)] [.int (0 * 4), .ref (mi_RO + 3)] (by rfl) ?_
    refine ko_top (by decide : (0 * 4 : Int32) = 0) ?_
    refine fo_goS mi_k13 fz13_23_2_25 [.int (0 + 0), .ref (mi_RO + 3)] rfl ?_
    refine ko_top (by decide : (0 + 0 : Int32) = 0) ?_
    refine ft_ro mi_k13 (w := 1) (by decide +kernel) (by decide +kernel) ?_
    refine fo_goL mi_k13 fz13_26_4_34 [(7, .int 1), (6, .int 0), (0, .ref 94), (1, .int x1), (2, .int 5), (3, .int 0), (4, .int x4), (5, .int x5)] [.int 24, .int (i 6019)] rfl ?_
    refine ft_ifS mi_k13 (decide (24 ≤ (i 6019))) 48 37 [] (by rfl) (fun c => ?_) (fun c => ?_)
    ·
      have c6 : (24 : Int32).toInt ≤ (i 6019).toInt := kd_le c; clear c
      have s7 : ((i 6019) + 1).toInt = (i 6019).toInt + (1 : Int32).toInt := kd_add (oz1332 c6 kn24 kn1) (oz951 fi_6019.2 kn1)
      have hJ8 := kG_i hG 6019 rfl (v := ((i 6019) + 1)) ⟨(oz1333 c6 s7 kn24 kn1), (oz1334 hp3.2 s7 kn1)⟩
      have s9 : (x5 + 1).toInt = x5.toInt + (1 : Int32).toInt := kd_add (oz12 hp2.1 kn1) (oz1335 hp2.2 kn1)
      first | refine fo_goI mi_k13 fz13_48_15_72 [.int (x5 + 1), .int x4, .int 0, .int x1, .ref 94] (ku i 6019 ((i 6019) + 1)) (by rfl) ?_ | refine ft_go mi_k13 15 72 [(7, .int 1), (6, .int 0), (0, .ref 94), (1, .int x1), (2, .int 5), (3, .int 0), (4, .int x4), (5, .int x5)] [.int (x5 + 1), .int x4, .int 0, .int x1, .ref 94] (ku i 6019 ((i 6019) + 1)) a q r (by rfl) ?_
      refine ko_callI mi_k13.1 (pc := 72) (ls := [(7, .int 1), (6, .int 0), (0, .ref 94), (1, .int x1), (2, .int 5), (3, .int 0), (4, .int x4), (5, .int x5)]) (st := [.int (x5 + 1), .int x4, .int 0, .int x1, .ref 94]) (h := ks (ku i 6019 ((i 6019) + 1)) a q r) (i := (.invokevirtual 43, 3, 14, 0, 9, 0, 301)) (mi_k13.2 _ _ (by rfl)) (ft_invS mi_pq14 (by rfl)) (cy := mi_c14) mi_pq14 rfl (kc14_94_l10_K5 hJ8.I hJ8.R x1 x4 (x5 + 1) (oz1339 hp0.1 hp0.2) (oz1470 hp1) (oz1340 hp2.1 hp2.2 s9 kn1) (oz1341 c6 hp3.2 s7 kn24 kn1)) (by decide) ?_
      intro vg10 ig10 ag10 qg10 rg10 kg10 hg10
      have hGg10 := kG_call hJ8 kg10 (by decide +kernel)
      have efig10_6019 : (ig10 6019).toInt = ((i 6019) + 1).toInt := kg10.ti 6019 rfl
      exact ft_ret mi_k13 (by rfl) (hP vg10 _ _ _ _ hGg10 (oz1342 efig10_6019 s7 kn1))
    ·
      have c12 : (i 6019).toInt < (24 : Int32).toInt := kd_leF c; clear c
      refine fo_goS mi_k13 fz13_37_5_47 [.int 1, .int (i 6019), .ref 96] rfl ?_
      refine ko_iast3 mi_k13.1 (n := 24) (c := 24) (ax := (0, 0, 0, 0, 0)) (mi_k13.2 _ _ (by rfl)) (by rfl) (ksG96 _ _ _ _) (ksA96 _ _ _ _) (hG.I.2.1 96) rfl (oz3 fi_6019.1) (oz1343 c12 kn24) ?_
      intro a13 ea13 fa13
      have hJ13 := kG_a3 hG 96 rfl ea13 fa13 (kd_bd _)
      have s14 : ((i 6019) + 1).toInt = (i 6019).toInt + (1 : Int32).toInt := kd_add (oz12 fi_6019.1 kn1) (oz951 fi_6019.2 kn1)
      have hJ15 := kG_i hJ13 6019 rfl (v := ((i 6019) + 1)) ⟨(oz14 fi_6019.1 s14 kn1), (oz1334 hp3.2 s14 kn1)⟩
      have s16 : (x5 + 1).toInt = x5.toInt + (1 : Int32).toInt := kd_add (oz12 hp2.1 kn1) (oz1335 hp2.2 kn1)
      first | refine fo_goI mi_k13 fz13_48_15_72 [.int (x5 + 1), .int x4, .int 0, .int x1, .ref 94] (ku i 6019 ((i 6019) + 1)) (by rfl) ?_ | refine ft_go mi_k13 15 72 [(7, .int 1), (6, .int 0), (0, .ref 94), (1, .int x1), (2, .int 5), (3, .int 0), (4, .int x4), (5, .int x5)] [.int (x5 + 1), .int x4, .int 0, .int x1, .ref 94] (ku i 6019 ((i 6019) + 1)) a13 q r (by rfl) ?_
      have r17 : ((0 : Int) ≤ ((a13 95).getD x1.toNatClampNeg 0).toInt) ∧ (((a13 95).getD x1.toNatClampNeg 0).toInt ≤ 7) := hJ15.I.2.2.1 95 (x1.toNatClampNeg)
      have u18 : ((a13 95).getD x1.toNatClampNeg 0).toInt = ((a 95).getD x1.toNatClampNeg 0).toInt := congrArg (fun z : List Int32 => (z.getD x1.toNatClampNeg 0).toInt) (fa13 95 (by decide))
      refine ko_callI mi_k13.1 (pc := 72) (ls := [(7, .int 1), (6, .int 0), (0, .ref 94), (1, .int x1), (2, .int 5), (3, .int 0), (4, .int x4), (5, .int x5)]) (st := [.int (x5 + 1), .int x4, .int 0, .int x1, .ref 94]) (h := ks (ku i 6019 ((i 6019) + 1)) a13 q r) (i := (.invokevirtual 43, 3, 14, 0, 9, 0, 301)) (mi_k13.2 _ _ (by rfl)) (ft_invS mi_pq14 (by rfl)) (cy := mi_c14) mi_pq14 rfl (kc14_94_l10_K5 hJ15.I hJ15.R x1 x4 (x5 + 1) (oz1339 hp0.1 hp0.2) (oz1471 hp1 u18) (oz1340 hp2.1 hp2.2 s16 kn1) (oz1345 fi_6019.1 hp3.2 s14 kn1)) (by decide) ?_
      intro vg19 ig19 ag19 qg19 rg19 kg19 hg19
      have hGg19 := kG_call hJ15 kg19 (by decide +kernel)
      have efig19_6019 : (ig19 6019).toInt = ((i 6019) + 1).toInt := kg19.ti 6019 rfl
      exact ft_ret mi_k13 (by rfl) (hP vg19 _ _ _ _ hGg19 (oz1342 efig19_6019 s14 kn1))
  ·
    have c21 : (40 : Int32).toInt ≤ x5.toInt := kd_ltF c; clear c
    exact (oz1346 c21 hp2.2 kn40).elim
set_option maxRecDepth 100000 in
theorem kc11_l05_l11 {i : Nat → Int32} {a : Nat → List Int32} {q : Nat → List Int64} {r : Nat → Nat} (hI : kI i a q) (hr : kr r)  : km 1 11 [.int 5, .int 1] (ks i a q r) (kPI (ks i a q r) (fun v => v.toInt = 3)) := by
  have hG := kG_self kW0 hI hr
  refine km_ofPI (q := (mi_h11, mi_c11)) rfl (by decide) (Nat.le_of_ble_eq_true rfl) ?_
  intro P hP
  first | refine ft_goL mi_k11 16 26 [(3, .int 0), (2, .int 5), (0, .int 5), (1, .int 1)] [.int (5 * 4), .ref (mi_RO + 3)] (by rfl) ?_
  refine ko_top (by decide : (5 * 4 : Int32) = 20) ?_
  refine fo_goS mi_k11 fz11_26_2_28 [.int (20 + 1), .ref (mi_RO + 3)] rfl ?_
  refine ko_top (by decide : (20 + 1 : Int32) = 21) ?_
  refine ft_ro mi_k11 (w := 0) (by decide +kernel) (by decide +kernel) ?_
  refine ft_goS mi_k11 3 38 [.int 5, .ref (mi_RO + 4)] (by rfl) ?_
  refine ft_ro mi_k11 (w := 3) (by decide +kernel) (by decide +kernel) ?_
  refine fo_goL mi_k11 fz11_39_2_43 [(3, .int (0 + 1)), (2, .int 3), (0, .int 5), (1, .int 1)] [] rfl ?_
  refine ko_loc (by decide : (0 + 1 : Int32) = 1) ?_
  first | refine ft_goL mi_k11 13 26 [(3, .int 1), (2, .int 3), (0, .int 5), (1, .int 1)] [.int (3 * 4), .ref (mi_RO + 3)] (by rfl) ?_ | refine ft_goS mi_k11 13 26 [.int (3 * 4), .ref (mi_RO + 3)] (by rfl) ?_
  refine ko_top (by decide : (3 * 4 : Int32) = 12) ?_
  refine fo_goS mi_k11 fz11_26_2_28 [.int (12 + 1), .ref (mi_RO + 3)] rfl ?_
  refine ko_top (by decide : (12 + 1 : Int32) = 13) ?_
  refine ft_ro mi_k11 (w := 41) (by decide +kernel) (by decide +kernel) ?_
  refine fo_goS mi_k11 fz11_29_2_33 [.int 3] rfl ?_
  exact ft_ret mi_k11 (by rfl) (hP 3 (oz1421 kn3))
noncomputable def w14_94_l11_K5 : kW := ([6019], [96], [], [])
set_option maxRecDepth 100000 in
theorem kc14_94_l11_K5 {i : Nat → Int32} {a : Nat → List Int32} {q : Nat → List Int64} {r : Nat → Nat} (hI : kI i a q) (hr : kr r) (x1 : Int32) (x3 : Int32) (x4 : Int32) (hp0 : ((0 : Int) ≤ x1.toInt) ∧ (x1.toInt ≤ 49)) (hp1 : ((a 95).getD x1.toNatClampNeg 0).toInt = 5) (hp2 : ((0 : Int) ≤ x4.toInt) ∧ ((x4.toInt + 1) ≤ 39)) (hp3 : ((0 : Int) ≤ (i 6019).toInt) ∧ (((i 6019).toInt + 1) ≤ 900)) : km 5 14 [.ref 94, .int x1, .int 1, .int x3, .int x4] (ks i a q r) (kVI w14_94_l11_K5 i a q r (fun v i1 a1 q1 r1 => (i1 6019).toInt = ((i 6019).toInt + 1))) := by
  have hG := kG_self w14_94_l11_K5 hI hr
  refine km_ofI (q := (mi_h14, mi_c14)) rfl (by decide) (Nat.le_of_ble_eq_true rfl) ?_
  intro P hP
  have r1 : ((0 : Int) ≤ ((a 95).getD x1.toNatClampNeg 0).toInt) ∧ (((a 95).getD x1.toNatClampNeg 0).toInt ≤ 7) := hG.I.2.2.1 95 (x1.toNatClampNeg)
  have fi_6019 : ((0 : Int) ≤ (i 6019).toInt) ∧ ((i 6019).toInt ≤ 1000) := hG.I.1 6019
  refine fo_goL mi_k14 fz14_0_3_5 [(0, .ref 94), (1, .int x1), (2, .int 1), (3, .int x3), (4, .int x4)] [.int x1, .ref 95] rfl ?_
  refine ko_iald3 mi_k14.1 (n := 50) (c := 50) (ax := (0, 0, 0, 0, 0)) (mi_k14.2 _ _ (by rfl)) (by rfl) (ksG95 _ _ _ _) (hG.I.2.1 95) rfl (oz3 hp0.1) (oz1336 hp0.2) ?_
  refine ko_top (kj_eq (oz1470 hp1) (by decide) : ((a 95).getD x1.toNatClampNeg 0) = 5) ?_
  refine ft_goL mi_k14 9 48 [(5, .int 5), (0, .ref 94), (1, .int x1), (2, .int 1), (3, .int x3), (4, .int x4)] [.int x4, .int x3, .int 0, .int 5, .int x1, .ref 94] (by rfl) ?_
  refine ko_callI mi_k14.1 (pc := 48) (ls := [(5, .int 5), (0, .ref 94), (1, .int x1), (2, .int 1), (3, .int x3), (4, .int x4)]) (st := [.int x4, .int x3, .int 0, .int 5, .int x1, .ref 94]) (h := ks i a q r) (i := (.invokevirtual 35, 3, 13, 0, 9, 0, 297)) (mi_k14.2 _ _ (by rfl)) (ft_invS mi_pq13 (by rfl)) (cy := mi_c13) mi_pq13 rfl (kc13_94_l15_l20_K5 hG.I hG.R x1 x3 x4 (oz1339 hp0.1 hp0.2) (oz1470 hp1) (oz1353 hp2.1 hp2.2) (oz1354 fi_6019.1 hp3.2)) (by decide) ?_
  intro vg2 ig2 ag2 qg2 rg2 kg2 hg2
  have hGg2 := kG_call hG kg2 (by decide +kernel)
  have z3 : (ig2 6019).toInt = ((i 6019).toInt + 1) := hg2
  have b4 : ((-2147483648 : Int) ≤ vg2.toInt) ∧ (vg2.toInt ≤ 2147483647) := kd_bd vg2
  refine fo_goS mi_k14 fz14_51_2_53 [.int (vg2 * 2)] rfl ?_
  exact ft_ret mi_k14 (by rfl) (hP (vg2 * 2) _ _ _ _ hGg2 (oz1355 z3))
noncomputable def w13_94_l10_l21_K5 : kW := ([6019], [96], [], [])
set_option maxRecDepth 100000 in
theorem kc13_94_l10_l21_K5 {i : Nat → Int32} {a : Nat → List Int32} {q : Nat → List Int64} {r : Nat → Nat} (hI : kI i a q) (hr : kr r) (x1 : Int32) (x4 : Int32) (x5 : Int32) (hp0 : ((0 : Int) ≤ x1.toInt) ∧ (x1.toInt ≤ 49)) (hp1 : ((a 95).getD x1.toNatClampNeg 0).toInt = 5) (hp2 : ((0 : Int) ≤ x5.toInt) ∧ ((x5.toInt + 2) ≤ 39)) (hp3 : ((0 : Int) ≤ (i 6019).toInt) ∧ (((i 6019).toInt + 2) ≤ 900)) : km 7 13 [.ref 94, .int x1, .int 0, .int 1, .int x4, .int x5] (ks i a q r) (kVI w13_94_l10_l21_K5 i a q r (fun v i1 a1 q1 r1 => (i1 6019).toInt = ((i 6019).toInt + 2))) := by
  have hG := kG_self w13_94_l10_l21_K5 hI hr
  refine km_ofI (q := (mi_h13, mi_c13)) rfl (by decide) (Nat.le_of_ble_eq_true rfl) ?_
  intro P hP
  have r1 : ((0 : Int) ≤ ((a 95).getD x1.toNatClampNeg 0).toInt) ∧ (((a 95).getD x1.toNatClampNeg 0).toInt ≤ 7) := hG.I.2.2.1 95 (x1.toNatClampNeg)
  have fi_6019 : ((0 : Int) ≤ (i 6019).toInt) ∧ ((i 6019).toInt ≤ 1000) := hG.I.1 6019
  refine fo_goL mi_k13 fz13_0_2_4 [(0, .ref 94), (1, .int x1), (2, .int 0), (3, .int 1), (4, .int x4), (5, .int x5)] [.int 40, .int x5] rfl ?_
  refine ft_ifS mi_k13 (decide (x5 < 40)) 9 7 [] (by rfl) (fun c => ?_) (fun c => ?_)
  ·
    have c2 : x5.toInt < (40 : Int32).toInt := kd_lt c; clear c
    refine fo_goS mi_k13 fz13_9_2_11 [.int 1, .int 0] rfl ?_
    refine ko_callPI mi_k13.1 (pc := 11) (ls := [(0, .ref 94), (1, .int x1), (2, .int 0), (3, .int 1), (4, .int x4), (5, .int x5)]) (st := [.int 1, .int 0]) (h := ks i a q r) (i := (.invokestatic 39, 3, 11, 0, 9, 0, 298)) (mi_k13.2 _ _ (by rfl)) (ft_invS mi_pq11 (by rfl)) (cy := mi_c11) mi_pq11 rfl (kc11_l00_l11 hG.I hG.R ) (by decide) ?_
    intro vg3 hg3
    have z4 : vg3.toInt = 0 := hg3
    have evvg3 := kj_eq (oz236 z4) (by decide : (0 : Int32).toInt = 0)
    subst evvg3
    refine ft_goL mi_k13 5 23 [(6, .int 0), (0, .ref 94), (1, .int x1), (2, .int 0), (3, .int 1), (4, .int x4), (5, .int x5)] [.int (0 * 4), .ref (mi_RO + 3)] (by rfl) ?_
    refine ko_top (by decide : (0 * 4 : Int32) = 0) ?_
    refine fo_goS mi_k13 fz13_23_2_25 [.int (0 + 1), .ref (mi_RO + 3)] rfl ?_
    refine ko_top (by decide : (0 + 1 : Int32) = 1) ?_
    refine ft_ro mi_k13 (w := 10) (by decide +kernel) (by decide +kernel) ?_
    refine fo_goL mi_k13 fz13_26_4_34 [(7, .int 10), (6, .int 0), (0, .ref 94), (1, .int x1), (2, .int 0), (3, .int 1), (4, .int x4), (5, .int x5)] [.int 24, .int (i 6019)] rfl ?_
    refine ft_ifS mi_k13 (decide (24 ≤ (i 6019))) 48 37 [] (by rfl) (fun c => ?_) (fun c => ?_)
    ·
      have c6 : (24 : Int32).toInt ≤ (i 6019).toInt := kd_le c; clear c
      have s7 : ((i 6019) + 1).toInt = (i 6019).toInt + (1 : Int32).toInt := kd_add (oz1332 c6 kn24 kn1) (oz951 fi_6019.2 kn1)
      have hJ8 := kG_i hG 6019 rfl (v := ((i 6019) + 1)) ⟨(oz1333 c6 s7 kn24 kn1), (oz1351 hp3.2 s7 kn1)⟩
      have s9 : (x5 + 1).toInt = x5.toInt + (1 : Int32).toInt := kd_add (oz12 hp2.1 kn1) (oz1352 hp2.2 kn1)
      first | refine fo_goI mi_k13 fz13_48_15_72 [.int (x5 + 1), .int x4, .int 1, .int x1, .ref 94] (ku i 6019 ((i 6019) + 1)) (by rfl) ?_ | refine ft_go mi_k13 15 72 [(7, .int 10), (6, .int 0), (0, .ref 94), (1, .int x1), (2, .int 0), (3, .int 1), (4, .int x4), (5, .int x5)] [.int (x5 + 1), .int x4, .int 1, .int x1, .ref 94] (ku i 6019 ((i 6019) + 1)) a q r (by rfl) ?_
      refine ko_callI mi_k13.1 (pc := 72) (ls := [(7, .int 10), (6, .int 0), (0, .ref 94), (1, .int x1), (2, .int 0), (3, .int 1), (4, .int x4), (5, .int x5)]) (st := [.int (x5 + 1), .int x4, .int 1, .int x1, .ref 94]) (h := ks (ku i 6019 ((i 6019) + 1)) a q r) (i := (.invokevirtual 43, 3, 14, 0, 9, 0, 301)) (mi_k13.2 _ _ (by rfl)) (ft_invS mi_pq14 (by rfl)) (cy := mi_c14) mi_pq14 rfl (kc14_94_l11_K5 hJ8.I hJ8.R x1 x4 (x5 + 1) (oz1339 hp0.1 hp0.2) (oz1470 hp1) (oz1356 hp2.1 hp2.2 s9 kn1) (oz1357 c6 hp3.2 s7 kn24 kn1)) (by decide) ?_
      intro vg10 ig10 ag10 qg10 rg10 kg10 hg10
      have hGg10 := kG_call hJ8 kg10 (by decide +kernel)
      have z11 : (ig10 6019).toInt = (((i 6019) + 1).toInt + 1) := hg10
      exact ft_ret mi_k13 (by rfl) (hP vg10 _ _ _ _ hGg10 (oz1358 s7 z11 kn1))
    ·
      have c12 : (i 6019).toInt < (24 : Int32).toInt := kd_leF c; clear c
      refine fo_goS mi_k13 fz13_37_5_47 [.int 10, .int (i 6019), .ref 96] rfl ?_
      refine ko_iast3 mi_k13.1 (n := 24) (c := 24) (ax := (0, 0, 0, 0, 0)) (mi_k13.2 _ _ (by rfl)) (by rfl) (ksG96 _ _ _ _) (ksA96 _ _ _ _) (hG.I.2.1 96) rfl (oz3 fi_6019.1) (oz1343 c12 kn24) ?_
      intro a13 ea13 fa13
      have hJ13 := kG_a3 hG 96 rfl ea13 fa13 (kd_bd _)
      have s14 : ((i 6019) + 1).toInt = (i 6019).toInt + (1 : Int32).toInt := kd_add (oz12 fi_6019.1 kn1) (oz951 fi_6019.2 kn1)
      have hJ15 := kG_i hJ13 6019 rfl (v := ((i 6019) + 1)) ⟨(oz14 fi_6019.1 s14 kn1), (oz1351 hp3.2 s14 kn1)⟩
      have s16 : (x5 + 1).toInt = x5.toInt + (1 : Int32).toInt := kd_add (oz12 hp2.1 kn1) (oz1352 hp2.2 kn1)
      first | refine fo_goI mi_k13 fz13_48_15_72 [.int (x5 + 1), .int x4, .int 1, .int x1, .ref 94] (ku i 6019 ((i 6019) + 1)) (by rfl) ?_ | refine ft_go mi_k13 15 72 [(7, .int 10), (6, .int 0), (0, .ref 94), (1, .int x1), (2, .int 0), (3, .int 1), (4, .int x4), (5, .int x5)] [.int (x5 + 1), .int x4, .int 1, .int x1, .ref 94] (ku i 6019 ((i 6019) + 1)) a13 q r (by rfl) ?_
      have r17 : ((0 : Int) ≤ ((a13 95).getD x1.toNatClampNeg 0).toInt) ∧ (((a13 95).getD x1.toNatClampNeg 0).toInt ≤ 7) := hJ15.I.2.2.1 95 (x1.toNatClampNeg)
      have u18 : ((a13 95).getD x1.toNatClampNeg 0).toInt = ((a 95).getD x1.toNatClampNeg 0).toInt := congrArg (fun z : List Int32 => (z.getD x1.toNatClampNeg 0).toInt) (fa13 95 (by decide))
      refine ko_callI mi_k13.1 (pc := 72) (ls := [(7, .int 10), (6, .int 0), (0, .ref 94), (1, .int x1), (2, .int 0), (3, .int 1), (4, .int x4), (5, .int x5)]) (st := [.int (x5 + 1), .int x4, .int 1, .int x1, .ref 94]) (h := ks (ku i 6019 ((i 6019) + 1)) a13 q r) (i := (.invokevirtual 43, 3, 14, 0, 9, 0, 301)) (mi_k13.2 _ _ (by rfl)) (ft_invS mi_pq14 (by rfl)) (cy := mi_c14) mi_pq14 rfl (kc14_94_l11_K5 hJ15.I hJ15.R x1 x4 (x5 + 1) (oz1339 hp0.1 hp0.2) (oz1471 hp1 u18) (oz1356 hp2.1 hp2.2 s16 kn1) (oz1359 fi_6019.1 hp3.2 s14 kn1)) (by decide) ?_
      intro vg19 ig19 ag19 qg19 rg19 kg19 hg19
      have hGg19 := kG_call hJ15 kg19 (by decide +kernel)
      have z20 : (ig19 6019).toInt = (((i 6019) + 1).toInt + 1) := hg19
      exact ft_ret mi_k13 (by rfl) (hP vg19 _ _ _ _ hGg19 (oz1358 s14 z20 kn1))
  ·
    have c21 : (40 : Int32).toInt ≤ x5.toInt := kd_ltF c; clear c
    exact (oz1360 c21 hp2.2 kn40).elim
noncomputable def w13_94_l12_l21_K5 : kW := ([6019], [96], [], [])
set_option maxRecDepth 100000 in
theorem kc13_94_l12_l21_K5 {i : Nat → Int32} {a : Nat → List Int32} {q : Nat → List Int64} {r : Nat → Nat} (hI : kI i a q) (hr : kr r) (x1 : Int32) (x4 : Int32) (x5 : Int32) (hp0 : ((0 : Int) ≤ x1.toInt) ∧ (x1.toInt ≤ 49)) (hp1 : ((a 95).getD x1.toNatClampNeg 0).toInt = 5) (hp2 : ((0 : Int) ≤ x5.toInt) ∧ ((x5.toInt + 3) ≤ 39)) (hp3 : ((0 : Int) ≤ (i 6019).toInt) ∧ (((i 6019).toInt + 3) ≤ 900)) : km 9 13 [.ref 94, .int x1, .int 2, .int 1, .int x4, .int x5] (ks i a q r) (kVI w13_94_l12_l21_K5 i a q r (fun v i1 a1 q1 r1 => (i1 6019).toInt = ((i 6019).toInt + 3))) := by
  have hG := kG_self w13_94_l12_l21_K5 hI hr
  refine km_ofI (q := (mi_h13, mi_c13)) rfl (by decide) (Nat.le_of_ble_eq_true rfl) ?_
  intro P hP
  have r1 : ((0 : Int) ≤ ((a 95).getD x1.toNatClampNeg 0).toInt) ∧ (((a 95).getD x1.toNatClampNeg 0).toInt ≤ 7) := hG.I.2.2.1 95 (x1.toNatClampNeg)
  have fi_6019 : ((0 : Int) ≤ (i 6019).toInt) ∧ ((i 6019).toInt ≤ 1000) := hG.I.1 6019
  refine fo_goL mi_k13 fz13_0_2_4 [(0, .ref 94), (1, .int x1), (2, .int 2), (3, .int 1), (4, .int x4), (5, .int x5)] [.int 40, .int x5] rfl ?_
  refine ft_ifS mi_k13 (decide (x5 < 40)) 9 7 [] (by rfl) (fun c => ?_) (fun c => ?_)
  ·
    have c2 : x5.toInt < (40 : Int32).toInt := kd_lt c; clear c
    refine fo_goS mi_k13 fz13_9_2_11 [.int 1, .int 2] rfl ?_
    refine ko_callPI mi_k13.1 (pc := 11) (ls := [(0, .ref 94), (1, .int x1), (2, .int 2), (3, .int 1), (4, .int x4), (5, .int x5)]) (st := [.int 1, .int 2]) (h := ks i a q r) (i := (.invokestatic 39, 3, 11, 0, 9, 0, 298)) (mi_k13.2 _ _ (by rfl)) (ft_invS mi_pq11 (by rfl)) (cy := mi_c11) mi_pq11 rfl (kc11_l02_l11 hG.I hG.R ) (by decide) ?_
    intro vg3 hg3
    have z4 : vg3.toInt = 2 := hg3
    have evvg3 := kj_eq (oz1411 z4) (by decide : (2 : Int32).toInt = 2)
    subst evvg3
    refine ft_goL mi_k13 5 23 [(6, .int 2), (0, .ref 94), (1, .int x1), (2, .int 2), (3, .int 1), (4, .int x4), (5, .int x5)] [.int (2 * 4), .ref (mi_RO + 3)] (by rfl) ?_
    refine ko_top (by decide : (2 * 4 : Int32) = 8) ?_
    refine fo_goS mi_k13 fz13_23_2_25 [.int (8 + 1), .ref (mi_RO + 3)] rfl ?_
    refine ko_top (by decide : (8 + 1 : Int32) = 9) ?_
    refine ft_ro mi_k13 (w := 30) (by decide +kernel) (by decide +kernel) ?_
    refine fo_goL mi_k13 fz13_26_4_34 [(7, .int 30), (6, .int 2), (0, .ref 94), (1, .int x1), (2, .int 2), (3, .int 1), (4, .int x4), (5, .int x5)] [.int 24, .int (i 6019)] rfl ?_
    refine ft_ifS mi_k13 (decide (24 ≤ (i 6019))) 48 37 [] (by rfl) (fun c => ?_) (fun c => ?_)
    ·
      have c6 : (24 : Int32).toInt ≤ (i 6019).toInt := kd_le c; clear c
      have s7 : ((i 6019) + 1).toInt = (i 6019).toInt + (1 : Int32).toInt := kd_add (oz1332 c6 kn24 kn1) (oz951 fi_6019.2 kn1)
      have hJ8 := kG_i hG 6019 rfl (v := ((i 6019) + 1)) ⟨(oz1333 c6 s7 kn24 kn1), (oz1385 hp3.2 s7 kn1)⟩
      refine ft_goI mi_k13 12 83 [.int 2, .ref (mi_RO + 4), .int x1, .ref 94] (ku i 6019 ((i 6019) + 1)) (by rfl) ?_
      refine ft_ro mi_k13 (w := 0) (by decide +kernel) (by decide +kernel) ?_
      have s10 : (x5 + 1).toInt = x5.toInt + (1 : Int32).toInt := kd_add (oz12 hp2.1 kn1) (oz1366 hp2.2 kn1)
      first | refine ft_goS mi_k13 8 105 [.int (x5 + 1), .int x4, .int 1, .int 0, .int x1, .ref 94] (by rfl) ?_
      refine ko_callI mi_k13.1 (pc := 105) (ls := [(7, .int 30), (6, .int 2), (0, .ref 94), (1, .int x1), (2, .int 2), (3, .int 1), (4, .int x4), (5, .int x5)]) (st := [.int (x5 + 1), .int x4, .int 1, .int 0, .int x1, .ref 94]) (h := ks (ku i 6019 ((i 6019) + 1)) a q r) (i := (.invokevirtual 35, 3, 13, 0, 9, 0, 297)) (mi_k13.2 _ _ (by rfl)) (ft_invS mi_pq13 (by rfl)) (cy := mi_c13) mi_pq13 rfl (kc13_94_l10_l21_K5 hJ8.I hJ8.R x1 x4 (x5 + 1) (oz1339 hp0.1 hp0.2) (oz1470 hp1) (oz1372 hp2.1 hp2.2 s10 kn1) (oz1388 c6 hp3.2 s7 kn24 kn1)) (by decide) ?_
      intro vg11 ig11 ag11 qg11 rg11 kg11 hg11
      have hGg11 := kG_call hJ8 kg11 (by decide +kernel)
      have z12 : (ig11 6019).toInt = (((i 6019) + 1).toInt + 2) := hg11
      refine ft_goL mi_k13 5 196 [(8, .int vg11), (7, .int 30), (6, .int 2), (0, .ref 94), (1, .int x1), (2, .int 2), (3, .int 1), (4, .int x4), (5, .int x5)] [.int (-vg11)] (by rfl) ?_
      exact ft_ret mi_k13 (by rfl) (hP (-vg11) _ _ _ _ hGg11 (oz1389 s7 z12 kn1))
    ·
      have c13 : (i 6019).toInt < (24 : Int32).toInt := kd_leF c; clear c
      refine fo_goS mi_k13 fz13_37_5_47 [.int 30, .int (i 6019), .ref 96] rfl ?_
      refine ko_iast3 mi_k13.1 (n := 24) (c := 24) (ax := (0, 0, 0, 0, 0)) (mi_k13.2 _ _ (by rfl)) (by rfl) (ksG96 _ _ _ _) (ksA96 _ _ _ _) (hG.I.2.1 96) rfl (oz3 fi_6019.1) (oz1343 c13 kn24) ?_
      intro a14 ea14 fa14
      have hJ14 := kG_a3 hG 96 rfl ea14 fa14 (kd_bd _)
      have s15 : ((i 6019) + 1).toInt = (i 6019).toInt + (1 : Int32).toInt := kd_add (oz12 fi_6019.1 kn1) (oz951 fi_6019.2 kn1)
      have hJ16 := kG_i hJ14 6019 rfl (v := ((i 6019) + 1)) ⟨(oz14 fi_6019.1 s15 kn1), (oz1385 hp3.2 s15 kn1)⟩
      refine ft_goI mi_k13 12 83 [.int 2, .ref (mi_RO + 4), .int x1, .ref 94] (ku i 6019 ((i 6019) + 1)) (by rfl) ?_
      refine ft_ro mi_k13 (w := 0) (by decide +kernel) (by decide +kernel) ?_
      have s18 : (x5 + 1).toInt = x5.toInt + (1 : Int32).toInt := kd_add (oz12 hp2.1 kn1) (oz1366 hp2.2 kn1)
      first | refine ft_goS mi_k13 8 105 [.int (x5 + 1), .int x4, .int 1, .int 0, .int x1, .ref 94] (by rfl) ?_
      have r19 : ((0 : Int) ≤ ((a14 95).getD x1.toNatClampNeg 0).toInt) ∧ (((a14 95).getD x1.toNatClampNeg 0).toInt ≤ 7) := hJ16.I.2.2.1 95 (x1.toNatClampNeg)
      have u20 : ((a14 95).getD x1.toNatClampNeg 0).toInt = ((a 95).getD x1.toNatClampNeg 0).toInt := congrArg (fun z : List Int32 => (z.getD x1.toNatClampNeg 0).toInt) (fa14 95 (by decide))
      refine ko_callI mi_k13.1 (pc := 105) (ls := [(7, .int 30), (6, .int 2), (0, .ref 94), (1, .int x1), (2, .int 2), (3, .int 1), (4, .int x4), (5, .int x5)]) (st := [.int (x5 + 1), .int x4, .int 1, .int 0, .int x1, .ref 94]) (h := ks (ku i 6019 ((i 6019) + 1)) a14 q r) (i := (.invokevirtual 35, 3, 13, 0, 9, 0, 297)) (mi_k13.2 _ _ (by rfl)) (ft_invS mi_pq13 (by rfl)) (cy := mi_c13) mi_pq13 rfl (kc13_94_l10_l21_K5 hJ16.I hJ16.R x1 x4 (x5 + 1) (oz1339 hp0.1 hp0.2) (oz1471 hp1 u20) (oz1372 hp2.1 hp2.2 s18 kn1) (oz1390 fi_6019.1 hp3.2 s15 kn1)) (by decide) ?_
      intro vg21 ig21 ag21 qg21 rg21 kg21 hg21
      have hGg21 := kG_call hJ16 kg21 (by decide +kernel)
      have z22 : (ig21 6019).toInt = (((i 6019) + 1).toInt + 2) := hg21
      refine ft_goL mi_k13 5 196 [(8, .int vg21), (7, .int 30), (6, .int 2), (0, .ref 94), (1, .int x1), (2, .int 2), (3, .int 1), (4, .int x4), (5, .int x5)] [.int (-vg21)] (by rfl) ?_
      exact ft_ret mi_k13 (by rfl) (hP (-vg21) _ _ _ _ hGg21 (oz1389 s15 z22 kn1))
  ·
    have c23 : (40 : Int32).toInt ≤ x5.toInt := kd_ltF c; clear c
    exact (oz1376 c23 hp2.2 kn40).elim
noncomputable def w13_94_l15_l21_K5 : kW := ([6019], [96], [], [])
set_option maxRecDepth 100000 in
theorem kc13_94_l15_l21_K5 {i : Nat → Int32} {a : Nat → List Int32} {q : Nat → List Int64} {r : Nat → Nat} (hI : kI i a q) (hr : kr r) (x1 : Int32) (x4 : Int32) (x5 : Int32) (hp0 : ((0 : Int) ≤ x1.toInt) ∧ (x1.toInt ≤ 49)) (hp1 : ((a 95).getD x1.toNatClampNeg 0).toInt = 5) (hp2 : ((0 : Int) ≤ x5.toInt) ∧ ((x5.toInt + 4) ≤ 39)) (hp3 : ((0 : Int) ≤ (i 6019).toInt) ∧ (((i 6019).toInt + 4) ≤ 900)) : km 11 13 [.ref 94, .int x1, .int 5, .int 1, .int x4, .int x5] (ks i a q r) (kVI w13_94_l15_l21_K5 i a q r (fun v i1 a1 q1 r1 => (i1 6019).toInt = ((i 6019).toInt + 4))) := by
  have hG := kG_self w13_94_l15_l21_K5 hI hr
  refine km_ofI (q := (mi_h13, mi_c13)) rfl (by decide) (Nat.le_of_ble_eq_true rfl) ?_
  intro P hP
  have r1 : ((0 : Int) ≤ ((a 95).getD x1.toNatClampNeg 0).toInt) ∧ (((a 95).getD x1.toNatClampNeg 0).toInt ≤ 7) := hG.I.2.2.1 95 (x1.toNatClampNeg)
  have fi_6019 : ((0 : Int) ≤ (i 6019).toInt) ∧ ((i 6019).toInt ≤ 1000) := hG.I.1 6019
  refine fo_goL mi_k13 fz13_0_2_4 [(0, .ref 94), (1, .int x1), (2, .int 5), (3, .int 1), (4, .int x4), (5, .int x5)] [.int 40, .int x5] rfl ?_
  refine ft_ifS mi_k13 (decide (x5 < 40)) 9 7 [] (by rfl) (fun c => ?_) (fun c => ?_)
  ·
    have c2 : x5.toInt < (40 : Int32).toInt := kd_lt c; clear c
    refine fo_goS mi_k13 fz13_9_2_11 [.int 1, .int 5] rfl ?_
    refine ko_callPI mi_k13.1 (pc := 11) (ls := [(0, .ref 94), (1, .int x1), (2, .int 5), (3, .int 1), (4, .int x4), (5, .int x5)]) (st := [.int 1, .int 5]) (h := ks i a q r) (i := (.invokestatic 39, 3, 11, 0, 9, 0, 298)) (mi_k13.2 _ _ (by rfl)) (ft_invS mi_pq11 (by rfl)) (cy := mi_c11) mi_pq11 rfl (kc11_l05_l11 hG.I hG.R ) (by decide) ?_
    intro vg3 hg3
    have z4 : vg3.toInt = 3 := hg3
    have evvg3 := kj_eq (oz1421 z4) (by decide : (3 : Int32).toInt = 3)
    subst evvg3
    refine ft_goL mi_k13 5 23 [(6, .int 3), (0, .ref 94), (1, .int x1), (2, .int 5), (3, .int 1), (4, .int x4), (5, .int x5)] [.int (3 * 4), .ref (mi_RO + 3)] (by rfl) ?_
    refine ko_top (by decide : (3 * 4 : Int32) = 12) ?_
    refine fo_goS mi_k13 fz13_23_2_25 [.int (12 + 1), .ref (mi_RO + 3)] rfl ?_
    refine ko_top (by decide : (12 + 1 : Int32) = 13) ?_
    refine ft_ro mi_k13 (w := 41) (by decide +kernel) (by decide +kernel) ?_
    refine fo_goL mi_k13 fz13_26_4_34 [(7, .int 41), (6, .int 3), (0, .ref 94), (1, .int x1), (2, .int 5), (3, .int 1), (4, .int x4), (5, .int x5)] [.int 24, .int (i 6019)] rfl ?_
    refine ft_ifS mi_k13 (decide (24 ≤ (i 6019))) 48 37 [] (by rfl) (fun c => ?_) (fun c => ?_)
    ·
      have c6 : (24 : Int32).toInt ≤ (i 6019).toInt := kd_le c; clear c
      have s7 : ((i 6019) + 1).toInt = (i 6019).toInt + (1 : Int32).toInt := kd_add (oz1332 c6 kn24 kn1) (oz951 fi_6019.2 kn1)
      have hJ8 := kG_i hG 6019 rfl (v := ((i 6019) + 1)) ⟨(oz1333 c6 s7 kn24 kn1), (oz1365 hp3.2 s7 kn1)⟩
      refine ft_goI mi_k13 12 83 [.int 3, .ref (mi_RO + 4), .int x1, .ref 94] (ku i 6019 ((i 6019) + 1)) (by rfl) ?_
      refine ft_ro mi_k13 (w := 2) (by decide +kernel) (by decide +kernel) ?_
      have b10 : ((-2147483648 : Int) ≤ x4.toInt) ∧ (x4.toInt ≤ 2147483647) := kd_bd x4
      have s11 : (x5 + 1).toInt = x5.toInt + (1 : Int32).toInt := kd_add (oz12 hp2.1 kn1) (oz1395 hp2.2 kn1)
      first | refine ft_goS mi_k13 11 105 [.int (x5 + 1), .int (x4 + 1), .int 1, .int 2, .int x1, .ref 94] (by rfl) ?_
      refine ko_callI mi_k13.1 (pc := 105) (ls := [(7, .int 41), (6, .int 3), (0, .ref 94), (1, .int x1), (2, .int 5), (3, .int 1), (4, .int x4), (5, .int x5)]) (st := [.int (x5 + 1), .int (x4 + 1), .int 1, .int 2, .int x1, .ref 94]) (h := ks (ku i 6019 ((i 6019) + 1)) a q r) (i := (.invokevirtual 35, 3, 13, 0, 9, 0, 297)) (mi_k13.2 _ _ (by rfl)) (ft_invS mi_pq13 (by rfl)) (cy := mi_c13) mi_pq13 rfl (kc13_94_l12_l21_K5 hJ8.I hJ8.R x1 (x4 + 1) (x5 + 1) (oz1339 hp0.1 hp0.2) (oz1470 hp1) (oz1401 hp2.1 hp2.2 s11 kn1) (oz1373 c6 hp3.2 s7 kn24 kn1)) (by decide) ?_
      intro vg12 ig12 ag12 qg12 rg12 kg12 hg12
      have hGg12 := kG_call hJ8 kg12 (by decide +kernel)
      have z13 : (ig12 6019).toInt = (((i 6019) + 1).toInt + 3) := hg12
      refine ft_goL mi_k13 4 261 [(8, .int vg12), (7, .int 41), (6, .int 3), (0, .ref 94), (1, .int x1), (2, .int 5), (3, .int 1), (4, .int x4), (5, .int x5)] [.int vg12] (by rfl) ?_
      exact ft_ret mi_k13 (by rfl) (hP vg12 _ _ _ _ hGg12 (oz1374 s7 z13 kn1))
    ·
      have c14 : (i 6019).toInt < (24 : Int32).toInt := kd_leF c; clear c
      refine fo_goS mi_k13 fz13_37_5_47 [.int 41, .int (i 6019), .ref 96] rfl ?_
      refine ko_iast3 mi_k13.1 (n := 24) (c := 24) (ax := (0, 0, 0, 0, 0)) (mi_k13.2 _ _ (by rfl)) (by rfl) (ksG96 _ _ _ _) (ksA96 _ _ _ _) (hG.I.2.1 96) rfl (oz3 fi_6019.1) (oz1343 c14 kn24) ?_
      intro a15 ea15 fa15
      have hJ15 := kG_a3 hG 96 rfl ea15 fa15 (kd_bd _)
      have s16 : ((i 6019) + 1).toInt = (i 6019).toInt + (1 : Int32).toInt := kd_add (oz12 fi_6019.1 kn1) (oz951 fi_6019.2 kn1)
      have hJ17 := kG_i hJ15 6019 rfl (v := ((i 6019) + 1)) ⟨(oz14 fi_6019.1 s16 kn1), (oz1365 hp3.2 s16 kn1)⟩
      refine ft_goI mi_k13 12 83 [.int 3, .ref (mi_RO + 4), .int x1, .ref 94] (ku i 6019 ((i 6019) + 1)) (by rfl) ?_
      refine ft_ro mi_k13 (w := 2) (by decide +kernel) (by decide +kernel) ?_
      have b19 : ((-2147483648 : Int) ≤ x4.toInt) ∧ (x4.toInt ≤ 2147483647) := kd_bd x4
      have s20 : (x5 + 1).toInt = x5.toInt + (1 : Int32).toInt := kd_add (oz12 hp2.1 kn1) (oz1395 hp2.2 kn1)
      first | refine ft_goS mi_k13 11 105 [.int (x5 + 1), .int (x4 + 1), .int 1, .int 2, .int x1, .ref 94] (by rfl) ?_
      have r21 : ((0 : Int) ≤ ((a15 95).getD x1.toNatClampNeg 0).toInt) ∧ (((a15 95).getD x1.toNatClampNeg 0).toInt ≤ 7) := hJ17.I.2.2.1 95 (x1.toNatClampNeg)
      have u22 : ((a15 95).getD x1.toNatClampNeg 0).toInt = ((a 95).getD x1.toNatClampNeg 0).toInt := congrArg (fun z : List Int32 => (z.getD x1.toNatClampNeg 0).toInt) (fa15 95 (by decide))
      refine ko_callI mi_k13.1 (pc := 105) (ls := [(7, .int 41), (6, .int 3), (0, .ref 94), (1, .int x1), (2, .int 5), (3, .int 1), (4, .int x4), (5, .int x5)]) (st := [.int (x5 + 1), .int (x4 + 1), .int 1, .int 2, .int x1, .ref 94]) (h := ks (ku i 6019 ((i 6019) + 1)) a15 q r) (i := (.invokevirtual 35, 3, 13, 0, 9, 0, 297)) (mi_k13.2 _ _ (by rfl)) (ft_invS mi_pq13 (by rfl)) (cy := mi_c13) mi_pq13 rfl (kc13_94_l12_l21_K5 hJ17.I hJ17.R x1 (x4 + 1) (x5 + 1) (oz1339 hp0.1 hp0.2) (oz1471 hp1 u22) (oz1401 hp2.1 hp2.2 s20 kn1) (oz1375 fi_6019.1 hp3.2 s16 kn1)) (by decide) ?_
      intro vg23 ig23 ag23 qg23 rg23 kg23 hg23
      have hGg23 := kG_call hJ17 kg23 (by decide +kernel)
      have z24 : (ig23 6019).toInt = (((i 6019) + 1).toInt + 3) := hg23
      refine ft_goL mi_k13 4 261 [(8, .int vg23), (7, .int 41), (6, .int 3), (0, .ref 94), (1, .int x1), (2, .int 5), (3, .int 1), (4, .int x4), (5, .int x5)] [.int vg23] (by rfl) ?_
      exact ft_ret mi_k13 (by rfl) (hP vg23 _ _ _ _ hGg23 (oz1374 s16 z24 kn1))
  ·
    have c25 : (40 : Int32).toInt ≤ x5.toInt := kd_ltF c; clear c
    exact (oz1405 c25 hp2.2 kn40).elim
set_option maxRecDepth 100000 in
theorem kc11_l05_l12 {i : Nat → Int32} {a : Nat → List Int32} {q : Nat → List Int64} {r : Nat → Nat} (hI : kI i a q) (hr : kr r)  : km 1 11 [.int 5, .int 2] (ks i a q r) (kPI (ks i a q r) (fun v => v.toInt = 3)) := by
  have hG := kG_self kW0 hI hr
  refine km_ofPI (q := (mi_h11, mi_c11)) rfl (by decide) (Nat.le_of_ble_eq_true rfl) ?_
  intro P hP
  first | refine ft_goL mi_k11 16 26 [(3, .int 0), (2, .int 5), (0, .int 5), (1, .int 2)] [.int (5 * 4), .ref (mi_RO + 3)] (by rfl) ?_
  refine ko_top (by decide : (5 * 4 : Int32) = 20) ?_
  refine fo_goS mi_k11 fz11_26_2_28 [.int (20 + 2), .ref (mi_RO + 3)] rfl ?_
  refine ko_top (by decide : (20 + 2 : Int32) = 22) ?_
  refine ft_ro mi_k11 (w := 0) (by decide +kernel) (by decide +kernel) ?_
  refine ft_goS mi_k11 3 38 [.int 5, .ref (mi_RO + 4)] (by rfl) ?_
  refine ft_ro mi_k11 (w := 3) (by decide +kernel) (by decide +kernel) ?_
  refine fo_goL mi_k11 fz11_39_2_43 [(3, .int (0 + 1)), (2, .int 3), (0, .int 5), (1, .int 2)] [] rfl ?_
  refine ko_loc (by decide : (0 + 1 : Int32) = 1) ?_
  first | refine ft_goL mi_k11 13 26 [(3, .int 1), (2, .int 3), (0, .int 5), (1, .int 2)] [.int (3 * 4), .ref (mi_RO + 3)] (by rfl) ?_ | refine ft_goS mi_k11 13 26 [.int (3 * 4), .ref (mi_RO + 3)] (by rfl) ?_
  refine ko_top (by decide : (3 * 4 : Int32) = 12) ?_
  refine fo_goS mi_k11 fz11_26_2_28 [.int (12 + 2), .ref (mi_RO + 3)] rfl ?_
  refine ko_top (by decide : (12 + 2 : Int32) = 14) ?_
  refine ft_ro mi_k11 (w := 40) (by decide +kernel) (by decide +kernel) ?_
  refine fo_goS mi_k11 fz11_29_2_33 [.int 3] rfl ?_
  exact ft_ret mi_k11 (by rfl) (hP 3 (oz1421 kn3))
noncomputable def w14_94_l12_K5 : kW := ([], [], [], [])
set_option maxRecDepth 100000 in
theorem kc14_94_l12_K5 {i : Nat → Int32} {a : Nat → List Int32} {q : Nat → List Int64} {r : Nat → Nat} (hI : kI i a q) (hr : kr r) (x1 : Int32) (x3 : Int32) (x4 : Int32) (hp0 : ((0 : Int) ≤ x1.toInt) ∧ (x1.toInt ≤ 49)) (hp1 : ((a 95).getD x1.toNatClampNeg 0).toInt = 5) (hp2 : ((0 : Int) ≤ x4.toInt) ∧ ((x4.toInt + 0) ≤ 39)) (hp3 : ((0 : Int) ≤ (i 6019).toInt) ∧ (((i 6019).toInt + 0) ≤ 900)) : km 1 14 [.ref 94, .int x1, .int 2, .int x3, .int x4] (ks i a q r) (kVI w14_94_l12_K5 i a q r (fun v i1 a1 q1 r1 => (i1 6019).toInt = ((i 6019).toInt + 0))) := by
  have hG := kG_self w14_94_l12_K5 hI hr
  refine km_ofI (q := (mi_h14, mi_c14)) rfl (by decide) (Nat.le_of_ble_eq_true rfl) ?_
  intro P hP
  have r1 : ((0 : Int) ≤ ((a 95).getD x1.toNatClampNeg 0).toInt) ∧ (((a 95).getD x1.toNatClampNeg 0).toInt ≤ 7) := hG.I.2.2.1 95 (x1.toNatClampNeg)
  refine fo_goL mi_k14 fz14_0_3_5 [(0, .ref 94), (1, .int x1), (2, .int 2), (3, .int x3), (4, .int x4)] [.int x1, .ref 95] rfl ?_
  refine ko_iald3 mi_k14.1 (n := 50) (c := 50) (ax := (0, 0, 0, 0, 0)) (mi_k14.2 _ _ (by rfl)) (by rfl) (ksG95 _ _ _ _) (hG.I.2.1 95) rfl (oz3 hp0.1) (oz1336 hp0.2) ?_
  refine ko_top (kj_eq (oz1470 hp1) (by decide) : ((a 95).getD x1.toNatClampNeg 0) = 5) ?_
  refine ft_goL mi_k14 6 57 [(5, .int 5), (0, .ref 94), (1, .int x1), (2, .int 2), (3, .int x3), (4, .int x4)] [.int (x3 ^^^ x1)] (by rfl) ?_
  exact ft_ret mi_k14 (by rfl) (hP (x3 ^^^ x1) _ _ _ _ hG oz1338)
noncomputable def w13_94_l12_l22_K5 : kW := ([6019], [96], [], [])
set_option maxRecDepth 100000 in
theorem kc13_94_l12_l22_K5 {i : Nat → Int32} {a : Nat → List Int32} {q : Nat → List Int64} {r : Nat → Nat} (hI : kI i a q) (hr : kr r) (x1 : Int32) (x4 : Int32) (x5 : Int32) (hp0 : ((0 : Int) ≤ x1.toInt) ∧ (x1.toInt ≤ 49)) (hp1 : ((a 95).getD x1.toNatClampNeg 0).toInt = 5) (hp2 : ((0 : Int) ≤ x5.toInt) ∧ ((x5.toInt + 1) ≤ 39)) (hp3 : ((0 : Int) ≤ (i 6019).toInt) ∧ (((i 6019).toInt + 1) ≤ 900)) : km 3 13 [.ref 94, .int x1, .int 2, .int 2, .int x4, .int x5] (ks i a q r) (kVI w13_94_l12_l22_K5 i a q r (fun v i1 a1 q1 r1 => (i1 6019).toInt = ((i 6019).toInt + 1))) := by
  have hG := kG_self w13_94_l12_l22_K5 hI hr
  refine km_ofI (q := (mi_h13, mi_c13)) rfl (by decide) (Nat.le_of_ble_eq_true rfl) ?_
  intro P hP
  have r1 : ((0 : Int) ≤ ((a 95).getD x1.toNatClampNeg 0).toInt) ∧ (((a 95).getD x1.toNatClampNeg 0).toInt ≤ 7) := hG.I.2.2.1 95 (x1.toNatClampNeg)
  have fi_6019 : ((0 : Int) ≤ (i 6019).toInt) ∧ ((i 6019).toInt ≤ 1000) := hG.I.1 6019
  refine fo_goL mi_k13 fz13_0_2_4 [(0, .ref 94), (1, .int x1), (2, .int 2), (3, .int 2), (4, .int x4), (5, .int x5)] [.int 40, .int x5] rfl ?_
  refine ft_ifS mi_k13 (decide (x5 < 40)) 9 7 [] (by rfl) (fun c => ?_) (fun c => ?_)
  ·
    have c2 : x5.toInt < (40 : Int32).toInt := kd_lt c; clear c
    refine fo_goS mi_k13 fz13_9_2_11 [.int 2, .int 2] rfl ?_
    refine ko_callPI mi_k13.1 (pc := 11) (ls := [(0, .ref 94), (1, .int x1), (2, .int 2), (3, .int 2), (4, .int x4), (5, .int x5)]) (st := [.int 2, .int 2]) (h := ks i a q r) (i := (.invokestatic 39, 3, 11, 0, 9, 0, 298)) (mi_k13.2 _ _ (by rfl)) (ft_invS mi_pq11 (by rfl)) (cy := mi_c11) mi_pq11 rfl (kc11_l02_l12 hG.I hG.R ) (by decide) ?_
    intro vg3 hg3
    have z4 : vg3.toInt = 0 := hg3
    have evvg3 := kj_eq (oz236 z4) (by decide : (0 : Int32).toInt = 0)
    subst evvg3
    refine ft_goL mi_k13 5 23 [(6, .int 0), (0, .ref 94), (1, .int x1), (2, .int 2), (3, .int 2), (4, .int x4), (5, .int x5)] [.int (0 * 4), .ref (mi_RO + 3)] (by rfl) ?_
    refine ko_top (by decide : (0 * 4 : Int32) = 0) ?_
    refine fo_goS mi_k13 fz13_23_2_25 [.int (0 + 2), .ref (mi_RO + 3)] rfl ?_
    refine ko_top (by decide : (0 + 2 : Int32) = 2) ?_
    refine ft_ro mi_k13 (w := 11) (by decide +kernel) (by decide +kernel) ?_
    refine fo_goL mi_k13 fz13_26_4_34 [(7, .int 11), (6, .int 0), (0, .ref 94), (1, .int x1), (2, .int 2), (3, .int 2), (4, .int x4), (5, .int x5)] [.int 24, .int (i 6019)] rfl ?_
    refine ft_ifS mi_k13 (decide (24 ≤ (i 6019))) 48 37 [] (by rfl) (fun c => ?_) (fun c => ?_)
    ·
      have c6 : (24 : Int32).toInt ≤ (i 6019).toInt := kd_le c; clear c
      have s7 : ((i 6019) + 1).toInt = (i 6019).toInt + (1 : Int32).toInt := kd_add (oz1332 c6 kn24 kn1) (oz951 fi_6019.2 kn1)
      have hJ8 := kG_i hG 6019 rfl (v := ((i 6019) + 1)) ⟨(oz1333 c6 s7 kn24 kn1), (oz1334 hp3.2 s7 kn1)⟩
      have s9 : (x5 + 1).toInt = x5.toInt + (1 : Int32).toInt := kd_add (oz12 hp2.1 kn1) (oz1335 hp2.2 kn1)
      first | refine fo_goI mi_k13 fz13_48_15_72 [.int (x5 + 1), .int x4, .int 2, .int x1, .ref 94] (ku i 6019 ((i 6019) + 1)) (by rfl) ?_ | refine ft_go mi_k13 15 72 [(7, .int 11), (6, .int 0), (0, .ref 94), (1, .int x1), (2, .int 2), (3, .int 2), (4, .int x4), (5, .int x5)] [.int (x5 + 1), .int x4, .int 2, .int x1, .ref 94] (ku i 6019 ((i 6019) + 1)) a q r (by rfl) ?_
      refine ko_callI mi_k13.1 (pc := 72) (ls := [(7, .int 11), (6, .int 0), (0, .ref 94), (1, .int x1), (2, .int 2), (3, .int 2), (4, .int x4), (5, .int x5)]) (st := [.int (x5 + 1), .int x4, .int 2, .int x1, .ref 94]) (h := ks (ku i 6019 ((i 6019) + 1)) a q r) (i := (.invokevirtual 43, 3, 14, 0, 9, 0, 301)) (mi_k13.2 _ _ (by rfl)) (ft_invS mi_pq14 (by rfl)) (cy := mi_c14) mi_pq14 rfl (kc14_94_l12_K5 hJ8.I hJ8.R x1 x4 (x5 + 1) (oz1339 hp0.1 hp0.2) (oz1470 hp1) (oz1340 hp2.1 hp2.2 s9 kn1) (oz1341 c6 hp3.2 s7 kn24 kn1)) (by decide) ?_
      intro vg10 ig10 ag10 qg10 rg10 kg10 hg10
      have hGg10 := kG_call hJ8 kg10 (by decide +kernel)
      have efig10_6019 : (ig10 6019).toInt = ((i 6019) + 1).toInt := kg10.ti 6019 rfl
      exact ft_ret mi_k13 (by rfl) (hP vg10 _ _ _ _ hGg10 (oz1342 efig10_6019 s7 kn1))
    ·
      have c12 : (i 6019).toInt < (24 : Int32).toInt := kd_leF c; clear c
      refine fo_goS mi_k13 fz13_37_5_47 [.int 11, .int (i 6019), .ref 96] rfl ?_
      refine ko_iast3 mi_k13.1 (n := 24) (c := 24) (ax := (0, 0, 0, 0, 0)) (mi_k13.2 _ _ (by rfl)) (by rfl) (ksG96 _ _ _ _) (ksA96 _ _ _ _) (hG.I.2.1 96) rfl (oz3 fi_6019.1) (oz1343 c12 kn24) ?_
      intro a13 ea13 fa13
      have hJ13 := kG_a3 hG 96 rfl ea13 fa13 (kd_bd _)
      have s14 : ((i 6019) + 1).toInt = (i 6019).toInt + (1 : Int32).toInt := kd_add (oz12 fi_6019.1 kn1) (oz951 fi_6019.2 kn1)
      have hJ15 := kG_i hJ13 6019 rfl (v := ((i 6019) + 1)) ⟨(oz14 fi_6019.1 s14 kn1), (oz1334 hp3.2 s14 kn1)⟩
      have s16 : (x5 + 1).toInt = x5.toInt + (1 : Int32).toInt := kd_add (oz12 hp2.1 kn1) (oz1335 hp2.2 kn1)
      first | refine fo_goI mi_k13 fz13_48_15_72 [.int (x5 + 1), .int x4, .int 2, .int x1, .ref 94] (ku i 6019 ((i 6019) + 1)) (by rfl) ?_ | refine ft_go mi_k13 15 72 [(7, .int 11), (6, .int 0), (0, .ref 94), (1, .int x1), (2, .int 2), (3, .int 2), (4, .int x4), (5, .int x5)] [.int (x5 + 1), .int x4, .int 2, .int x1, .ref 94] (ku i 6019 ((i 6019) + 1)) a13 q r (by rfl) ?_
      have r17 : ((0 : Int) ≤ ((a13 95).getD x1.toNatClampNeg 0).toInt) ∧ (((a13 95).getD x1.toNatClampNeg 0).toInt ≤ 7) := hJ15.I.2.2.1 95 (x1.toNatClampNeg)
      have u18 : ((a13 95).getD x1.toNatClampNeg 0).toInt = ((a 95).getD x1.toNatClampNeg 0).toInt := congrArg (fun z : List Int32 => (z.getD x1.toNatClampNeg 0).toInt) (fa13 95 (by decide))
      refine ko_callI mi_k13.1 (pc := 72) (ls := [(7, .int 11), (6, .int 0), (0, .ref 94), (1, .int x1), (2, .int 2), (3, .int 2), (4, .int x4), (5, .int x5)]) (st := [.int (x5 + 1), .int x4, .int 2, .int x1, .ref 94]) (h := ks (ku i 6019 ((i 6019) + 1)) a13 q r) (i := (.invokevirtual 43, 3, 14, 0, 9, 0, 301)) (mi_k13.2 _ _ (by rfl)) (ft_invS mi_pq14 (by rfl)) (cy := mi_c14) mi_pq14 rfl (kc14_94_l12_K5 hJ15.I hJ15.R x1 x4 (x5 + 1) (oz1339 hp0.1 hp0.2) (oz1471 hp1 u18) (oz1340 hp2.1 hp2.2 s16 kn1) (oz1345 fi_6019.1 hp3.2 s14 kn1)) (by decide) ?_
      intro vg19 ig19 ag19 qg19 rg19 kg19 hg19
      have hGg19 := kG_call hJ15 kg19 (by decide +kernel)
      have efig19_6019 : (ig19 6019).toInt = ((i 6019) + 1).toInt := kg19.ti 6019 rfl
      exact ft_ret mi_k13 (by rfl) (hP vg19 _ _ _ _ hGg19 (oz1342 efig19_6019 s14 kn1))
  ·
    have c21 : (40 : Int32).toInt ≤ x5.toInt := kd_ltF c; clear c
    exact (oz1346 c21 hp2.2 kn40).elim
noncomputable def w13_94_l15_l22_K5 : kW := ([6019], [96], [], [])
set_option maxRecDepth 100000 in
theorem kc13_94_l15_l22_K5 {i : Nat → Int32} {a : Nat → List Int32} {q : Nat → List Int64} {r : Nat → Nat} (hI : kI i a q) (hr : kr r) (x1 : Int32) (x4 : Int32) (x5 : Int32) (hp0 : ((0 : Int) ≤ x1.toInt) ∧ (x1.toInt ≤ 49)) (hp1 : ((a 95).getD x1.toNatClampNeg 0).toInt = 5) (hp2 : ((0 : Int) ≤ x5.toInt) ∧ ((x5.toInt + 2) ≤ 39)) (hp3 : ((0 : Int) ≤ (i 6019).toInt) ∧ (((i 6019).toInt + 2) ≤ 900)) : km 5 13 [.ref 94, .int x1, .int 5, .int 2, .int x4, .int x5] (ks i a q r) (kVI w13_94_l15_l22_K5 i a q r (fun v i1 a1 q1 r1 => (i1 6019).toInt = ((i 6019).toInt + 2))) := by
  have hG := kG_self w13_94_l15_l22_K5 hI hr
  refine km_ofI (q := (mi_h13, mi_c13)) rfl (by decide) (Nat.le_of_ble_eq_true rfl) ?_
  intro P hP
  have r1 : ((0 : Int) ≤ ((a 95).getD x1.toNatClampNeg 0).toInt) ∧ (((a 95).getD x1.toNatClampNeg 0).toInt ≤ 7) := hG.I.2.2.1 95 (x1.toNatClampNeg)
  have fi_6019 : ((0 : Int) ≤ (i 6019).toInt) ∧ ((i 6019).toInt ≤ 1000) := hG.I.1 6019
  refine fo_goL mi_k13 fz13_0_2_4 [(0, .ref 94), (1, .int x1), (2, .int 5), (3, .int 2), (4, .int x4), (5, .int x5)] [.int 40, .int x5] rfl ?_
  refine ft_ifS mi_k13 (decide (x5 < 40)) 9 7 [] (by rfl) (fun c => ?_) (fun c => ?_)
  ·
    have c2 : x5.toInt < (40 : Int32).toInt := kd_lt c; clear c
    refine fo_goS mi_k13 fz13_9_2_11 [.int 2, .int 5] rfl ?_
    refine ko_callPI mi_k13.1 (pc := 11) (ls := [(0, .ref 94), (1, .int x1), (2, .int 5), (3, .int 2), (4, .int x4), (5, .int x5)]) (st := [.int 2, .int 5]) (h := ks i a q r) (i := (.invokestatic 39, 3, 11, 0, 9, 0, 298)) (mi_k13.2 _ _ (by rfl)) (ft_invS mi_pq11 (by rfl)) (cy := mi_c11) mi_pq11 rfl (kc11_l05_l12 hG.I hG.R ) (by decide) ?_
    intro vg3 hg3
    have z4 : vg3.toInt = 3 := hg3
    have evvg3 := kj_eq (oz1421 z4) (by decide : (3 : Int32).toInt = 3)
    subst evvg3
    refine ft_goL mi_k13 5 23 [(6, .int 3), (0, .ref 94), (1, .int x1), (2, .int 5), (3, .int 2), (4, .int x4), (5, .int x5)] [.int (3 * 4), .ref (mi_RO + 3)] (by rfl) ?_
    refine ko_top (by decide : (3 * 4 : Int32) = 12) ?_
    refine fo_goS mi_k13 fz13_23_2_25 [.int (12 + 2), .ref (mi_RO + 3)] rfl ?_
    refine ko_top (by decide : (12 + 2 : Int32) = 14) ?_
    refine ft_ro mi_k13 (w := 40) (by decide +kernel) (by decide +kernel) ?_
    refine fo_goL mi_k13 fz13_26_4_34 [(7, .int 40), (6, .int 3), (0, .ref 94), (1, .int x1), (2, .int 5), (3, .int 2), (4, .int x4), (5, .int x5)] [.int 24, .int (i 6019)] rfl ?_
    refine ft_ifS mi_k13 (decide (24 ≤ (i 6019))) 48 37 [] (by rfl) (fun c => ?_) (fun c => ?_)
    ·
      have c6 : (24 : Int32).toInt ≤ (i 6019).toInt := kd_le c; clear c
      have s7 : ((i 6019) + 1).toInt = (i 6019).toInt + (1 : Int32).toInt := kd_add (oz1332 c6 kn24 kn1) (oz951 fi_6019.2 kn1)
      have hJ8 := kG_i hG 6019 rfl (v := ((i 6019) + 1)) ⟨(oz1333 c6 s7 kn24 kn1), (oz1351 hp3.2 s7 kn1)⟩
      refine ft_goI mi_k13 12 83 [.int 3, .ref (mi_RO + 4), .int x1, .ref 94] (ku i 6019 ((i 6019) + 1)) (by rfl) ?_
      refine ft_ro mi_k13 (w := 2) (by decide +kernel) (by decide +kernel) ?_
      have s10 : (x5 + 1).toInt = x5.toInt + (1 : Int32).toInt := kd_add (oz12 hp2.1 kn1) (oz1352 hp2.2 kn1)
      first | refine ft_goS mi_k13 8 105 [.int (x5 + 1), .int x4, .int 2, .int 2, .int x1, .ref 94] (by rfl) ?_
      refine ko_callI mi_k13.1 (pc := 105) (ls := [(7, .int 40), (6, .int 3), (0, .ref 94), (1, .int x1), (2, .int 5), (3, .int 2), (4, .int x4), (5, .int x5)]) (st := [.int (x5 + 1), .int x4, .int 2, .int 2, .int x1, .ref 94]) (h := ks (ku i 6019 ((i 6019) + 1)) a q r) (i := (.invokevirtual 35, 3, 13, 0, 9, 0, 297)) (mi_k13.2 _ _ (by rfl)) (ft_invS mi_pq13 (by rfl)) (cy := mi_c13) mi_pq13 rfl (kc13_94_l12_l22_K5 hJ8.I hJ8.R x1 x4 (x5 + 1) (oz1339 hp0.1 hp0.2) (oz1470 hp1) (oz1356 hp2.1 hp2.2 s10 kn1) (oz1357 c6 hp3.2 s7 kn24 kn1)) (by decide) ?_
      intro vg11 ig11 ag11 qg11 rg11 kg11 hg11
      have hGg11 := kG_call hJ8 kg11 (by decide +kernel)
      have z12 : (ig11 6019).toInt = (((i 6019) + 1).toInt + 1) := hg11
      have b13 : ((-2147483648 : Int) ≤ vg11.toInt) ∧ (vg11.toInt ≤ 2147483647) := kd_bd vg11
      refine ft_goL mi_k13 6 201 [(8, .int vg11), (7, .int 40), (6, .int 3), (0, .ref 94), (1, .int x1), (2, .int 5), (3, .int 2), (4, .int x4), (5, .int x5)] [.int (vg11 * 3)] (by rfl) ?_
      exact ft_ret mi_k13 (by rfl) (hP (vg11 * 3) _ _ _ _ hGg11 (oz1358 s7 z12 kn1))
    ·
      have c14 : (i 6019).toInt < (24 : Int32).toInt := kd_leF c; clear c
      refine fo_goS mi_k13 fz13_37_5_47 [.int 40, .int (i 6019), .ref 96] rfl ?_
      refine ko_iast3 mi_k13.1 (n := 24) (c := 24) (ax := (0, 0, 0, 0, 0)) (mi_k13.2 _ _ (by rfl)) (by rfl) (ksG96 _ _ _ _) (ksA96 _ _ _ _) (hG.I.2.1 96) rfl (oz3 fi_6019.1) (oz1343 c14 kn24) ?_
      intro a15 ea15 fa15
      have hJ15 := kG_a3 hG 96 rfl ea15 fa15 (kd_bd _)
      have s16 : ((i 6019) + 1).toInt = (i 6019).toInt + (1 : Int32).toInt := kd_add (oz12 fi_6019.1 kn1) (oz951 fi_6019.2 kn1)
      have hJ17 := kG_i hJ15 6019 rfl (v := ((i 6019) + 1)) ⟨(oz14 fi_6019.1 s16 kn1), (oz1351 hp3.2 s16 kn1)⟩
      refine ft_goI mi_k13 12 83 [.int 3, .ref (mi_RO + 4), .int x1, .ref 94] (ku i 6019 ((i 6019) + 1)) (by rfl) ?_
      refine ft_ro mi_k13 (w := 2) (by decide +kernel) (by decide +kernel) ?_
      have s19 : (x5 + 1).toInt = x5.toInt + (1 : Int32).toInt := kd_add (oz12 hp2.1 kn1) (oz1352 hp2.2 kn1)
      first | refine ft_goS mi_k13 8 105 [.int (x5 + 1), .int x4, .int 2, .int 2, .int x1, .ref 94] (by rfl) ?_
      have r20 : ((0 : Int) ≤ ((a15 95).getD x1.toNatClampNeg 0).toInt) ∧ (((a15 95).getD x1.toNatClampNeg 0).toInt ≤ 7) := hJ17.I.2.2.1 95 (x1.toNatClampNeg)
      have u21 : ((a15 95).getD x1.toNatClampNeg 0).toInt = ((a 95).getD x1.toNatClampNeg 0).toInt := congrArg (fun z : List Int32 => (z.getD x1.toNatClampNeg 0).toInt) (fa15 95 (by decide))
      refine ko_callI mi_k13.1 (pc := 105) (ls := [(7, .int 40), (6, .int 3), (0, .ref 94), (1, .int x1), (2, .int 5), (3, .int 2), (4, .int x4), (5, .int x5)]) (st := [.int (x5 + 1), .int x4, .int 2, .int 2, .int x1, .ref 94]) (h := ks (ku i 6019 ((i 6019) + 1)) a15 q r) (i := (.invokevirtual 35, 3, 13, 0, 9, 0, 297)) (mi_k13.2 _ _ (by rfl)) (ft_invS mi_pq13 (by rfl)) (cy := mi_c13) mi_pq13 rfl (kc13_94_l12_l22_K5 hJ17.I hJ17.R x1 x4 (x5 + 1) (oz1339 hp0.1 hp0.2) (oz1471 hp1 u21) (oz1356 hp2.1 hp2.2 s19 kn1) (oz1359 fi_6019.1 hp3.2 s16 kn1)) (by decide) ?_
      intro vg22 ig22 ag22 qg22 rg22 kg22 hg22
      have hGg22 := kG_call hJ17 kg22 (by decide +kernel)
      have z23 : (ig22 6019).toInt = (((i 6019) + 1).toInt + 1) := hg22
      have b24 : ((-2147483648 : Int) ≤ vg22.toInt) ∧ (vg22.toInt ≤ 2147483647) := kd_bd vg22
      refine ft_goL mi_k13 6 201 [(8, .int vg22), (7, .int 40), (6, .int 3), (0, .ref 94), (1, .int x1), (2, .int 5), (3, .int 2), (4, .int x4), (5, .int x5)] [.int (vg22 * 3)] (by rfl) ?_
      exact ft_ret mi_k13 (by rfl) (hP (vg22 * 3) _ _ _ _ hGg22 (oz1358 s16 z23 kn1))
  ·
    have c25 : (40 : Int32).toInt ≤ x5.toInt := kd_ltF c; clear c
    exact (oz1360 c25 hp2.2 kn40).elim
set_option maxRecDepth 100000 in
theorem kc11_l05_l13 {i : Nat → Int32} {a : Nat → List Int32} {q : Nat → List Int64} {r : Nat → Nat} (hI : kI i a q) (hr : kr r)  : km 1 11 [.int 5, .int 3] (ks i a q r) (kPI (ks i a q r) (fun v => v.toInt = 5)) := by
  have hG := kG_self kW0 hI hr
  refine km_ofPI (q := (mi_h11, mi_c11)) rfl (by decide) (Nat.le_of_ble_eq_true rfl) ?_
  intro P hP
  first | refine ft_goL mi_k11 16 26 [(3, .int 0), (2, .int 5), (0, .int 5), (1, .int 3)] [.int (5 * 4), .ref (mi_RO + 3)] (by rfl) ?_
  refine ko_top (by decide : (5 * 4 : Int32) = 20) ?_
  refine fo_goS mi_k11 fz11_26_2_28 [.int (20 + 3), .ref (mi_RO + 3)] rfl ?_
  refine ko_top (by decide : (20 + 3 : Int32) = 23) ?_
  refine ft_ro mi_k11 (w := 60) (by decide +kernel) (by decide +kernel) ?_
  refine fo_goS mi_k11 fz11_29_2_33 [.int 5] rfl ?_
  exact ft_ret mi_k11 (by rfl) (hP 5 (oz1470 kn5))
end
section
theorem oz1478 {a0 a1 : Int} (h0 : (a0 + 6) ≤ 39) (h1 : a1 = 1) : a0 + a1 ≤ 2147483647 := by omega
theorem oz1479 {a0 a1 a2 : Int} (h0 : (0 : Int) ≤ a0) (h1 : (a0 + 6) ≤ 39) (h2 : a1 = a0 + a2) (h3 : a2 = 1) : ((0 : Int) ≤ a1) ∧ ((a1 + 5) ≤ 39) := by omega
theorem oz1480 {a0 a1 : Int} (h0 : a0 ≤ a1) (h1 : (a1 + 6) ≤ 39) (h2 : a0 = 40) : False := by omega
theorem oz1481 {a0 : Int} (h0 : a0 = 0) : ((0 : Int) ≤ a0) ∧ ((a0 + 6) ≤ 39) := by omega
theorem oz1484 {a0 : Int} (h0 : a0 = 6) : a0 = 6 := by omega
theorem oz1485 {a0 : Int} (h0 : a0 = 6) : a0 < 8 := by omega
theorem oz1486 {a0 a1 : Int} (h0 : a0 = 6) (h1 : a1 = a0) : a1 = 6 := by omega
theorem oz1494 {a0 : Int} (h0 : a0 = 7) : a0 < 8 := by omega
theorem oz1495 {a0 : Int} (h0 : a0 = 7) (h1 : a0 ≤ 7) : a0 = 7 := by omega
theorem oz1496 {a0 a1 : Int} (h0 : a0 = 7) (h1 : a1 ≤ 7) (h2 : a1 = a0) : a1 = 7 := by omega
theorem oz1497 {a0 : Int} (h0 : a0 ≤ 7) (h1 : a0 = 7) : a0 = 7 := by omega
theorem oz1500 {a0 : Int} (h0 : a0 = 7) : a0 = 7 := by omega
theorem oz1501 {a0 a1 a2 a3 : Int} (h0 : a0 ≤ a1) (h1 : (a1 + 8) ≤ 900) (h2 : a2 = a1 + a3) (h3 : a0 = 24) (h4 : a3 = 1) : ((0 : Int) ≤ a2) ∧ ((a2 + 3) ≤ 900) := by omega
theorem oz1504 {a0 a1 a2 : Int} (h0 : a0 = 7) (h1 : a1 ≤ 7) (h2 : a2 = a0) (h3 : a1 = a2) : a1 = 7 := by omega
theorem oz1505 {a0 a1 a2 a3 a4 : Int} (h0 : a0 ≤ a1) (h1 : (a1 + 8) ≤ 900) (h2 : a2 = a1 + a3) (h3 : a4 = (a2 + 3)) (h4 : a0 = 24) (h5 : a3 = 1) : ((0 : Int) ≤ a4) ∧ ((a4 + 4) ≤ 900) := by omega
theorem oz1506 {a0 a1 a2 a3 a4 : Int} (h0 : a0 = a1 + a2) (h1 : a3 = (a0 + 3)) (h2 : a4 = (a3 + 4)) (h3 : a2 = 1) : a4 = (a1 + 8) := by omega
theorem oz1507 {a0 a1 a2 : Int} (h0 : (0 : Int) ≤ a0) (h1 : (a0 + 8) ≤ 900) (h2 : a1 = a0 + a2) (h3 : a2 = 1) : ((0 : Int) ≤ a1) ∧ ((a1 + 3) ≤ 900) := by omega
theorem oz1508 {a0 a1 a2 a3 : Int} (h0 : (0 : Int) ≤ a0) (h1 : (a1 + 8) ≤ 900) (h2 : a2 = a1 + a3) (h3 : a0 = (a2 + 3)) (h4 : a3 = 1) : ((0 : Int) ≤ a0) ∧ ((a0 + 4) ≤ 900) := by omega
theorem oz1511 {a0 a1 a2 : Int} (h0 : (a0 + 14) ≤ 900) (h1 : a1 = a0 + a2) (h2 : a2 = 1) : a1 ≤ 1000 := by omega
theorem oz1512 {a0 a1 a2 : Int} (h0 : (a0 + 13) ≤ 900) (h1 : a1 = a0 + a2) (h2 : a2 = 1) : a1 ≤ 1000 := by omega
theorem oz1513 {a0 : Int} (h0 : (0 : Int) ≤ a0) (h1 : (a0 + 12) ≤ 900) : ((0 : Int) ≤ a0) ∧ ((a0 + 8) ≤ 900) := by omega
theorem oz1514 {a0 : Int} (h0 : (0 : Int) ≤ a0) (h1 : (a0 + 4) ≤ 39) : ((0 : Int) ≤ a0) ∧ ((a0 + 3) ≤ 39) := by omega
theorem oz1515 {a0 a1 : Int} (h0 : (0 : Int) ≤ a0) (h1 : (a1 + 12) ≤ 900) (h2 : a0 = (a1 + 8)) : ((0 : Int) ≤ a0) ∧ ((a0 + 4) ≤ 900) := by omega
theorem oz1516 {a0 a1 a2 : Int} (h0 : a0 = (a1 + 8)) (h1 : a2 = (a0 + 4)) : a2 = (a1 + 12) := by omega
theorem oz1517 {a0 a1 a2 a3 : Int} (h0 : a0 ≤ a1) (h1 : (a1 + 13) ≤ 900) (h2 : a2 = a1 + a3) (h3 : a0 = 24) (h4 : a3 = 1) : ((0 : Int) ≤ a2) ∧ ((a2 + 12) ≤ 900) := by omega
theorem oz1518 {a0 a1 a2 a3 : Int} (h0 : a0 = a1 + a2) (h1 : a3 = (a0 + 12)) (h2 : a2 = 1) : a3 = (a1 + 13) := by omega
theorem oz1519 {a0 a1 a2 : Int} (h0 : (0 : Int) ≤ a0) (h1 : (a0 + 13) ≤ 900) (h2 : a1 = a0 + a2) (h3 : a2 = 1) : ((0 : Int) ≤ a1) ∧ ((a1 + 12) ≤ 900) := by omega
theorem oz1520 {a0 a1 a2 a3 : Int} (h0 : a0 ≤ a1) (h1 : (a1 + 14) ≤ 900) (h2 : a2 = a1 + a3) (h3 : a0 = 24) (h4 : a3 = 1) : ((0 : Int) ≤ a2) ∧ ((a2 + 13) ≤ 900) := by omega
theorem oz1521 {a0 a1 a2 a3 : Int} (h0 : a0 = a1 + a2) (h1 : a3 = (a0 + 13)) (h2 : a2 = 1) : a3 = (a1 + 14) := by omega
theorem oz1522 {a0 a1 a2 : Int} (h0 : (0 : Int) ≤ a0) (h1 : (a0 + 14) ≤ 900) (h2 : a1 = a0 + a2) (h3 : a2 = 1) : ((0 : Int) ≤ a1) ∧ ((a1 + 13) ≤ 900) := by omega
theorem oz1523 {a0 : Int} (h0 : a0 = 0) : ((0 : Int) ≤ a0) ∧ ((a0 + 14) ≤ 900) := by omega
theorem oz1524 {a0 : Int} (h0 : (0 : Int) ≤ a0) (h1 : a0 ≤ 7) (h2 : ¬ (a0 = 1)) (h3 : ¬ (a0 = 2)) (h4 : ¬ (a0 = 3)) (h5 : ¬ (a0 = 4)) (h6 : ¬ (a0 = 5)) (h7 : ¬ (a0 = 0)) (h8 : ¬ (a0 = 6)) (h9 : ¬ (a0 = 7)) : False := by omega
theorem oz1525 {a0 a1 a2 a3 : Int} (h0 : a0 ≤ 50) (h1 : a1 = a0 - a2) (h2 : a3 ≤ a1) (h3 : a2 = 1) : a3 < 50 := by omega
theorem oz1526 {a0 a1 a2 : Int} (h0 : a0 ≤ 999) (h1 : a1 = a0 + a2) (h2 : a2 = 1) : a1 ≤ 1000 := by omega
theorem oz1527 {a0 : Int} (h0 : (0 : Int) ≤ a0) (h1 : (a0 + 4) ≤ 900) : ((0 : Int) ≤ a0) ∧ (a0 ≤ 999) := by omega
theorem oz1528 {a0 : Int} (h0 : (0 : Int) ≤ a0) (h1 : (a0 + 2) ≤ 900) : ((0 : Int) ≤ a0) ∧ (a0 ≤ 999) := by omega
theorem oz1529 {a0 : Int} (h0 : (0 : Int) ≤ a0) (h1 : (a0 + 1) ≤ 900) : ((0 : Int) ≤ a0) ∧ (a0 ≤ 999) := by omega
theorem oz1530 {a0 a1 : Int} (h0 : (0 : Int) ≤ a0) (h1 : (a1 + 2) ≤ 900) (h2 : a0 = (a1 + 1)) : ((0 : Int) ≤ a0) ∧ ((a0 + 1) ≤ 900) := by omega
theorem oz1531 {a0 a1 a2 : Int} (h0 : a0 = (a1 + 1)) (h1 : a2 = (a0 + 1)) : a2 = (a1 + 2) := by omega
theorem oz1532 {a0 a1 : Int} (h0 : (0 : Int) ≤ a0) (h1 : (a1 + 4) ≤ 900) (h2 : a0 = (a1 + 1)) : ((0 : Int) ≤ a0) ∧ ((a0 + 2) ≤ 900) := by omega
theorem oz1533 {a0 a1 a2 : Int} (h0 : a0 = 0) (h1 : (0 : Int) ≤ a1) (h2 : a2 = a0) (h3 : a1 = a2) : a1 = 0 := by omega
theorem oz1534 {a0 a1 a2 : Int} (h0 : (0 : Int) ≤ a0) (h1 : (a1 + 4) ≤ 900) (h2 : a2 = (a1 + 1)) (h3 : a0 = (a2 + 2)) : ((0 : Int) ≤ a0) ∧ ((a0 + 1) ≤ 900) := by omega
theorem oz1535 {a0 a1 a2 a3 : Int} (h0 : a0 = (a1 + 1)) (h1 : a2 = (a3 + 1)) (h2 : a1 = (a2 + 2)) : a0 = (a3 + 4) := by omega
theorem oz1536 {a0 a1 a2 a3 a4 : Int} (h0 : a0 ≤ 50) (h1 : a1 = a0 - a2) (h2 : a3 ≤ a4) (h3 : a4 ≤ a1) (h4 : a2 = 1) (h5 : a3 = 0) : ((0 : Int) ≤ a4) ∧ (a4 ≤ 49) := by omega
theorem oz1537 {a0 : Int} (h0 : (0 : Int) ≤ a0) (h1 : (a0 + 5) ≤ 900) : ((0 : Int) ≤ a0) ∧ (a0 ≤ 999) := by omega
theorem oz1538 {a0 : Int} (h0 : (0 : Int) ≤ a0) (h1 : (a0 + 3) ≤ 900) : ((0 : Int) ≤ a0) ∧ (a0 ≤ 999) := by omega
theorem oz1539 {a0 a1 : Int} (h0 : (0 : Int) ≤ a0) (h1 : (a1 + 3) ≤ 900) (h2 : a0 = (a1 + 1)) : ((0 : Int) ≤ a0) ∧ ((a0 + 2) ≤ 900) := by omega
theorem oz1540 {a0 a1 a2 : Int} (h0 : a0 = (a1 + 1)) (h1 : a2 = (a0 + 2)) : a2 = (a1 + 3) := by omega
theorem oz1541 {a0 : Int} (h0 : (0 : Int) ≤ a0) (h1 : (a0 + 3) ≤ 900) : ((0 : Int) ≤ a0) ∧ ((a0 + 3) ≤ 900) := by omega
theorem oz1542 {a0 a1 : Int} (h0 : a0 = (a1 + 3)) : a0 = (a1 + 3) := by omega
theorem oz1543 {a0 a1 : Int} (h0 : (0 : Int) ≤ a0) (h1 : (a1 + 5) ≤ 900) (h2 : a0 = (a1 + 1)) : ((0 : Int) ≤ a0) ∧ ((a0 + 3) ≤ 900) := by omega
theorem oz1544 {a0 a1 a2 : Int} (h0 : a0 = 1) (h1 : a1 = a0) (h2 : a2 = a1) : a2 = 1 := by omega
theorem oz1545 {a0 a1 a2 : Int} (h0 : (0 : Int) ≤ a0) (h1 : (a1 + 5) ≤ 900) (h2 : a2 = (a1 + 1)) (h3 : a0 = (a2 + 3)) : ((0 : Int) ≤ a0) ∧ ((a0 + 1) ≤ 900) := by omega
theorem oz1546 {a0 a1 a2 a3 : Int} (h0 : a0 = (a1 + 1)) (h1 : a2 = (a3 + 1)) (h2 : a1 = (a2 + 3)) : a0 = (a3 + 5) := by omega
theorem oz1547 {a0 : Int} (h0 : (0 : Int) ≤ a0) (h1 : (a0 + 5) ≤ 900) : ((0 : Int) ≤ a0) ∧ ((a0 + 5) ≤ 900) := by omega
theorem oz1548 {a0 a1 : Int} (h0 : a0 = (a1 + 5)) : a0 = (a1 + 5) := by omega
noncomputable def w14_94_l13_K5 : kW := ([6019], [96], [], [])
set_option maxRecDepth 100000 in
theorem kc14_94_l13_K5 {i : Nat → Int32} {a : Nat → List Int32} {q : Nat → List Int64} {r : Nat → Nat} (hI : kI i a q) (hr : kr r) (x1 : Int32) (x3 : Int32) (x4 : Int32) (hp0 : ((0 : Int) ≤ x1.toInt) ∧ (x1.toInt ≤ 49)) (hp1 : ((a 95).getD x1.toNatClampNeg 0).toInt = 5) (hp2 : ((0 : Int) ≤ x4.toInt) ∧ ((x4.toInt + 4) ≤ 39)) (hp3 : ((0 : Int) ≤ (i 6019).toInt) ∧ (((i 6019).toInt + 6) ≤ 900)) : km 13 14 [.ref 94, .int x1, .int 3, .int x3, .int x4] (ks i a q r) (kVI w14_94_l13_K5 i a q r (fun v i1 a1 q1 r1 => (i1 6019).toInt = ((i 6019).toInt + 6))) := by
  have hG := kG_self w14_94_l13_K5 hI hr
  refine km_ofI (q := (mi_h14, mi_c14)) rfl (by decide) (Nat.le_of_ble_eq_true rfl) ?_
  intro P hP
  have r1 : ((0 : Int) ≤ ((a 95).getD x1.toNatClampNeg 0).toInt) ∧ (((a 95).getD x1.toNatClampNeg 0).toInt ≤ 7) := hG.I.2.2.1 95 (x1.toNatClampNeg)
  have fi_6019 : ((0 : Int) ≤ (i 6019).toInt) ∧ ((i 6019).toInt ≤ 1000) := hG.I.1 6019
  refine fo_goL mi_k14 fz14_0_3_5 [(0, .ref 94), (1, .int x1), (2, .int 3), (3, .int x3), (4, .int x4)] [.int x1, .ref 95] rfl ?_
  refine ko_iald3 mi_k14.1 (n := 50) (c := 50) (ax := (0, 0, 0, 0, 0)) (mi_k14.2 _ _ (by rfl)) (by rfl) (ksG95 _ _ _ _) (hG.I.2.1 95) rfl (oz3 hp0.1) (oz1336 hp0.2) ?_
  refine ko_top (kj_eq (oz1470 hp1) (by decide) : ((a 95).getD x1.toNatClampNeg 0) = 5) ?_
  refine ft_goL mi_k14 9 66 [(5, .int 5), (0, .ref 94), (1, .int x1), (2, .int 3), (3, .int x3), (4, .int x4)] [.int x4, .int x3, .int 1, .int 5, .int x1, .ref 94] (by rfl) ?_
  refine ko_callI mi_k14.1 (pc := 66) (ls := [(5, .int 5), (0, .ref 94), (1, .int x1), (2, .int 3), (3, .int x3), (4, .int x4)]) (st := [.int x4, .int x3, .int 1, .int 5, .int x1, .ref 94]) (h := ks i a q r) (i := (.invokevirtual 35, 3, 13, 0, 9, 0, 297)) (mi_k14.2 _ _ (by rfl)) (ft_invS mi_pq13 (by rfl)) (cy := mi_c13) mi_pq13 rfl (kc13_94_l15_l21_K5 hG.I hG.R x1 x3 x4 (oz1339 hp0.1 hp0.2) (oz1470 hp1) (oz1431 hp2.1 hp2.2) (oz1432 fi_6019.1 hp3.2)) (by decide) ?_
  intro vg2 ig2 ag2 qg2 rg2 kg2 hg2
  have hGg2 := kG_call hG kg2 (by decide +kernel)
  have fig2_6019 : ((0 : Int) ≤ (ig2 6019).toInt) ∧ ((ig2 6019).toInt ≤ 1000) := hGg2.I.1 6019
  have z3 : (ig2 6019).toInt = ((i 6019).toInt + 4) := hg2
  refine fo_goL mi_k14 fz14_69_8_81 [(6, .int vg2), (5, .int 5), (0, .ref 94), (1, .int x1), (2, .int 3), (3, .int x3), (4, .int x4)] [.int x4, .int 1, .int 2, .int 5, .int x1, .ref 94, .int vg2] rfl ?_
  have r4 : ((0 : Int) ≤ ((ag2 95).getD x1.toNatClampNeg 0).toInt) ∧ (((ag2 95).getD x1.toNatClampNeg 0).toInt ≤ 7) := hGg2.I.2.2.1 95 (x1.toNatClampNeg)
  have u5 : ((ag2 95).getD x1.toNatClampNeg 0).toInt = ((a 95).getD x1.toNatClampNeg 0).toInt := congrArg (fun z : List Int32 => (z.getD x1.toNatClampNeg 0).toInt) (kg2.fa 95 rfl)
  refine ko_callI mi_k14.1 (pc := 81) (ls := [(6, .int vg2), (5, .int 5), (0, .ref 94), (1, .int x1), (2, .int 3), (3, .int x3), (4, .int x4)]) (st := [.int x4, .int 1, .int 2, .int 5, .int x1, .ref 94, .int vg2]) (h := ks ig2 ag2 qg2 rg2) (i := (.invokevirtual 35, 3, 13, 0, 9, 0, 297)) (mi_k14.2 _ _ (by rfl)) (ft_invS mi_pq13 (by rfl)) (cy := mi_c13) mi_pq13 rfl (kc13_94_l15_l22_K5 hGg2.I hGg2.R x1 1 x4 (oz1339 hp0.1 hp0.2) (oz1471 hp1 u5) (oz1433 hp2.1 hp2.2) (oz1434 fig2_6019.1 hp3.2 z3)) (by decide) ?_
  intro vg6 ig6 ag6 qg6 rg6 kg6 hg6
  have hGg6 := kG_call hGg2 kg6 (by decide +kernel)
  have z7 : (ig6 6019).toInt = ((ig2 6019).toInt + 2) := hg6
  have b8 : ((-2147483648 : Int) ≤ vg2.toInt) ∧ (vg2.toInt ≤ 2147483647) := kd_bd vg2
  have b9 : ((-2147483648 : Int) ≤ vg6.toInt) ∧ (vg6.toInt ≤ 2147483647) := kd_bd vg6
  refine fo_goS mi_k14 fz14_84_1_85 [.int (vg2 - vg6)] rfl ?_
  exact ft_ret mi_k14 (by rfl) (hP (vg2 - vg6) _ _ _ _ hGg6 (oz1435 z3 z7))
noncomputable def w13_94_l13_l23_K5 : kW := ([6019], [96], [], [])
set_option maxRecDepth 100000 in
theorem kc13_94_l13_l23_K5 {i : Nat → Int32} {a : Nat → List Int32} {q : Nat → List Int64} {r : Nat → Nat} (hI : kI i a q) (hr : kr r) (x1 : Int32) (x4 : Int32) (x5 : Int32) (hp0 : ((0 : Int) ≤ x1.toInt) ∧ (x1.toInt ≤ 49)) (hp1 : ((a 95).getD x1.toNatClampNeg 0).toInt = 5) (hp2 : ((0 : Int) ≤ x5.toInt) ∧ ((x5.toInt + 5) ≤ 39)) (hp3 : ((0 : Int) ≤ (i 6019).toInt) ∧ (((i 6019).toInt + 7) ≤ 900)) : km 15 13 [.ref 94, .int x1, .int 3, .int 3, .int x4, .int x5] (ks i a q r) (kVI w13_94_l13_l23_K5 i a q r (fun v i1 a1 q1 r1 => (i1 6019).toInt = ((i 6019).toInt + 7))) := by
  have hG := kG_self w13_94_l13_l23_K5 hI hr
  refine km_ofI (q := (mi_h13, mi_c13)) rfl (by decide) (Nat.le_of_ble_eq_true rfl) ?_
  intro P hP
  have r1 : ((0 : Int) ≤ ((a 95).getD x1.toNatClampNeg 0).toInt) ∧ (((a 95).getD x1.toNatClampNeg 0).toInt ≤ 7) := hG.I.2.2.1 95 (x1.toNatClampNeg)
  have fi_6019 : ((0 : Int) ≤ (i 6019).toInt) ∧ ((i 6019).toInt ≤ 1000) := hG.I.1 6019
  refine fo_goL mi_k13 fz13_0_2_4 [(0, .ref 94), (1, .int x1), (2, .int 3), (3, .int 3), (4, .int x4), (5, .int x5)] [.int 40, .int x5] rfl ?_
  refine ft_ifS mi_k13 (decide (x5 < 40)) 9 7 [] (by rfl) (fun c => ?_) (fun c => ?_)
  ·
    have c2 : x5.toInt < (40 : Int32).toInt := kd_lt c; clear c
    refine fo_goS mi_k13 fz13_9_2_11 [.int 3, .int 3] rfl ?_
    refine ko_callPI mi_k13.1 (pc := 11) (ls := [(0, .ref 94), (1, .int x1), (2, .int 3), (3, .int 3), (4, .int x4), (5, .int x5)]) (st := [.int 3, .int 3]) (h := ks i a q r) (i := (.invokestatic 39, 3, 11, 0, 9, 0, 298)) (mi_k13.2 _ _ (by rfl)) (ft_invS mi_pq11 (by rfl)) (cy := mi_c11) mi_pq11 rfl (kc11_l03_l13 hG.I hG.R ) (by decide) ?_
    intro vg3 hg3
    have z4 : vg3.toInt = 0 := hg3
    have evvg3 := kj_eq (oz236 z4) (by decide : (0 : Int32).toInt = 0)
    subst evvg3
    refine ft_goL mi_k13 5 23 [(6, .int 0), (0, .ref 94), (1, .int x1), (2, .int 3), (3, .int 3), (4, .int x4), (5, .int x5)] [.int (0 * 4), .ref (mi_RO + 3)] (by rfl) ?_
    refine ko_top (by decide : (0 * 4 : Int32) = 0) ?_
    refine fo_goS mi_k13 fz13_23_2_25 [.int (0 + 3), .ref (mi_RO + 3)] rfl ?_
    refine ko_top (by decide : (0 + 3 : Int32) = 3) ?_
    refine ft_ro mi_k13 (w := 2) (by decide +kernel) (by decide +kernel) ?_
    refine fo_goL mi_k13 fz13_26_4_34 [(7, .int 2), (6, .int 0), (0, .ref 94), (1, .int x1), (2, .int 3), (3, .int 3), (4, .int x4), (5, .int x5)] [.int 24, .int (i 6019)] rfl ?_
    refine ft_ifS mi_k13 (decide (24 ≤ (i 6019))) 48 37 [] (by rfl) (fun c => ?_) (fun c => ?_)
    ·
      have c6 : (24 : Int32).toInt ≤ (i 6019).toInt := kd_le c; clear c
      have s7 : ((i 6019) + 1).toInt = (i 6019).toInt + (1 : Int32).toInt := kd_add (oz1332 c6 kn24 kn1) (oz951 fi_6019.2 kn1)
      have hJ8 := kG_i hG 6019 rfl (v := ((i 6019) + 1)) ⟨(oz1333 c6 s7 kn24 kn1), (oz1429 hp3.2 s7 kn1)⟩
      have s9 : (x5 + 1).toInt = x5.toInt + (1 : Int32).toInt := kd_add (oz12 hp2.1 kn1) (oz1430 hp2.2 kn1)
      first | refine fo_goI mi_k13 fz13_48_15_72 [.int (x5 + 1), .int x4, .int 3, .int x1, .ref 94] (ku i 6019 ((i 6019) + 1)) (by rfl) ?_ | refine ft_go mi_k13 15 72 [(7, .int 2), (6, .int 0), (0, .ref 94), (1, .int x1), (2, .int 3), (3, .int 3), (4, .int x4), (5, .int x5)] [.int (x5 + 1), .int x4, .int 3, .int x1, .ref 94] (ku i 6019 ((i 6019) + 1)) a q r (by rfl) ?_
      refine ko_callI mi_k13.1 (pc := 72) (ls := [(7, .int 2), (6, .int 0), (0, .ref 94), (1, .int x1), (2, .int 3), (3, .int 3), (4, .int x4), (5, .int x5)]) (st := [.int (x5 + 1), .int x4, .int 3, .int x1, .ref 94]) (h := ks (ku i 6019 ((i 6019) + 1)) a q r) (i := (.invokevirtual 43, 3, 14, 0, 9, 0, 301)) (mi_k13.2 _ _ (by rfl)) (ft_invS mi_pq14 (by rfl)) (cy := mi_c14) mi_pq14 rfl (kc14_94_l13_K5 hJ8.I hJ8.R x1 x4 (x5 + 1) (oz1339 hp0.1 hp0.2) (oz1470 hp1) (oz1436 hp2.1 hp2.2 s9 kn1) (oz1437 c6 hp3.2 s7 kn24 kn1)) (by decide) ?_
      intro vg10 ig10 ag10 qg10 rg10 kg10 hg10
      have hGg10 := kG_call hJ8 kg10 (by decide +kernel)
      have z11 : (ig10 6019).toInt = (((i 6019) + 1).toInt + 6) := hg10
      exact ft_ret mi_k13 (by rfl) (hP vg10 _ _ _ _ hGg10 (oz1438 s7 z11 kn1))
    ·
      have c12 : (i 6019).toInt < (24 : Int32).toInt := kd_leF c; clear c
      refine fo_goS mi_k13 fz13_37_5_47 [.int 2, .int (i 6019), .ref 96] rfl ?_
      refine ko_iast3 mi_k13.1 (n := 24) (c := 24) (ax := (0, 0, 0, 0, 0)) (mi_k13.2 _ _ (by rfl)) (by rfl) (ksG96 _ _ _ _) (ksA96 _ _ _ _) (hG.I.2.1 96) rfl (oz3 fi_6019.1) (oz1343 c12 kn24) ?_
      intro a13 ea13 fa13
      have hJ13 := kG_a3 hG 96 rfl ea13 fa13 (kd_bd _)
      have s14 : ((i 6019) + 1).toInt = (i 6019).toInt + (1 : Int32).toInt := kd_add (oz12 fi_6019.1 kn1) (oz951 fi_6019.2 kn1)
      have hJ15 := kG_i hJ13 6019 rfl (v := ((i 6019) + 1)) ⟨(oz14 fi_6019.1 s14 kn1), (oz1429 hp3.2 s14 kn1)⟩
      have s16 : (x5 + 1).toInt = x5.toInt + (1 : Int32).toInt := kd_add (oz12 hp2.1 kn1) (oz1430 hp2.2 kn1)
      first | refine fo_goI mi_k13 fz13_48_15_72 [.int (x5 + 1), .int x4, .int 3, .int x1, .ref 94] (ku i 6019 ((i 6019) + 1)) (by rfl) ?_ | refine ft_go mi_k13 15 72 [(7, .int 2), (6, .int 0), (0, .ref 94), (1, .int x1), (2, .int 3), (3, .int 3), (4, .int x4), (5, .int x5)] [.int (x5 + 1), .int x4, .int 3, .int x1, .ref 94] (ku i 6019 ((i 6019) + 1)) a13 q r (by rfl) ?_
      have r17 : ((0 : Int) ≤ ((a13 95).getD x1.toNatClampNeg 0).toInt) ∧ (((a13 95).getD x1.toNatClampNeg 0).toInt ≤ 7) := hJ15.I.2.2.1 95 (x1.toNatClampNeg)
      have u18 : ((a13 95).getD x1.toNatClampNeg 0).toInt = ((a 95).getD x1.toNatClampNeg 0).toInt := congrArg (fun z : List Int32 => (z.getD x1.toNatClampNeg 0).toInt) (fa13 95 (by decide))
      refine ko_callI mi_k13.1 (pc := 72) (ls := [(7, .int 2), (6, .int 0), (0, .ref 94), (1, .int x1), (2, .int 3), (3, .int 3), (4, .int x4), (5, .int x5)]) (st := [.int (x5 + 1), .int x4, .int 3, .int x1, .ref 94]) (h := ks (ku i 6019 ((i 6019) + 1)) a13 q r) (i := (.invokevirtual 43, 3, 14, 0, 9, 0, 301)) (mi_k13.2 _ _ (by rfl)) (ft_invS mi_pq14 (by rfl)) (cy := mi_c14) mi_pq14 rfl (kc14_94_l13_K5 hJ15.I hJ15.R x1 x4 (x5 + 1) (oz1339 hp0.1 hp0.2) (oz1471 hp1 u18) (oz1436 hp2.1 hp2.2 s16 kn1) (oz1439 fi_6019.1 hp3.2 s14 kn1)) (by decide) ?_
      intro vg19 ig19 ag19 qg19 rg19 kg19 hg19
      have hGg19 := kG_call hJ15 kg19 (by decide +kernel)
      have z20 : (ig19 6019).toInt = (((i 6019) + 1).toInt + 6) := hg19
      exact ft_ret mi_k13 (by rfl) (hP vg19 _ _ _ _ hGg19 (oz1438 s14 z20 kn1))
  ·
    have c21 : (40 : Int32).toInt ≤ x5.toInt := kd_ltF c; clear c
    exact (oz1440 c21 hp2.2 kn40).elim
noncomputable def w13_94_l15_l23_K5 : kW := ([6019], [96], [], [])
set_option maxRecDepth 100000 in
theorem kc13_94_l15_l23_K5 {i : Nat → Int32} {a : Nat → List Int32} {q : Nat → List Int64} {r : Nat → Nat} (hI : kI i a q) (hr : kr r) (x1 : Int32) (x4 : Int32) (x5 : Int32) (hp0 : ((0 : Int) ≤ x1.toInt) ∧ (x1.toInt ≤ 49)) (hp1 : ((a 95).getD x1.toNatClampNeg 0).toInt = 5) (hp2 : ((0 : Int) ≤ x5.toInt) ∧ ((x5.toInt + 6) ≤ 39)) (hp3 : ((0 : Int) ≤ (i 6019).toInt) ∧ (((i 6019).toInt + 8) ≤ 900)) : km 17 13 [.ref 94, .int x1, .int 5, .int 3, .int x4, .int x5] (ks i a q r) (kVI w13_94_l15_l23_K5 i a q r (fun v i1 a1 q1 r1 => (i1 6019).toInt = ((i 6019).toInt + 8))) := by
  have hG := kG_self w13_94_l15_l23_K5 hI hr
  refine km_ofI (q := (mi_h13, mi_c13)) rfl (by decide) (Nat.le_of_ble_eq_true rfl) ?_
  intro P hP
  have r1 : ((0 : Int) ≤ ((a 95).getD x1.toNatClampNeg 0).toInt) ∧ (((a 95).getD x1.toNatClampNeg 0).toInt ≤ 7) := hG.I.2.2.1 95 (x1.toNatClampNeg)
  have fi_6019 : ((0 : Int) ≤ (i 6019).toInt) ∧ ((i 6019).toInt ≤ 1000) := hG.I.1 6019
  refine fo_goL mi_k13 fz13_0_2_4 [(0, .ref 94), (1, .int x1), (2, .int 5), (3, .int 3), (4, .int x4), (5, .int x5)] [.int 40, .int x5] rfl ?_
  refine ft_ifS mi_k13 (decide (x5 < 40)) 9 7 [] (by rfl) (fun c => ?_) (fun c => ?_)
  ·
    have c2 : x5.toInt < (40 : Int32).toInt := kd_lt c; clear c
    refine fo_goS mi_k13 fz13_9_2_11 [.int 3, .int 5] rfl ?_
    refine ko_callPI mi_k13.1 (pc := 11) (ls := [(0, .ref 94), (1, .int x1), (2, .int 5), (3, .int 3), (4, .int x4), (5, .int x5)]) (st := [.int 3, .int 5]) (h := ks i a q r) (i := (.invokestatic 39, 3, 11, 0, 9, 0, 298)) (mi_k13.2 _ _ (by rfl)) (ft_invS mi_pq11 (by rfl)) (cy := mi_c11) mi_pq11 rfl (kc11_l05_l13 hG.I hG.R ) (by decide) ?_
    intro vg3 hg3
    have z4 : vg3.toInt = 5 := hg3
    have evvg3 := kj_eq (oz1470 z4) (by decide : (5 : Int32).toInt = 5)
    subst evvg3
    refine ft_goL mi_k13 5 23 [(6, .int 5), (0, .ref 94), (1, .int x1), (2, .int 5), (3, .int 3), (4, .int x4), (5, .int x5)] [.int (5 * 4), .ref (mi_RO + 3)] (by rfl) ?_
    refine ko_top (by decide : (5 * 4 : Int32) = 20) ?_
    refine fo_goS mi_k13 fz13_23_2_25 [.int (20 + 3), .ref (mi_RO + 3)] rfl ?_
    refine ko_top (by decide : (20 + 3 : Int32) = 23) ?_
    refine ft_ro mi_k13 (w := 60) (by decide +kernel) (by decide +kernel) ?_
    refine fo_goL mi_k13 fz13_26_4_34 [(7, .int 60), (6, .int 5), (0, .ref 94), (1, .int x1), (2, .int 5), (3, .int 3), (4, .int x4), (5, .int x5)] [.int 24, .int (i 6019)] rfl ?_
    refine ft_ifS mi_k13 (decide (24 ≤ (i 6019))) 48 37 [] (by rfl) (fun c => ?_) (fun c => ?_)
    ·
      have c6 : (24 : Int32).toInt ≤ (i 6019).toInt := kd_le c; clear c
      have s7 : ((i 6019) + 1).toInt = (i 6019).toInt + (1 : Int32).toInt := kd_add (oz1332 c6 kn24 kn1) (oz951 fi_6019.2 kn1)
      have hJ8 := kG_i hG 6019 rfl (v := ((i 6019) + 1)) ⟨(oz1333 c6 s7 kn24 kn1), (oz1459 hp3.2 s7 kn1)⟩
      refine ft_goI mi_k13 12 83 [.int 5, .ref (mi_RO + 4), .int x1, .ref 94] (ku i 6019 ((i 6019) + 1)) (by rfl) ?_
      refine ft_ro mi_k13 (w := 3) (by decide +kernel) (by decide +kernel) ?_
      have s10 : (x5 + 1).toInt = x5.toInt + (1 : Int32).toInt := kd_add (oz12 hp2.1 kn1) (oz1478 hp2.2 kn1)
      first | refine ft_goS mi_k13 8 105 [.int (x5 + 1), .int x4, .int 3, .int 3, .int x1, .ref 94] (by rfl) ?_
      refine ko_callI mi_k13.1 (pc := 105) (ls := [(7, .int 60), (6, .int 5), (0, .ref 94), (1, .int x1), (2, .int 5), (3, .int 3), (4, .int x4), (5, .int x5)]) (st := [.int (x5 + 1), .int x4, .int 3, .int 3, .int x1, .ref 94]) (h := ks (ku i 6019 ((i 6019) + 1)) a q r) (i := (.invokevirtual 35, 3, 13, 0, 9, 0, 297)) (mi_k13.2 _ _ (by rfl)) (ft_invS mi_pq13 (by rfl)) (cy := mi_c13) mi_pq13 rfl (kc13_94_l13_l23_K5 hJ8.I hJ8.R x1 x4 (x5 + 1) (oz1339 hp0.1 hp0.2) (oz1470 hp1) (oz1479 hp2.1 hp2.2 s10 kn1) (oz1463 c6 hp3.2 s7 kn24 kn1)) (by decide) ?_
      intro vg11 ig11 ag11 qg11 rg11 kg11 hg11
      have hGg11 := kG_call hJ8 kg11 (by decide +kernel)
      have z12 : (ig11 6019).toInt = (((i 6019) + 1).toInt + 7) := hg11
      refine ft_goL mi_k13 6 227 [(8, .int vg11), (7, .int 60), (6, .int 5), (0, .ref 94), (1, .int x1), (2, .int 5), (3, .int 3), (4, .int x4), (5, .int x5)] [.int (vg11 ^^^ 5)] (by rfl) ?_
      exact ft_ret mi_k13 (by rfl) (hP (vg11 ^^^ 5) _ _ _ _ hGg11 (oz1464 s7 z12 kn1))
    ·
      have c13 : (i 6019).toInt < (24 : Int32).toInt := kd_leF c; clear c
      refine fo_goS mi_k13 fz13_37_5_47 [.int 60, .int (i 6019), .ref 96] rfl ?_
      refine ko_iast3 mi_k13.1 (n := 24) (c := 24) (ax := (0, 0, 0, 0, 0)) (mi_k13.2 _ _ (by rfl)) (by rfl) (ksG96 _ _ _ _) (ksA96 _ _ _ _) (hG.I.2.1 96) rfl (oz3 fi_6019.1) (oz1343 c13 kn24) ?_
      intro a14 ea14 fa14
      have hJ14 := kG_a3 hG 96 rfl ea14 fa14 (kd_bd _)
      have s15 : ((i 6019) + 1).toInt = (i 6019).toInt + (1 : Int32).toInt := kd_add (oz12 fi_6019.1 kn1) (oz951 fi_6019.2 kn1)
      have hJ16 := kG_i hJ14 6019 rfl (v := ((i 6019) + 1)) ⟨(oz14 fi_6019.1 s15 kn1), (oz1459 hp3.2 s15 kn1)⟩
      refine ft_goI mi_k13 12 83 [.int 5, .ref (mi_RO + 4), .int x1, .ref 94] (ku i 6019 ((i 6019) + 1)) (by rfl) ?_
      refine ft_ro mi_k13 (w := 3) (by decide +kernel) (by decide +kernel) ?_
      have s18 : (x5 + 1).toInt = x5.toInt + (1 : Int32).toInt := kd_add (oz12 hp2.1 kn1) (oz1478 hp2.2 kn1)
      first | refine ft_goS mi_k13 8 105 [.int (x5 + 1), .int x4, .int 3, .int 3, .int x1, .ref 94] (by rfl) ?_
      have r19 : ((0 : Int) ≤ ((a14 95).getD x1.toNatClampNeg 0).toInt) ∧ (((a14 95).getD x1.toNatClampNeg 0).toInt ≤ 7) := hJ16.I.2.2.1 95 (x1.toNatClampNeg)
      have u20 : ((a14 95).getD x1.toNatClampNeg 0).toInt = ((a 95).getD x1.toNatClampNeg 0).toInt := congrArg (fun z : List Int32 => (z.getD x1.toNatClampNeg 0).toInt) (fa14 95 (by decide))
      refine ko_callI mi_k13.1 (pc := 105) (ls := [(7, .int 60), (6, .int 5), (0, .ref 94), (1, .int x1), (2, .int 5), (3, .int 3), (4, .int x4), (5, .int x5)]) (st := [.int (x5 + 1), .int x4, .int 3, .int 3, .int x1, .ref 94]) (h := ks (ku i 6019 ((i 6019) + 1)) a14 q r) (i := (.invokevirtual 35, 3, 13, 0, 9, 0, 297)) (mi_k13.2 _ _ (by rfl)) (ft_invS mi_pq13 (by rfl)) (cy := mi_c13) mi_pq13 rfl (kc13_94_l13_l23_K5 hJ16.I hJ16.R x1 x4 (x5 + 1) (oz1339 hp0.1 hp0.2) (oz1471 hp1 u20) (oz1479 hp2.1 hp2.2 s18 kn1) (oz1465 fi_6019.1 hp3.2 s15 kn1)) (by decide) ?_
      intro vg21 ig21 ag21 qg21 rg21 kg21 hg21
      have hGg21 := kG_call hJ16 kg21 (by decide +kernel)
      have z22 : (ig21 6019).toInt = (((i 6019) + 1).toInt + 7) := hg21
      refine ft_goL mi_k13 6 227 [(8, .int vg21), (7, .int 60), (6, .int 5), (0, .ref 94), (1, .int x1), (2, .int 5), (3, .int 3), (4, .int x4), (5, .int x5)] [.int (vg21 ^^^ 5)] (by rfl) ?_
      exact ft_ret mi_k13 (by rfl) (hP (vg21 ^^^ 5) _ _ _ _ hGg21 (oz1464 s15 z22 kn1))
  ·
    have c23 : (40 : Int32).toInt ≤ x5.toInt := kd_ltF c; clear c
    exact (oz1480 c23 hp2.2 kn40).elim
set_option maxRecDepth 100000 in
theorem kc11_l06_l10 {i : Nat → Int32} {a : Nat → List Int32} {q : Nat → List Int64} {r : Nat → Nat} (hI : kI i a q) (hr : kr r)  : km 1 11 [.int 6, .int 0] (ks i a q r) (kPI (ks i a q r) (fun v => v.toInt = 6)) := by
  have hG := kG_self kW0 hI hr
  refine km_ofPI (q := (mi_h11, mi_c11)) rfl (by decide) (Nat.le_of_ble_eq_true rfl) ?_
  intro P hP
  first | refine ft_goL mi_k11 16 26 [(3, .int 0), (2, .int 6), (0, .int 6), (1, .int 0)] [.int (6 * 4), .ref (mi_RO + 3)] (by rfl) ?_
  refine ko_top (by decide : (6 * 4 : Int32) = 24) ?_
  refine fo_goS mi_k11 fz11_26_2_28 [.int (24 + 0), .ref (mi_RO + 3)] rfl ?_
  refine ko_top (by decide : (24 + 0 : Int32) = 24) ?_
  refine ft_ro mi_k11 (w := 70) (by decide +kernel) (by decide +kernel) ?_
  refine fo_goS mi_k11 fz11_29_2_33 [.int 6] rfl ?_
  exact ft_ret mi_k11 (by rfl) (hP 6 (oz1484 kn6))
noncomputable def w14_94_l10_K6 : kW := ([], [], [], [])
set_option maxRecDepth 100000 in
theorem kc14_94_l10_K6 {i : Nat → Int32} {a : Nat → List Int32} {q : Nat → List Int64} {r : Nat → Nat} (hI : kI i a q) (hr : kr r) (x1 : Int32) (x3 : Int32) (x4 : Int32) (hp0 : ((0 : Int) ≤ x1.toInt) ∧ (x1.toInt ≤ 49)) (hp1 : ((a 95).getD x1.toNatClampNeg 0).toInt = 6) (hp2 : ((0 : Int) ≤ x4.toInt) ∧ ((x4.toInt + 0) ≤ 39)) (hp3 : ((0 : Int) ≤ (i 6019).toInt) ∧ (((i 6019).toInt + 0) ≤ 900)) : km 1 14 [.ref 94, .int x1, .int 0, .int x3, .int x4] (ks i a q r) (kVI w14_94_l10_K6 i a q r (fun v i1 a1 q1 r1 => (i1 6019).toInt = ((i 6019).toInt + 0))) := by
  have hG := kG_self w14_94_l10_K6 hI hr
  refine km_ofI (q := (mi_h14, mi_c14)) rfl (by decide) (Nat.le_of_ble_eq_true rfl) ?_
  intro P hP
  have r1 : ((0 : Int) ≤ ((a 95).getD x1.toNatClampNeg 0).toInt) ∧ (((a 95).getD x1.toNatClampNeg 0).toInt ≤ 7) := hG.I.2.2.1 95 (x1.toNatClampNeg)
  refine fo_goL mi_k14 fz14_0_3_5 [(0, .ref 94), (1, .int x1), (2, .int 0), (3, .int x3), (4, .int x4)] [.int x1, .ref 95] rfl ?_
  refine ko_iald3 mi_k14.1 (n := 50) (c := 50) (ax := (0, 0, 0, 0, 0)) (mi_k14.2 _ _ (by rfl)) (by rfl) (ksG95 _ _ _ _) (hG.I.2.1 95) rfl (oz3 hp0.1) (oz1336 hp0.2) ?_
  refine ko_top (kj_eq (oz1484 hp1) (by decide) : ((a 95).getD x1.toNatClampNeg 0) = 6) ?_
  have b2 : ((-2147483648 : Int) ≤ x3.toInt) ∧ (x3.toInt ≤ 2147483647) := kd_bd x3
  have b3 : ((-2147483648 : Int) ≤ x1.toInt) ∧ (x1.toInt ≤ 2147483647) := kd_bd x1
  refine ft_goL mi_k14 6 39 [(5, .int 6), (0, .ref 94), (1, .int x1), (2, .int 0), (3, .int x3), (4, .int x4)] [.int (x3 + x1)] (by rfl) ?_
  exact ft_ret mi_k14 (by rfl) (hP (x3 + x1) _ _ _ _ hG oz1338)
noncomputable def w13_94_l10_l20_K6 : kW := ([6019], [96], [], [])
set_option maxRecDepth 100000 in
theorem kc13_94_l10_l20_K6 {i : Nat → Int32} {a : Nat → List Int32} {q : Nat → List Int64} {r : Nat → Nat} (hI : kI i a q) (hr : kr r) (x1 : Int32) (x4 : Int32) (x5 : Int32) (hp0 : ((0 : Int) ≤ x1.toInt) ∧ (x1.toInt ≤ 49)) (hp1 : ((a 95).getD x1.toNatClampNeg 0).toInt = 6) (hp2 : ((0 : Int) ≤ x5.toInt) ∧ ((x5.toInt + 1) ≤ 39)) (hp3 : ((0 : Int) ≤ (i 6019).toInt) ∧ (((i 6019).toInt + 1) ≤ 900)) : km 3 13 [.ref 94, .int x1, .int 0, .int 0, .int x4, .int x5] (ks i a q r) (kVI w13_94_l10_l20_K6 i a q r (fun v i1 a1 q1 r1 => (i1 6019).toInt = ((i 6019).toInt + 1))) := by
  have hG := kG_self w13_94_l10_l20_K6 hI hr
  refine km_ofI (q := (mi_h13, mi_c13)) rfl (by decide) (Nat.le_of_ble_eq_true rfl) ?_
  intro P hP
  have r1 : ((0 : Int) ≤ ((a 95).getD x1.toNatClampNeg 0).toInt) ∧ (((a 95).getD x1.toNatClampNeg 0).toInt ≤ 7) := hG.I.2.2.1 95 (x1.toNatClampNeg)
  have fi_6019 : ((0 : Int) ≤ (i 6019).toInt) ∧ ((i 6019).toInt ≤ 1000) := hG.I.1 6019
  refine fo_goL mi_k13 fz13_0_2_4 [(0, .ref 94), (1, .int x1), (2, .int 0), (3, .int 0), (4, .int x4), (5, .int x5)] [.int 40, .int x5] rfl ?_
  refine ft_ifS mi_k13 (decide (x5 < 40)) 9 7 [] (by rfl) (fun c => ?_) (fun c => ?_)
  ·
    have c2 : x5.toInt < (40 : Int32).toInt := kd_lt c; clear c
    refine fo_goS mi_k13 fz13_9_2_11 [.int 0, .int 0] rfl ?_
    refine ko_callPI mi_k13.1 (pc := 11) (ls := [(0, .ref 94), (1, .int x1), (2, .int 0), (3, .int 0), (4, .int x4), (5, .int x5)]) (st := [.int 0, .int 0]) (h := ks i a q r) (i := (.invokestatic 39, 3, 11, 0, 9, 0, 298)) (mi_k13.2 _ _ (by rfl)) (ft_invS mi_pq11 (by rfl)) (cy := mi_c11) mi_pq11 rfl (kc11_l00_l10 hG.I hG.R ) (by decide) ?_
    intro vg3 hg3
    have z4 : vg3.toInt = 0 := hg3
    have evvg3 := kj_eq (oz236 z4) (by decide : (0 : Int32).toInt = 0)
    subst evvg3
    refine ft_goL mi_k13 5 23 [(6, .int 0), (0, .ref 94), (1, .int x1), (2, .int 0), (3, .int 0), (4, .int x4), (5, .int x5)] [.int (0 * 4), .ref (mi_RO + 3)] (by rfl) ?_
    refine ko_top (by decide : (0 * 4 : Int32) = 0) ?_
    refine fo_goS mi_k13 fz13_23_2_25 [.int (0 + 0), .ref (mi_RO + 3)] rfl ?_
    refine ko_top (by decide : (0 + 0 : Int32) = 0) ?_
    refine ft_ro mi_k13 (w := 1) (by decide +kernel) (by decide +kernel) ?_
    refine fo_goL mi_k13 fz13_26_4_34 [(7, .int 1), (6, .int 0), (0, .ref 94), (1, .int x1), (2, .int 0), (3, .int 0), (4, .int x4), (5, .int x5)] [.int 24, .int (i 6019)] rfl ?_
    refine ft_ifS mi_k13 (decide (24 ≤ (i 6019))) 48 37 [] (by rfl) (fun c => ?_) (fun c => ?_)
    ·
      have c6 : (24 : Int32).toInt ≤ (i 6019).toInt := kd_le c; clear c
      have s7 : ((i 6019) + 1).toInt = (i 6019).toInt + (1 : Int32).toInt := kd_add (oz1332 c6 kn24 kn1) (oz951 fi_6019.2 kn1)
      have hJ8 := kG_i hG 6019 rfl (v := ((i 6019) + 1)) ⟨(oz1333 c6 s7 kn24 kn1), (oz1334 hp3.2 s7 kn1)⟩
      have s9 : (x5 + 1).toInt = x5.toInt + (1 : Int32).toInt := kd_add (oz12 hp2.1 kn1) (oz1335 hp2.2 kn1)
      first | refine fo_goI mi_k13 fz13_48_15_72 [.int (x5 + 1), .int x4, .int 0, .int x1, .ref 94] (ku i 6019 ((i 6019) + 1)) (by rfl) ?_ | refine ft_go mi_k13 15 72 [(7, .int 1), (6, .int 0), (0, .ref 94), (1, .int x1), (2, .int 0), (3, .int 0), (4, .int x4), (5, .int x5)] [.int (x5 + 1), .int x4, .int 0, .int x1, .ref 94] (ku i 6019 ((i 6019) + 1)) a q r (by rfl) ?_
      refine ko_callI mi_k13.1 (pc := 72) (ls := [(7, .int 1), (6, .int 0), (0, .ref 94), (1, .int x1), (2, .int 0), (3, .int 0), (4, .int x4), (5, .int x5)]) (st := [.int (x5 + 1), .int x4, .int 0, .int x1, .ref 94]) (h := ks (ku i 6019 ((i 6019) + 1)) a q r) (i := (.invokevirtual 43, 3, 14, 0, 9, 0, 301)) (mi_k13.2 _ _ (by rfl)) (ft_invS mi_pq14 (by rfl)) (cy := mi_c14) mi_pq14 rfl (kc14_94_l10_K6 hJ8.I hJ8.R x1 x4 (x5 + 1) (oz1339 hp0.1 hp0.2) (oz1484 hp1) (oz1340 hp2.1 hp2.2 s9 kn1) (oz1341 c6 hp3.2 s7 kn24 kn1)) (by decide) ?_
      intro vg10 ig10 ag10 qg10 rg10 kg10 hg10
      have hGg10 := kG_call hJ8 kg10 (by decide +kernel)
      have efig10_6019 : (ig10 6019).toInt = ((i 6019) + 1).toInt := kg10.ti 6019 rfl
      exact ft_ret mi_k13 (by rfl) (hP vg10 _ _ _ _ hGg10 (oz1342 efig10_6019 s7 kn1))
    ·
      have c12 : (i 6019).toInt < (24 : Int32).toInt := kd_leF c; clear c
      refine fo_goS mi_k13 fz13_37_5_47 [.int 1, .int (i 6019), .ref 96] rfl ?_
      refine ko_iast3 mi_k13.1 (n := 24) (c := 24) (ax := (0, 0, 0, 0, 0)) (mi_k13.2 _ _ (by rfl)) (by rfl) (ksG96 _ _ _ _) (ksA96 _ _ _ _) (hG.I.2.1 96) rfl (oz3 fi_6019.1) (oz1343 c12 kn24) ?_
      intro a13 ea13 fa13
      have hJ13 := kG_a3 hG 96 rfl ea13 fa13 (kd_bd _)
      have s14 : ((i 6019) + 1).toInt = (i 6019).toInt + (1 : Int32).toInt := kd_add (oz12 fi_6019.1 kn1) (oz951 fi_6019.2 kn1)
      have hJ15 := kG_i hJ13 6019 rfl (v := ((i 6019) + 1)) ⟨(oz14 fi_6019.1 s14 kn1), (oz1334 hp3.2 s14 kn1)⟩
      have s16 : (x5 + 1).toInt = x5.toInt + (1 : Int32).toInt := kd_add (oz12 hp2.1 kn1) (oz1335 hp2.2 kn1)
      first | refine fo_goI mi_k13 fz13_48_15_72 [.int (x5 + 1), .int x4, .int 0, .int x1, .ref 94] (ku i 6019 ((i 6019) + 1)) (by rfl) ?_ | refine ft_go mi_k13 15 72 [(7, .int 1), (6, .int 0), (0, .ref 94), (1, .int x1), (2, .int 0), (3, .int 0), (4, .int x4), (5, .int x5)] [.int (x5 + 1), .int x4, .int 0, .int x1, .ref 94] (ku i 6019 ((i 6019) + 1)) a13 q r (by rfl) ?_
      have r17 : ((0 : Int) ≤ ((a13 95).getD x1.toNatClampNeg 0).toInt) ∧ (((a13 95).getD x1.toNatClampNeg 0).toInt ≤ 7) := hJ15.I.2.2.1 95 (x1.toNatClampNeg)
      have u18 : ((a13 95).getD x1.toNatClampNeg 0).toInt = ((a 95).getD x1.toNatClampNeg 0).toInt := congrArg (fun z : List Int32 => (z.getD x1.toNatClampNeg 0).toInt) (fa13 95 (by decide))
      refine ko_callI mi_k13.1 (pc := 72) (ls := [(7, .int 1), (6, .int 0), (0, .ref 94), (1, .int x1), (2, .int 0), (3, .int 0), (4, .int x4), (5, .int x5)]) (st := [.int (x5 + 1), .int x4, .int 0, .int x1, .ref 94]) (h := ks (ku i 6019 ((i 6019) + 1)) a13 q r) (i := (.invokevirtual 43, 3, 14, 0, 9, 0, 301)) (mi_k13.2 _ _ (by rfl)) (ft_invS mi_pq14 (by rfl)) (cy := mi_c14) mi_pq14 rfl (kc14_94_l10_K6 hJ15.I hJ15.R x1 x4 (x5 + 1) (oz1339 hp0.1 hp0.2) (oz1486 hp1 u18) (oz1340 hp2.1 hp2.2 s16 kn1) (oz1345 fi_6019.1 hp3.2 s14 kn1)) (by decide) ?_
      intro vg19 ig19 ag19 qg19 rg19 kg19 hg19
      have hGg19 := kG_call hJ15 kg19 (by decide +kernel)
      have efig19_6019 : (ig19 6019).toInt = ((i 6019) + 1).toInt := kg19.ti 6019 rfl
      exact ft_ret mi_k13 (by rfl) (hP vg19 _ _ _ _ hGg19 (oz1342 efig19_6019 s14 kn1))
  ·
    have c21 : (40 : Int32).toInt ≤ x5.toInt := kd_ltF c; clear c
    exact (oz1346 c21 hp2.2 kn40).elim
noncomputable def w13_94_l16_l20_K6 : kW := ([6019], [96], [], [])
set_option maxRecDepth 100000 in
theorem kc13_94_l16_l20_K6 {i : Nat → Int32} {a : Nat → List Int32} {q : Nat → List Int64} {r : Nat → Nat} (hI : kI i a q) (hr : kr r) (x1 : Int32) (x4 : Int32) (x5 : Int32) (hp0 : ((0 : Int) ≤ x1.toInt) ∧ (x1.toInt ≤ 49)) (hp1 : ((a 95).getD x1.toNatClampNeg 0).toInt = 6) (hp2 : ((0 : Int) ≤ x5.toInt) ∧ ((x5.toInt + 2) ≤ 39)) (hp3 : ((0 : Int) ≤ (i 6019).toInt) ∧ (((i 6019).toInt + 2) ≤ 900)) : km 5 13 [.ref 94, .int x1, .int 6, .int 0, .int x4, .int x5] (ks i a q r) (kVI w13_94_l16_l20_K6 i a q r (fun v i1 a1 q1 r1 => (i1 6019).toInt = ((i 6019).toInt + 2))) := by
  have hG := kG_self w13_94_l16_l20_K6 hI hr
  refine km_ofI (q := (mi_h13, mi_c13)) rfl (by decide) (Nat.le_of_ble_eq_true rfl) ?_
  intro P hP
  have r1 : ((0 : Int) ≤ ((a 95).getD x1.toNatClampNeg 0).toInt) ∧ (((a 95).getD x1.toNatClampNeg 0).toInt ≤ 7) := hG.I.2.2.1 95 (x1.toNatClampNeg)
  have fi_6019 : ((0 : Int) ≤ (i 6019).toInt) ∧ ((i 6019).toInt ≤ 1000) := hG.I.1 6019
  refine fo_goL mi_k13 fz13_0_2_4 [(0, .ref 94), (1, .int x1), (2, .int 6), (3, .int 0), (4, .int x4), (5, .int x5)] [.int 40, .int x5] rfl ?_
  refine ft_ifS mi_k13 (decide (x5 < 40)) 9 7 [] (by rfl) (fun c => ?_) (fun c => ?_)
  ·
    have c2 : x5.toInt < (40 : Int32).toInt := kd_lt c; clear c
    refine fo_goS mi_k13 fz13_9_2_11 [.int 0, .int 6] rfl ?_
    refine ko_callPI mi_k13.1 (pc := 11) (ls := [(0, .ref 94), (1, .int x1), (2, .int 6), (3, .int 0), (4, .int x4), (5, .int x5)]) (st := [.int 0, .int 6]) (h := ks i a q r) (i := (.invokestatic 39, 3, 11, 0, 9, 0, 298)) (mi_k13.2 _ _ (by rfl)) (ft_invS mi_pq11 (by rfl)) (cy := mi_c11) mi_pq11 rfl (kc11_l06_l10 hG.I hG.R ) (by decide) ?_
    intro vg3 hg3
    have z4 : vg3.toInt = 6 := hg3
    have evvg3 := kj_eq (oz1484 z4) (by decide : (6 : Int32).toInt = 6)
    subst evvg3
    refine ft_goL mi_k13 5 23 [(6, .int 6), (0, .ref 94), (1, .int x1), (2, .int 6), (3, .int 0), (4, .int x4), (5, .int x5)] [.int (6 * 4), .ref (mi_RO + 3)] (by rfl) ?_
    refine ko_top (by decide : (6 * 4 : Int32) = 24) ?_
    refine fo_goS mi_k13 fz13_23_2_25 [.int (24 + 0), .ref (mi_RO + 3)] rfl ?_
    refine ko_top (by decide : (24 + 0 : Int32) = 24) ?_
    refine ft_ro mi_k13 (w := 70) (by decide +kernel) (by decide +kernel) ?_
    refine fo_goL mi_k13 fz13_26_4_34 [(7, .int 70), (6, .int 6), (0, .ref 94), (1, .int x1), (2, .int 6), (3, .int 0), (4, .int x4), (5, .int x5)] [.int 24, .int (i 6019)] rfl ?_
    refine ft_ifS mi_k13 (decide (24 ≤ (i 6019))) 48 37 [] (by rfl) (fun c => ?_) (fun c => ?_)
    ·
      have c6 : (24 : Int32).toInt ≤ (i 6019).toInt := kd_le c; clear c
      have s7 : ((i 6019) + 1).toInt = (i 6019).toInt + (1 : Int32).toInt := kd_add (oz1332 c6 kn24 kn1) (oz951 fi_6019.2 kn1)
      have hJ8 := kG_i hG 6019 rfl (v := ((i 6019) + 1)) ⟨(oz1333 c6 s7 kn24 kn1), (oz1351 hp3.2 s7 kn1)⟩
      refine ft_goI mi_k13 12 83 [.int 6, .ref (mi_RO + 4), .int x1, .ref 94] (ku i 6019 ((i 6019) + 1)) (by rfl) ?_
      refine ft_ro mi_k13 (w := 0) (by decide +kernel) (by decide +kernel) ?_
      have s10 : (x5 + 1).toInt = x5.toInt + (1 : Int32).toInt := kd_add (oz12 hp2.1 kn1) (oz1352 hp2.2 kn1)
      first | refine ft_goS mi_k13 8 105 [.int (x5 + 1), .int x4, .int 0, .int 0, .int x1, .ref 94] (by rfl) ?_
      refine ko_callI mi_k13.1 (pc := 105) (ls := [(7, .int 70), (6, .int 6), (0, .ref 94), (1, .int x1), (2, .int 6), (3, .int 0), (4, .int x4), (5, .int x5)]) (st := [.int (x5 + 1), .int x4, .int 0, .int 0, .int x1, .ref 94]) (h := ks (ku i 6019 ((i 6019) + 1)) a q r) (i := (.invokevirtual 35, 3, 13, 0, 9, 0, 297)) (mi_k13.2 _ _ (by rfl)) (ft_invS mi_pq13 (by rfl)) (cy := mi_c13) mi_pq13 rfl (kc13_94_l10_l20_K6 hJ8.I hJ8.R x1 x4 (x5 + 1) (oz1339 hp0.1 hp0.2) (oz1484 hp1) (oz1356 hp2.1 hp2.2 s10 kn1) (oz1357 c6 hp3.2 s7 kn24 kn1)) (by decide) ?_
      intro vg11 ig11 ag11 qg11 rg11 kg11 hg11
      have hGg11 := kG_call hJ8 kg11 (by decide +kernel)
      have z12 : (ig11 6019).toInt = (((i 6019) + 1).toInt + 1) := hg11
      have b13 : ((-2147483648 : Int) ≤ vg11.toInt) ∧ (vg11.toInt ≤ 2147483647) := kd_bd vg11
      refine ft_goL mi_k13 6 232 [(8, .int vg11), (7, .int 70), (6, .int 6), (0, .ref 94), (1, .int x1), (2, .int 6), (3, .int 0), (4, .int x4), (5, .int x5)] [.int (vg11 * 2)] (by rfl) ?_
      exact ft_ret mi_k13 (by rfl) (hP (vg11 * 2) _ _ _ _ hGg11 (oz1358 s7 z12 kn1))
    ·
      have c14 : (i 6019).toInt < (24 : Int32).toInt := kd_leF c; clear c
      refine fo_goS mi_k13 fz13_37_5_47 [.int 70, .int (i 6019), .ref 96] rfl ?_
      refine ko_iast3 mi_k13.1 (n := 24) (c := 24) (ax := (0, 0, 0, 0, 0)) (mi_k13.2 _ _ (by rfl)) (by rfl) (ksG96 _ _ _ _) (ksA96 _ _ _ _) (hG.I.2.1 96) rfl (oz3 fi_6019.1) (oz1343 c14 kn24) ?_
      intro a15 ea15 fa15
      have hJ15 := kG_a3 hG 96 rfl ea15 fa15 (kd_bd _)
      have s16 : ((i 6019) + 1).toInt = (i 6019).toInt + (1 : Int32).toInt := kd_add (oz12 fi_6019.1 kn1) (oz951 fi_6019.2 kn1)
      have hJ17 := kG_i hJ15 6019 rfl (v := ((i 6019) + 1)) ⟨(oz14 fi_6019.1 s16 kn1), (oz1351 hp3.2 s16 kn1)⟩
      refine ft_goI mi_k13 12 83 [.int 6, .ref (mi_RO + 4), .int x1, .ref 94] (ku i 6019 ((i 6019) + 1)) (by rfl) ?_
      refine ft_ro mi_k13 (w := 0) (by decide +kernel) (by decide +kernel) ?_
      have s19 : (x5 + 1).toInt = x5.toInt + (1 : Int32).toInt := kd_add (oz12 hp2.1 kn1) (oz1352 hp2.2 kn1)
      first | refine ft_goS mi_k13 8 105 [.int (x5 + 1), .int x4, .int 0, .int 0, .int x1, .ref 94] (by rfl) ?_
      have r20 : ((0 : Int) ≤ ((a15 95).getD x1.toNatClampNeg 0).toInt) ∧ (((a15 95).getD x1.toNatClampNeg 0).toInt ≤ 7) := hJ17.I.2.2.1 95 (x1.toNatClampNeg)
      have u21 : ((a15 95).getD x1.toNatClampNeg 0).toInt = ((a 95).getD x1.toNatClampNeg 0).toInt := congrArg (fun z : List Int32 => (z.getD x1.toNatClampNeg 0).toInt) (fa15 95 (by decide))
      refine ko_callI mi_k13.1 (pc := 105) (ls := [(7, .int 70), (6, .int 6), (0, .ref 94), (1, .int x1), (2, .int 6), (3, .int 0), (4, .int x4), (5, .int x5)]) (st := [.int (x5 + 1), .int x4, .int 0, .int 0, .int x1, .ref 94]) (h := ks (ku i 6019 ((i 6019) + 1)) a15 q r) (i := (.invokevirtual 35, 3, 13, 0, 9, 0, 297)) (mi_k13.2 _ _ (by rfl)) (ft_invS mi_pq13 (by rfl)) (cy := mi_c13) mi_pq13 rfl (kc13_94_l10_l20_K6 hJ17.I hJ17.R x1 x4 (x5 + 1) (oz1339 hp0.1 hp0.2) (oz1486 hp1 u21) (oz1356 hp2.1 hp2.2 s19 kn1) (oz1359 fi_6019.1 hp3.2 s16 kn1)) (by decide) ?_
      intro vg22 ig22 ag22 qg22 rg22 kg22 hg22
      have hGg22 := kG_call hJ17 kg22 (by decide +kernel)
      have z23 : (ig22 6019).toInt = (((i 6019) + 1).toInt + 1) := hg22
      have b24 : ((-2147483648 : Int) ≤ vg22.toInt) ∧ (vg22.toInt ≤ 2147483647) := kd_bd vg22
      refine ft_goL mi_k13 6 232 [(8, .int vg22), (7, .int 70), (6, .int 6), (0, .ref 94), (1, .int x1), (2, .int 6), (3, .int 0), (4, .int x4), (5, .int x5)] [.int (vg22 * 2)] (by rfl) ?_
      exact ft_ret mi_k13 (by rfl) (hP (vg22 * 2) _ _ _ _ hGg22 (oz1358 s16 z23 kn1))
  ·
    have c25 : (40 : Int32).toInt ≤ x5.toInt := kd_ltF c; clear c
    exact (oz1360 c25 hp2.2 kn40).elim
set_option maxRecDepth 100000 in
theorem kc11_l06_l11 {i : Nat → Int32} {a : Nat → List Int32} {q : Nat → List Int64} {r : Nat → Nat} (hI : kI i a q) (hr : kr r)  : km 1 11 [.int 6, .int 1] (ks i a q r) (kPI (ks i a q r) (fun v => v.toInt = 0)) := by
  have hG := kG_self kW0 hI hr
  refine km_ofPI (q := (mi_h11, mi_c11)) rfl (by decide) (Nat.le_of_ble_eq_true rfl) ?_
  intro P hP
  first | refine ft_goL mi_k11 16 26 [(3, .int 0), (2, .int 6), (0, .int 6), (1, .int 1)] [.int (6 * 4), .ref (mi_RO + 3)] (by rfl) ?_
  refine ko_top (by decide : (6 * 4 : Int32) = 24) ?_
  refine fo_goS mi_k11 fz11_26_2_28 [.int (24 + 1), .ref (mi_RO + 3)] rfl ?_
  refine ko_top (by decide : (24 + 1 : Int32) = 25) ?_
  refine ft_ro mi_k11 (w := 0) (by decide +kernel) (by decide +kernel) ?_
  refine ft_goS mi_k11 3 38 [.int 6, .ref (mi_RO + 4)] (by rfl) ?_
  refine ft_ro mi_k11 (w := 0) (by decide +kernel) (by decide +kernel) ?_
  refine fo_goL mi_k11 fz11_39_2_43 [(3, .int (0 + 1)), (2, .int 0), (0, .int 6), (1, .int 1)] [] rfl ?_
  refine ko_loc (by decide : (0 + 1 : Int32) = 1) ?_
  first | refine ft_goL mi_k11 7 47 [(3, .int 1), (2, .int 0), (0, .int 6), (1, .int 1)] [.int 0] (by rfl) ?_ | refine ft_goS mi_k11 7 47 [.int 0] (by rfl) ?_
  exact ft_ret mi_k11 (by rfl) (hP 0 (oz236 kn0))
noncomputable def w14_94_l11_K6 : kW := ([6019], [96], [], [])
set_option maxRecDepth 100000 in
theorem kc14_94_l11_K6 {i : Nat → Int32} {a : Nat → List Int32} {q : Nat → List Int64} {r : Nat → Nat} (hI : kI i a q) (hr : kr r) (x1 : Int32) (x3 : Int32) (x4 : Int32) (hp0 : ((0 : Int) ≤ x1.toInt) ∧ (x1.toInt ≤ 49)) (hp1 : ((a 95).getD x1.toNatClampNeg 0).toInt = 6) (hp2 : ((0 : Int) ≤ x4.toInt) ∧ ((x4.toInt + 2) ≤ 39)) (hp3 : ((0 : Int) ≤ (i 6019).toInt) ∧ (((i 6019).toInt + 2) ≤ 900)) : km 7 14 [.ref 94, .int x1, .int 1, .int x3, .int x4] (ks i a q r) (kVI w14_94_l11_K6 i a q r (fun v i1 a1 q1 r1 => (i1 6019).toInt = ((i 6019).toInt + 2))) := by
  have hG := kG_self w14_94_l11_K6 hI hr
  refine km_ofI (q := (mi_h14, mi_c14)) rfl (by decide) (Nat.le_of_ble_eq_true rfl) ?_
  intro P hP
  have r1 : ((0 : Int) ≤ ((a 95).getD x1.toNatClampNeg 0).toInt) ∧ (((a 95).getD x1.toNatClampNeg 0).toInt ≤ 7) := hG.I.2.2.1 95 (x1.toNatClampNeg)
  have fi_6019 : ((0 : Int) ≤ (i 6019).toInt) ∧ ((i 6019).toInt ≤ 1000) := hG.I.1 6019
  refine fo_goL mi_k14 fz14_0_3_5 [(0, .ref 94), (1, .int x1), (2, .int 1), (3, .int x3), (4, .int x4)] [.int x1, .ref 95] rfl ?_
  refine ko_iald3 mi_k14.1 (n := 50) (c := 50) (ax := (0, 0, 0, 0, 0)) (mi_k14.2 _ _ (by rfl)) (by rfl) (ksG95 _ _ _ _) (hG.I.2.1 95) rfl (oz3 hp0.1) (oz1336 hp0.2) ?_
  refine ko_top (kj_eq (oz1484 hp1) (by decide) : ((a 95).getD x1.toNatClampNeg 0) = 6) ?_
  refine ft_goL mi_k14 9 48 [(5, .int 6), (0, .ref 94), (1, .int x1), (2, .int 1), (3, .int x3), (4, .int x4)] [.int x4, .int x3, .int 0, .int 6, .int x1, .ref 94] (by rfl) ?_
  refine ko_callI mi_k14.1 (pc := 48) (ls := [(5, .int 6), (0, .ref 94), (1, .int x1), (2, .int 1), (3, .int x3), (4, .int x4)]) (st := [.int x4, .int x3, .int 0, .int 6, .int x1, .ref 94]) (h := ks i a q r) (i := (.invokevirtual 35, 3, 13, 0, 9, 0, 297)) (mi_k14.2 _ _ (by rfl)) (ft_invS mi_pq13 (by rfl)) (cy := mi_c13) mi_pq13 rfl (kc13_94_l16_l20_K6 hG.I hG.R x1 x3 x4 (oz1339 hp0.1 hp0.2) (oz1484 hp1) (oz1367 hp2.1 hp2.2) (oz1386 fi_6019.1 hp3.2)) (by decide) ?_
  intro vg2 ig2 ag2 qg2 rg2 kg2 hg2
  have hGg2 := kG_call hG kg2 (by decide +kernel)
  have z3 : (ig2 6019).toInt = ((i 6019).toInt + 2) := hg2
  have b4 : ((-2147483648 : Int) ≤ vg2.toInt) ∧ (vg2.toInt ≤ 2147483647) := kd_bd vg2
  refine fo_goS mi_k14 fz14_51_2_53 [.int (vg2 * 2)] rfl ?_
  exact ft_ret mi_k14 (by rfl) (hP (vg2 * 2) _ _ _ _ hGg2 (oz1387 z3))
noncomputable def w13_94_l16_l21_K6 : kW := ([6019], [96], [], [])
set_option maxRecDepth 100000 in
theorem kc13_94_l16_l21_K6 {i : Nat → Int32} {a : Nat → List Int32} {q : Nat → List Int64} {r : Nat → Nat} (hI : kI i a q) (hr : kr r) (x1 : Int32) (x4 : Int32) (x5 : Int32) (hp0 : ((0 : Int) ≤ x1.toInt) ∧ (x1.toInt ≤ 49)) (hp1 : ((a 95).getD x1.toNatClampNeg 0).toInt = 6) (hp2 : ((0 : Int) ≤ x5.toInt) ∧ ((x5.toInt + 3) ≤ 39)) (hp3 : ((0 : Int) ≤ (i 6019).toInt) ∧ (((i 6019).toInt + 3) ≤ 900)) : km 9 13 [.ref 94, .int x1, .int 6, .int 1, .int x4, .int x5] (ks i a q r) (kVI w13_94_l16_l21_K6 i a q r (fun v i1 a1 q1 r1 => (i1 6019).toInt = ((i 6019).toInt + 3))) := by
  have hG := kG_self w13_94_l16_l21_K6 hI hr
  refine km_ofI (q := (mi_h13, mi_c13)) rfl (by decide) (Nat.le_of_ble_eq_true rfl) ?_
  intro P hP
  have r1 : ((0 : Int) ≤ ((a 95).getD x1.toNatClampNeg 0).toInt) ∧ (((a 95).getD x1.toNatClampNeg 0).toInt ≤ 7) := hG.I.2.2.1 95 (x1.toNatClampNeg)
  have fi_6019 : ((0 : Int) ≤ (i 6019).toInt) ∧ ((i 6019).toInt ≤ 1000) := hG.I.1 6019
  refine fo_goL mi_k13 fz13_0_2_4 [(0, .ref 94), (1, .int x1), (2, .int 6), (3, .int 1), (4, .int x4), (5, .int x5)] [.int 40, .int x5] rfl ?_
  refine ft_ifS mi_k13 (decide (x5 < 40)) 9 7 [] (by rfl) (fun c => ?_) (fun c => ?_)
  ·
    have c2 : x5.toInt < (40 : Int32).toInt := kd_lt c; clear c
    refine fo_goS mi_k13 fz13_9_2_11 [.int 1, .int 6] rfl ?_
    refine ko_callPI mi_k13.1 (pc := 11) (ls := [(0, .ref 94), (1, .int x1), (2, .int 6), (3, .int 1), (4, .int x4), (5, .int x5)]) (st := [.int 1, .int 6]) (h := ks i a q r) (i := (.invokestatic 39, 3, 11, 0, 9, 0, 298)) (mi_k13.2 _ _ (by rfl)) (ft_invS mi_pq11 (by rfl)) (cy := mi_c11) mi_pq11 rfl (kc11_l06_l11 hG.I hG.R ) (by decide) ?_
    intro vg3 hg3
    have z4 : vg3.toInt = 0 := hg3
    have evvg3 := kj_eq (oz236 z4) (by decide : (0 : Int32).toInt = 0)
    subst evvg3
    refine ft_goL mi_k13 5 23 [(6, .int 0), (0, .ref 94), (1, .int x1), (2, .int 6), (3, .int 1), (4, .int x4), (5, .int x5)] [.int (0 * 4), .ref (mi_RO + 3)] (by rfl) ?_
    refine ko_top (by decide : (0 * 4 : Int32) = 0) ?_
    refine fo_goS mi_k13 fz13_23_2_25 [.int (0 + 1), .ref (mi_RO + 3)] rfl ?_
    refine ko_top (by decide : (0 + 1 : Int32) = 1) ?_
    refine ft_ro mi_k13 (w := 10) (by decide +kernel) (by decide +kernel) ?_
    refine fo_goL mi_k13 fz13_26_4_34 [(7, .int 10), (6, .int 0), (0, .ref 94), (1, .int x1), (2, .int 6), (3, .int 1), (4, .int x4), (5, .int x5)] [.int 24, .int (i 6019)] rfl ?_
    refine ft_ifS mi_k13 (decide (24 ≤ (i 6019))) 48 37 [] (by rfl) (fun c => ?_) (fun c => ?_)
    ·
      have c6 : (24 : Int32).toInt ≤ (i 6019).toInt := kd_le c; clear c
      have s7 : ((i 6019) + 1).toInt = (i 6019).toInt + (1 : Int32).toInt := kd_add (oz1332 c6 kn24 kn1) (oz951 fi_6019.2 kn1)
      have hJ8 := kG_i hG 6019 rfl (v := ((i 6019) + 1)) ⟨(oz1333 c6 s7 kn24 kn1), (oz1385 hp3.2 s7 kn1)⟩
      have s9 : (x5 + 1).toInt = x5.toInt + (1 : Int32).toInt := kd_add (oz12 hp2.1 kn1) (oz1366 hp2.2 kn1)
      first | refine fo_goI mi_k13 fz13_48_15_72 [.int (x5 + 1), .int x4, .int 1, .int x1, .ref 94] (ku i 6019 ((i 6019) + 1)) (by rfl) ?_ | refine ft_go mi_k13 15 72 [(7, .int 10), (6, .int 0), (0, .ref 94), (1, .int x1), (2, .int 6), (3, .int 1), (4, .int x4), (5, .int x5)] [.int (x5 + 1), .int x4, .int 1, .int x1, .ref 94] (ku i 6019 ((i 6019) + 1)) a q r (by rfl) ?_
      refine ko_callI mi_k13.1 (pc := 72) (ls := [(7, .int 10), (6, .int 0), (0, .ref 94), (1, .int x1), (2, .int 6), (3, .int 1), (4, .int x4), (5, .int x5)]) (st := [.int (x5 + 1), .int x4, .int 1, .int x1, .ref 94]) (h := ks (ku i 6019 ((i 6019) + 1)) a q r) (i := (.invokevirtual 43, 3, 14, 0, 9, 0, 301)) (mi_k13.2 _ _ (by rfl)) (ft_invS mi_pq14 (by rfl)) (cy := mi_c14) mi_pq14 rfl (kc14_94_l11_K6 hJ8.I hJ8.R x1 x4 (x5 + 1) (oz1339 hp0.1 hp0.2) (oz1484 hp1) (oz1372 hp2.1 hp2.2 s9 kn1) (oz1388 c6 hp3.2 s7 kn24 kn1)) (by decide) ?_
      intro vg10 ig10 ag10 qg10 rg10 kg10 hg10
      have hGg10 := kG_call hJ8 kg10 (by decide +kernel)
      have z11 : (ig10 6019).toInt = (((i 6019) + 1).toInt + 2) := hg10
      exact ft_ret mi_k13 (by rfl) (hP vg10 _ _ _ _ hGg10 (oz1389 s7 z11 kn1))
    ·
      have c12 : (i 6019).toInt < (24 : Int32).toInt := kd_leF c; clear c
      refine fo_goS mi_k13 fz13_37_5_47 [.int 10, .int (i 6019), .ref 96] rfl ?_
      refine ko_iast3 mi_k13.1 (n := 24) (c := 24) (ax := (0, 0, 0, 0, 0)) (mi_k13.2 _ _ (by rfl)) (by rfl) (ksG96 _ _ _ _) (ksA96 _ _ _ _) (hG.I.2.1 96) rfl (oz3 fi_6019.1) (oz1343 c12 kn24) ?_
      intro a13 ea13 fa13
      have hJ13 := kG_a3 hG 96 rfl ea13 fa13 (kd_bd _)
      have s14 : ((i 6019) + 1).toInt = (i 6019).toInt + (1 : Int32).toInt := kd_add (oz12 fi_6019.1 kn1) (oz951 fi_6019.2 kn1)
      have hJ15 := kG_i hJ13 6019 rfl (v := ((i 6019) + 1)) ⟨(oz14 fi_6019.1 s14 kn1), (oz1385 hp3.2 s14 kn1)⟩
      have s16 : (x5 + 1).toInt = x5.toInt + (1 : Int32).toInt := kd_add (oz12 hp2.1 kn1) (oz1366 hp2.2 kn1)
      first | refine fo_goI mi_k13 fz13_48_15_72 [.int (x5 + 1), .int x4, .int 1, .int x1, .ref 94] (ku i 6019 ((i 6019) + 1)) (by rfl) ?_ | refine ft_go mi_k13 15 72 [(7, .int 10), (6, .int 0), (0, .ref 94), (1, .int x1), (2, .int 6), (3, .int 1), (4, .int x4), (5, .int x5)] [.int (x5 + 1), .int x4, .int 1, .int x1, .ref 94] (ku i 6019 ((i 6019) + 1)) a13 q r (by rfl) ?_
      have r17 : ((0 : Int) ≤ ((a13 95).getD x1.toNatClampNeg 0).toInt) ∧ (((a13 95).getD x1.toNatClampNeg 0).toInt ≤ 7) := hJ15.I.2.2.1 95 (x1.toNatClampNeg)
      have u18 : ((a13 95).getD x1.toNatClampNeg 0).toInt = ((a 95).getD x1.toNatClampNeg 0).toInt := congrArg (fun z : List Int32 => (z.getD x1.toNatClampNeg 0).toInt) (fa13 95 (by decide))
      refine ko_callI mi_k13.1 (pc := 72) (ls := [(7, .int 10), (6, .int 0), (0, .ref 94), (1, .int x1), (2, .int 6), (3, .int 1), (4, .int x4), (5, .int x5)]) (st := [.int (x5 + 1), .int x4, .int 1, .int x1, .ref 94]) (h := ks (ku i 6019 ((i 6019) + 1)) a13 q r) (i := (.invokevirtual 43, 3, 14, 0, 9, 0, 301)) (mi_k13.2 _ _ (by rfl)) (ft_invS mi_pq14 (by rfl)) (cy := mi_c14) mi_pq14 rfl (kc14_94_l11_K6 hJ15.I hJ15.R x1 x4 (x5 + 1) (oz1339 hp0.1 hp0.2) (oz1486 hp1 u18) (oz1372 hp2.1 hp2.2 s16 kn1) (oz1390 fi_6019.1 hp3.2 s14 kn1)) (by decide) ?_
      intro vg19 ig19 ag19 qg19 rg19 kg19 hg19
      have hGg19 := kG_call hJ15 kg19 (by decide +kernel)
      have z20 : (ig19 6019).toInt = (((i 6019) + 1).toInt + 2) := hg19
      exact ft_ret mi_k13 (by rfl) (hP vg19 _ _ _ _ hGg19 (oz1389 s14 z20 kn1))
  ·
    have c21 : (40 : Int32).toInt ≤ x5.toInt := kd_ltF c; clear c
    exact (oz1376 c21 hp2.2 kn40).elim
set_option maxRecDepth 100000 in
theorem kc11_l06_l12 {i : Nat → Int32} {a : Nat → List Int32} {q : Nat → List Int64} {r : Nat → Nat} (hI : kI i a q) (hr : kr r)  : km 1 11 [.int 6, .int 2] (ks i a q r) (kPI (ks i a q r) (fun v => v.toInt = 0)) := by
  have hG := kG_self kW0 hI hr
  refine km_ofPI (q := (mi_h11, mi_c11)) rfl (by decide) (Nat.le_of_ble_eq_true rfl) ?_
  intro P hP
  first | refine ft_goL mi_k11 16 26 [(3, .int 0), (2, .int 6), (0, .int 6), (1, .int 2)] [.int (6 * 4), .ref (mi_RO + 3)] (by rfl) ?_
  refine ko_top (by decide : (6 * 4 : Int32) = 24) ?_
  refine fo_goS mi_k11 fz11_26_2_28 [.int (24 + 2), .ref (mi_RO + 3)] rfl ?_
  refine ko_top (by decide : (24 + 2 : Int32) = 26) ?_
  refine ft_ro mi_k11 (w := 0) (by decide +kernel) (by decide +kernel) ?_
  refine ft_goS mi_k11 3 38 [.int 6, .ref (mi_RO + 4)] (by rfl) ?_
  refine ft_ro mi_k11 (w := 0) (by decide +kernel) (by decide +kernel) ?_
  refine fo_goL mi_k11 fz11_39_2_43 [(3, .int (0 + 1)), (2, .int 0), (0, .int 6), (1, .int 2)] [] rfl ?_
  refine ko_loc (by decide : (0 + 1 : Int32) = 1) ?_
  first | refine ft_goL mi_k11 7 47 [(3, .int 1), (2, .int 0), (0, .int 6), (1, .int 2)] [.int 0] (by rfl) ?_ | refine ft_goS mi_k11 7 47 [.int 0] (by rfl) ?_
  exact ft_ret mi_k11 (by rfl) (hP 0 (oz236 kn0))
noncomputable def w14_94_l12_K6 : kW := ([], [], [], [])
set_option maxRecDepth 100000 in
theorem kc14_94_l12_K6 {i : Nat → Int32} {a : Nat → List Int32} {q : Nat → List Int64} {r : Nat → Nat} (hI : kI i a q) (hr : kr r) (x1 : Int32) (x3 : Int32) (x4 : Int32) (hp0 : ((0 : Int) ≤ x1.toInt) ∧ (x1.toInt ≤ 49)) (hp1 : ((a 95).getD x1.toNatClampNeg 0).toInt = 6) (hp2 : ((0 : Int) ≤ x4.toInt) ∧ ((x4.toInt + 0) ≤ 39)) (hp3 : ((0 : Int) ≤ (i 6019).toInt) ∧ (((i 6019).toInt + 0) ≤ 900)) : km 1 14 [.ref 94, .int x1, .int 2, .int x3, .int x4] (ks i a q r) (kVI w14_94_l12_K6 i a q r (fun v i1 a1 q1 r1 => (i1 6019).toInt = ((i 6019).toInt + 0))) := by
  have hG := kG_self w14_94_l12_K6 hI hr
  refine km_ofI (q := (mi_h14, mi_c14)) rfl (by decide) (Nat.le_of_ble_eq_true rfl) ?_
  intro P hP
  have r1 : ((0 : Int) ≤ ((a 95).getD x1.toNatClampNeg 0).toInt) ∧ (((a 95).getD x1.toNatClampNeg 0).toInt ≤ 7) := hG.I.2.2.1 95 (x1.toNatClampNeg)
  refine fo_goL mi_k14 fz14_0_3_5 [(0, .ref 94), (1, .int x1), (2, .int 2), (3, .int x3), (4, .int x4)] [.int x1, .ref 95] rfl ?_
  refine ko_iald3 mi_k14.1 (n := 50) (c := 50) (ax := (0, 0, 0, 0, 0)) (mi_k14.2 _ _ (by rfl)) (by rfl) (ksG95 _ _ _ _) (hG.I.2.1 95) rfl (oz3 hp0.1) (oz1336 hp0.2) ?_
  refine ko_top (kj_eq (oz1484 hp1) (by decide) : ((a 95).getD x1.toNatClampNeg 0) = 6) ?_
  refine ft_goL mi_k14 6 57 [(5, .int 6), (0, .ref 94), (1, .int x1), (2, .int 2), (3, .int x3), (4, .int x4)] [.int (x3 ^^^ x1)] (by rfl) ?_
  exact ft_ret mi_k14 (by rfl) (hP (x3 ^^^ x1) _ _ _ _ hG oz1338)
noncomputable def w13_94_l16_l22_K6 : kW := ([6019], [96], [], [])
set_option maxRecDepth 100000 in
theorem kc13_94_l16_l22_K6 {i : Nat → Int32} {a : Nat → List Int32} {q : Nat → List Int64} {r : Nat → Nat} (hI : kI i a q) (hr : kr r) (x1 : Int32) (x4 : Int32) (x5 : Int32) (hp0 : ((0 : Int) ≤ x1.toInt) ∧ (x1.toInt ≤ 49)) (hp1 : ((a 95).getD x1.toNatClampNeg 0).toInt = 6) (hp2 : ((0 : Int) ≤ x5.toInt) ∧ ((x5.toInt + 1) ≤ 39)) (hp3 : ((0 : Int) ≤ (i 6019).toInt) ∧ (((i 6019).toInt + 1) ≤ 900)) : km 3 13 [.ref 94, .int x1, .int 6, .int 2, .int x4, .int x5] (ks i a q r) (kVI w13_94_l16_l22_K6 i a q r (fun v i1 a1 q1 r1 => (i1 6019).toInt = ((i 6019).toInt + 1))) := by
  have hG := kG_self w13_94_l16_l22_K6 hI hr
  refine km_ofI (q := (mi_h13, mi_c13)) rfl (by decide) (Nat.le_of_ble_eq_true rfl) ?_
  intro P hP
  have r1 : ((0 : Int) ≤ ((a 95).getD x1.toNatClampNeg 0).toInt) ∧ (((a 95).getD x1.toNatClampNeg 0).toInt ≤ 7) := hG.I.2.2.1 95 (x1.toNatClampNeg)
  have fi_6019 : ((0 : Int) ≤ (i 6019).toInt) ∧ ((i 6019).toInt ≤ 1000) := hG.I.1 6019
  refine fo_goL mi_k13 fz13_0_2_4 [(0, .ref 94), (1, .int x1), (2, .int 6), (3, .int 2), (4, .int x4), (5, .int x5)] [.int 40, .int x5] rfl ?_
  refine ft_ifS mi_k13 (decide (x5 < 40)) 9 7 [] (by rfl) (fun c => ?_) (fun c => ?_)
  ·
    have c2 : x5.toInt < (40 : Int32).toInt := kd_lt c; clear c
    refine fo_goS mi_k13 fz13_9_2_11 [.int 2, .int 6] rfl ?_
    refine ko_callPI mi_k13.1 (pc := 11) (ls := [(0, .ref 94), (1, .int x1), (2, .int 6), (3, .int 2), (4, .int x4), (5, .int x5)]) (st := [.int 2, .int 6]) (h := ks i a q r) (i := (.invokestatic 39, 3, 11, 0, 9, 0, 298)) (mi_k13.2 _ _ (by rfl)) (ft_invS mi_pq11 (by rfl)) (cy := mi_c11) mi_pq11 rfl (kc11_l06_l12 hG.I hG.R ) (by decide) ?_
    intro vg3 hg3
    have z4 : vg3.toInt = 0 := hg3
    have evvg3 := kj_eq (oz236 z4) (by decide : (0 : Int32).toInt = 0)
    subst evvg3
    refine ft_goL mi_k13 5 23 [(6, .int 0), (0, .ref 94), (1, .int x1), (2, .int 6), (3, .int 2), (4, .int x4), (5, .int x5)] [.int (0 * 4), .ref (mi_RO + 3)] (by rfl) ?_
    refine ko_top (by decide : (0 * 4 : Int32) = 0) ?_
    refine fo_goS mi_k13 fz13_23_2_25 [.int (0 + 2), .ref (mi_RO + 3)] rfl ?_
    refine ko_top (by decide : (0 + 2 : Int32) = 2) ?_
    refine ft_ro mi_k13 (w := 11) (by decide +kernel) (by decide +kernel) ?_
    refine fo_goL mi_k13 fz13_26_4_34 [(7, .int 11), (6, .int 0), (0, .ref 94), (1, .int x1), (2, .int 6), (3, .int 2), (4, .int x4), (5, .int x5)] [.int 24, .int (i 6019)] rfl ?_
    refine ft_ifS mi_k13 (decide (24 ≤ (i 6019))) 48 37 [] (by rfl) (fun c => ?_) (fun c => ?_)
    ·
      have c6 : (24 : Int32).toInt ≤ (i 6019).toInt := kd_le c; clear c
      have s7 : ((i 6019) + 1).toInt = (i 6019).toInt + (1 : Int32).toInt := kd_add (oz1332 c6 kn24 kn1) (oz951 fi_6019.2 kn1)
      have hJ8 := kG_i hG 6019 rfl (v := ((i 6019) + 1)) ⟨(oz1333 c6 s7 kn24 kn1), (oz1334 hp3.2 s7 kn1)⟩
      have s9 : (x5 + 1).toInt = x5.toInt + (1 : Int32).toInt := kd_add (oz12 hp2.1 kn1) (oz1335 hp2.2 kn1)
      first | refine fo_goI mi_k13 fz13_48_15_72 [.int (x5 + 1), .int x4, .int 2, .int x1, .ref 94] (ku i 6019 ((i 6019) + 1)) (by rfl) ?_ | refine ft_go mi_k13 15 72 [(7, .int 11), (6, .int 0), (0, .ref 94), (1, .int x1), (2, .int 6), (3, .int 2), (4, .int x4), (5, .int x5)] [.int (x5 + 1), .int x4, .int 2, .int x1, .ref 94] (ku i 6019 ((i 6019) + 1)) a q r (by rfl) ?_
      refine ko_callI mi_k13.1 (pc := 72) (ls := [(7, .int 11), (6, .int 0), (0, .ref 94), (1, .int x1), (2, .int 6), (3, .int 2), (4, .int x4), (5, .int x5)]) (st := [.int (x5 + 1), .int x4, .int 2, .int x1, .ref 94]) (h := ks (ku i 6019 ((i 6019) + 1)) a q r) (i := (.invokevirtual 43, 3, 14, 0, 9, 0, 301)) (mi_k13.2 _ _ (by rfl)) (ft_invS mi_pq14 (by rfl)) (cy := mi_c14) mi_pq14 rfl (kc14_94_l12_K6 hJ8.I hJ8.R x1 x4 (x5 + 1) (oz1339 hp0.1 hp0.2) (oz1484 hp1) (oz1340 hp2.1 hp2.2 s9 kn1) (oz1341 c6 hp3.2 s7 kn24 kn1)) (by decide) ?_
      intro vg10 ig10 ag10 qg10 rg10 kg10 hg10
      have hGg10 := kG_call hJ8 kg10 (by decide +kernel)
      have efig10_6019 : (ig10 6019).toInt = ((i 6019) + 1).toInt := kg10.ti 6019 rfl
      exact ft_ret mi_k13 (by rfl) (hP vg10 _ _ _ _ hGg10 (oz1342 efig10_6019 s7 kn1))
    ·
      have c12 : (i 6019).toInt < (24 : Int32).toInt := kd_leF c; clear c
      refine fo_goS mi_k13 fz13_37_5_47 [.int 11, .int (i 6019), .ref 96] rfl ?_
      refine ko_iast3 mi_k13.1 (n := 24) (c := 24) (ax := (0, 0, 0, 0, 0)) (mi_k13.2 _ _ (by rfl)) (by rfl) (ksG96 _ _ _ _) (ksA96 _ _ _ _) (hG.I.2.1 96) rfl (oz3 fi_6019.1) (oz1343 c12 kn24) ?_
      intro a13 ea13 fa13
      have hJ13 := kG_a3 hG 96 rfl ea13 fa13 (kd_bd _)
      have s14 : ((i 6019) + 1).toInt = (i 6019).toInt + (1 : Int32).toInt := kd_add (oz12 fi_6019.1 kn1) (oz951 fi_6019.2 kn1)
      have hJ15 := kG_i hJ13 6019 rfl (v := ((i 6019) + 1)) ⟨(oz14 fi_6019.1 s14 kn1), (oz1334 hp3.2 s14 kn1)⟩
      have s16 : (x5 + 1).toInt = x5.toInt + (1 : Int32).toInt := kd_add (oz12 hp2.1 kn1) (oz1335 hp2.2 kn1)
      first | refine fo_goI mi_k13 fz13_48_15_72 [.int (x5 + 1), .int x4, .int 2, .int x1, .ref 94] (ku i 6019 ((i 6019) + 1)) (by rfl) ?_ | refine ft_go mi_k13 15 72 [(7, .int 11), (6, .int 0), (0, .ref 94), (1, .int x1), (2, .int 6), (3, .int 2), (4, .int x4), (5, .int x5)] [.int (x5 + 1), .int x4, .int 2, .int x1, .ref 94] (ku i 6019 ((i 6019) + 1)) a13 q r (by rfl) ?_
      have r17 : ((0 : Int) ≤ ((a13 95).getD x1.toNatClampNeg 0).toInt) ∧ (((a13 95).getD x1.toNatClampNeg 0).toInt ≤ 7) := hJ15.I.2.2.1 95 (x1.toNatClampNeg)
      have u18 : ((a13 95).getD x1.toNatClampNeg 0).toInt = ((a 95).getD x1.toNatClampNeg 0).toInt := congrArg (fun z : List Int32 => (z.getD x1.toNatClampNeg 0).toInt) (fa13 95 (by decide))
      refine ko_callI mi_k13.1 (pc := 72) (ls := [(7, .int 11), (6, .int 0), (0, .ref 94), (1, .int x1), (2, .int 6), (3, .int 2), (4, .int x4), (5, .int x5)]) (st := [.int (x5 + 1), .int x4, .int 2, .int x1, .ref 94]) (h := ks (ku i 6019 ((i 6019) + 1)) a13 q r) (i := (.invokevirtual 43, 3, 14, 0, 9, 0, 301)) (mi_k13.2 _ _ (by rfl)) (ft_invS mi_pq14 (by rfl)) (cy := mi_c14) mi_pq14 rfl (kc14_94_l12_K6 hJ15.I hJ15.R x1 x4 (x5 + 1) (oz1339 hp0.1 hp0.2) (oz1486 hp1 u18) (oz1340 hp2.1 hp2.2 s16 kn1) (oz1345 fi_6019.1 hp3.2 s14 kn1)) (by decide) ?_
      intro vg19 ig19 ag19 qg19 rg19 kg19 hg19
      have hGg19 := kG_call hJ15 kg19 (by decide +kernel)
      have efig19_6019 : (ig19 6019).toInt = ((i 6019) + 1).toInt := kg19.ti 6019 rfl
      exact ft_ret mi_k13 (by rfl) (hP vg19 _ _ _ _ hGg19 (oz1342 efig19_6019 s14 kn1))
  ·
    have c21 : (40 : Int32).toInt ≤ x5.toInt := kd_ltF c; clear c
    exact (oz1346 c21 hp2.2 kn40).elim
set_option maxRecDepth 100000 in
theorem kc11_l06_l13 {i : Nat → Int32} {a : Nat → List Int32} {q : Nat → List Int64} {r : Nat → Nat} (hI : kI i a q) (hr : kr r)  : km 1 11 [.int 6, .int 3] (ks i a q r) (kPI (ks i a q r) (fun v => v.toInt = 0)) := by
  have hG := kG_self kW0 hI hr
  refine km_ofPI (q := (mi_h11, mi_c11)) rfl (by decide) (Nat.le_of_ble_eq_true rfl) ?_
  intro P hP
  first | refine ft_goL mi_k11 16 26 [(3, .int 0), (2, .int 6), (0, .int 6), (1, .int 3)] [.int (6 * 4), .ref (mi_RO + 3)] (by rfl) ?_
  refine ko_top (by decide : (6 * 4 : Int32) = 24) ?_
  refine fo_goS mi_k11 fz11_26_2_28 [.int (24 + 3), .ref (mi_RO + 3)] rfl ?_
  refine ko_top (by decide : (24 + 3 : Int32) = 27) ?_
  refine ft_ro mi_k11 (w := 0) (by decide +kernel) (by decide +kernel) ?_
  refine ft_goS mi_k11 3 38 [.int 6, .ref (mi_RO + 4)] (by rfl) ?_
  refine ft_ro mi_k11 (w := 0) (by decide +kernel) (by decide +kernel) ?_
  refine fo_goL mi_k11 fz11_39_2_43 [(3, .int (0 + 1)), (2, .int 0), (0, .int 6), (1, .int 3)] [] rfl ?_
  refine ko_loc (by decide : (0 + 1 : Int32) = 1) ?_
  first | refine ft_goL mi_k11 7 47 [(3, .int 1), (2, .int 0), (0, .int 6), (1, .int 3)] [.int 0] (by rfl) ?_ | refine ft_goS mi_k11 7 47 [.int 0] (by rfl) ?_
  exact ft_ret mi_k11 (by rfl) (hP 0 (oz236 kn0))
noncomputable def w14_94_l13_K6 : kW := ([6019], [96], [], [])
set_option maxRecDepth 100000 in
theorem kc14_94_l13_K6 {i : Nat → Int32} {a : Nat → List Int32} {q : Nat → List Int64} {r : Nat → Nat} (hI : kI i a q) (hr : kr r) (x1 : Int32) (x3 : Int32) (x4 : Int32) (hp0 : ((0 : Int) ≤ x1.toInt) ∧ (x1.toInt ≤ 49)) (hp1 : ((a 95).getD x1.toNatClampNeg 0).toInt = 6) (hp2 : ((0 : Int) ≤ x4.toInt) ∧ ((x4.toInt + 3) ≤ 39)) (hp3 : ((0 : Int) ≤ (i 6019).toInt) ∧ (((i 6019).toInt + 4) ≤ 900)) : km 11 14 [.ref 94, .int x1, .int 3, .int x3, .int x4] (ks i a q r) (kVI w14_94_l13_K6 i a q r (fun v i1 a1 q1 r1 => (i1 6019).toInt = ((i 6019).toInt + 4))) := by
  have hG := kG_self w14_94_l13_K6 hI hr
  refine km_ofI (q := (mi_h14, mi_c14)) rfl (by decide) (Nat.le_of_ble_eq_true rfl) ?_
  intro P hP
  have r1 : ((0 : Int) ≤ ((a 95).getD x1.toNatClampNeg 0).toInt) ∧ (((a 95).getD x1.toNatClampNeg 0).toInt ≤ 7) := hG.I.2.2.1 95 (x1.toNatClampNeg)
  have fi_6019 : ((0 : Int) ≤ (i 6019).toInt) ∧ ((i 6019).toInt ≤ 1000) := hG.I.1 6019
  refine fo_goL mi_k14 fz14_0_3_5 [(0, .ref 94), (1, .int x1), (2, .int 3), (3, .int x3), (4, .int x4)] [.int x1, .ref 95] rfl ?_
  refine ko_iald3 mi_k14.1 (n := 50) (c := 50) (ax := (0, 0, 0, 0, 0)) (mi_k14.2 _ _ (by rfl)) (by rfl) (ksG95 _ _ _ _) (hG.I.2.1 95) rfl (oz3 hp0.1) (oz1336 hp0.2) ?_
  refine ko_top (kj_eq (oz1484 hp1) (by decide) : ((a 95).getD x1.toNatClampNeg 0) = 6) ?_
  refine ft_goL mi_k14 9 66 [(5, .int 6), (0, .ref 94), (1, .int x1), (2, .int 3), (3, .int x3), (4, .int x4)] [.int x4, .int x3, .int 1, .int 6, .int x1, .ref 94] (by rfl) ?_
  refine ko_callI mi_k14.1 (pc := 66) (ls := [(5, .int 6), (0, .ref 94), (1, .int x1), (2, .int 3), (3, .int x3), (4, .int x4)]) (st := [.int x4, .int x3, .int 1, .int 6, .int x1, .ref 94]) (h := ks i a q r) (i := (.invokevirtual 35, 3, 13, 0, 9, 0, 297)) (mi_k14.2 _ _ (by rfl)) (ft_invS mi_pq13 (by rfl)) (cy := mi_c13) mi_pq13 rfl (kc13_94_l16_l21_K6 hG.I hG.R x1 x3 x4 (oz1339 hp0.1 hp0.2) (oz1484 hp1) (oz1396 hp2.1 hp2.2) (oz1397 fi_6019.1 hp3.2)) (by decide) ?_
  intro vg2 ig2 ag2 qg2 rg2 kg2 hg2
  have hGg2 := kG_call hG kg2 (by decide +kernel)
  have fig2_6019 : ((0 : Int) ≤ (ig2 6019).toInt) ∧ ((ig2 6019).toInt ≤ 1000) := hGg2.I.1 6019
  have z3 : (ig2 6019).toInt = ((i 6019).toInt + 3) := hg2
  refine fo_goL mi_k14 fz14_69_8_81 [(6, .int vg2), (5, .int 6), (0, .ref 94), (1, .int x1), (2, .int 3), (3, .int x3), (4, .int x4)] [.int x4, .int 1, .int 2, .int 6, .int x1, .ref 94, .int vg2] rfl ?_
  have r4 : ((0 : Int) ≤ ((ag2 95).getD x1.toNatClampNeg 0).toInt) ∧ (((ag2 95).getD x1.toNatClampNeg 0).toInt ≤ 7) := hGg2.I.2.2.1 95 (x1.toNatClampNeg)
  have u5 : ((ag2 95).getD x1.toNatClampNeg 0).toInt = ((a 95).getD x1.toNatClampNeg 0).toInt := congrArg (fun z : List Int32 => (z.getD x1.toNatClampNeg 0).toInt) (kg2.fa 95 rfl)
  refine ko_callI mi_k14.1 (pc := 81) (ls := [(6, .int vg2), (5, .int 6), (0, .ref 94), (1, .int x1), (2, .int 3), (3, .int x3), (4, .int x4)]) (st := [.int x4, .int 1, .int 2, .int 6, .int x1, .ref 94, .int vg2]) (h := ks ig2 ag2 qg2 rg2) (i := (.invokevirtual 35, 3, 13, 0, 9, 0, 297)) (mi_k14.2 _ _ (by rfl)) (ft_invS mi_pq13 (by rfl)) (cy := mi_c13) mi_pq13 rfl (kc13_94_l16_l22_K6 hGg2.I hGg2.R x1 1 x4 (oz1339 hp0.1 hp0.2) (oz1486 hp1 u5) (oz1398 hp2.1 hp2.2) (oz1399 fig2_6019.1 hp3.2 z3)) (by decide) ?_
  intro vg6 ig6 ag6 qg6 rg6 kg6 hg6
  have hGg6 := kG_call hGg2 kg6 (by decide +kernel)
  have z7 : (ig6 6019).toInt = ((ig2 6019).toInt + 1) := hg6
  have b8 : ((-2147483648 : Int) ≤ vg2.toInt) ∧ (vg2.toInt ≤ 2147483647) := kd_bd vg2
  have b9 : ((-2147483648 : Int) ≤ vg6.toInt) ∧ (vg6.toInt ≤ 2147483647) := kd_bd vg6
  refine fo_goS mi_k14 fz14_84_1_85 [.int (vg2 - vg6)] rfl ?_
  exact ft_ret mi_k14 (by rfl) (hP (vg2 - vg6) _ _ _ _ hGg6 (oz1400 z3 z7))
noncomputable def w13_94_l16_l23_K6 : kW := ([6019], [96], [], [])
set_option maxRecDepth 100000 in
theorem kc13_94_l16_l23_K6 {i : Nat → Int32} {a : Nat → List Int32} {q : Nat → List Int64} {r : Nat → Nat} (hI : kI i a q) (hr : kr r) (x1 : Int32) (x4 : Int32) (x5 : Int32) (hp0 : ((0 : Int) ≤ x1.toInt) ∧ (x1.toInt ≤ 49)) (hp1 : ((a 95).getD x1.toNatClampNeg 0).toInt = 6) (hp2 : ((0 : Int) ≤ x5.toInt) ∧ ((x5.toInt + 4) ≤ 39)) (hp3 : ((0 : Int) ≤ (i 6019).toInt) ∧ (((i 6019).toInt + 5) ≤ 900)) : km 13 13 [.ref 94, .int x1, .int 6, .int 3, .int x4, .int x5] (ks i a q r) (kVI w13_94_l16_l23_K6 i a q r (fun v i1 a1 q1 r1 => (i1 6019).toInt = ((i 6019).toInt + 5))) := by
  have hG := kG_self w13_94_l16_l23_K6 hI hr
  refine km_ofI (q := (mi_h13, mi_c13)) rfl (by decide) (Nat.le_of_ble_eq_true rfl) ?_
  intro P hP
  have r1 : ((0 : Int) ≤ ((a 95).getD x1.toNatClampNeg 0).toInt) ∧ (((a 95).getD x1.toNatClampNeg 0).toInt ≤ 7) := hG.I.2.2.1 95 (x1.toNatClampNeg)
  have fi_6019 : ((0 : Int) ≤ (i 6019).toInt) ∧ ((i 6019).toInt ≤ 1000) := hG.I.1 6019
  refine fo_goL mi_k13 fz13_0_2_4 [(0, .ref 94), (1, .int x1), (2, .int 6), (3, .int 3), (4, .int x4), (5, .int x5)] [.int 40, .int x5] rfl ?_
  refine ft_ifS mi_k13 (decide (x5 < 40)) 9 7 [] (by rfl) (fun c => ?_) (fun c => ?_)
  ·
    have c2 : x5.toInt < (40 : Int32).toInt := kd_lt c; clear c
    refine fo_goS mi_k13 fz13_9_2_11 [.int 3, .int 6] rfl ?_
    refine ko_callPI mi_k13.1 (pc := 11) (ls := [(0, .ref 94), (1, .int x1), (2, .int 6), (3, .int 3), (4, .int x4), (5, .int x5)]) (st := [.int 3, .int 6]) (h := ks i a q r) (i := (.invokestatic 39, 3, 11, 0, 9, 0, 298)) (mi_k13.2 _ _ (by rfl)) (ft_invS mi_pq11 (by rfl)) (cy := mi_c11) mi_pq11 rfl (kc11_l06_l13 hG.I hG.R ) (by decide) ?_
    intro vg3 hg3
    have z4 : vg3.toInt = 0 := hg3
    have evvg3 := kj_eq (oz236 z4) (by decide : (0 : Int32).toInt = 0)
    subst evvg3
    refine ft_goL mi_k13 5 23 [(6, .int 0), (0, .ref 94), (1, .int x1), (2, .int 6), (3, .int 3), (4, .int x4), (5, .int x5)] [.int (0 * 4), .ref (mi_RO + 3)] (by rfl) ?_
    refine ko_top (by decide : (0 * 4 : Int32) = 0) ?_
    refine fo_goS mi_k13 fz13_23_2_25 [.int (0 + 3), .ref (mi_RO + 3)] rfl ?_
    refine ko_top (by decide : (0 + 3 : Int32) = 3) ?_
    refine ft_ro mi_k13 (w := 2) (by decide +kernel) (by decide +kernel) ?_
    refine fo_goL mi_k13 fz13_26_4_34 [(7, .int 2), (6, .int 0), (0, .ref 94), (1, .int x1), (2, .int 6), (3, .int 3), (4, .int x4), (5, .int x5)] [.int 24, .int (i 6019)] rfl ?_
    refine ft_ifS mi_k13 (decide (24 ≤ (i 6019))) 48 37 [] (by rfl) (fun c => ?_) (fun c => ?_)
    ·
      have c6 : (24 : Int32).toInt ≤ (i 6019).toInt := kd_le c; clear c
      have s7 : ((i 6019) + 1).toInt = (i 6019).toInt + (1 : Int32).toInt := kd_add (oz1332 c6 kn24 kn1) (oz951 fi_6019.2 kn1)
      have hJ8 := kG_i hG 6019 rfl (v := ((i 6019) + 1)) ⟨(oz1333 c6 s7 kn24 kn1), (oz1394 hp3.2 s7 kn1)⟩
      have s9 : (x5 + 1).toInt = x5.toInt + (1 : Int32).toInt := kd_add (oz12 hp2.1 kn1) (oz1395 hp2.2 kn1)
      first | refine fo_goI mi_k13 fz13_48_15_72 [.int (x5 + 1), .int x4, .int 3, .int x1, .ref 94] (ku i 6019 ((i 6019) + 1)) (by rfl) ?_ | refine ft_go mi_k13 15 72 [(7, .int 2), (6, .int 0), (0, .ref 94), (1, .int x1), (2, .int 6), (3, .int 3), (4, .int x4), (5, .int x5)] [.int (x5 + 1), .int x4, .int 3, .int x1, .ref 94] (ku i 6019 ((i 6019) + 1)) a q r (by rfl) ?_
      refine ko_callI mi_k13.1 (pc := 72) (ls := [(7, .int 2), (6, .int 0), (0, .ref 94), (1, .int x1), (2, .int 6), (3, .int 3), (4, .int x4), (5, .int x5)]) (st := [.int (x5 + 1), .int x4, .int 3, .int x1, .ref 94]) (h := ks (ku i 6019 ((i 6019) + 1)) a q r) (i := (.invokevirtual 43, 3, 14, 0, 9, 0, 301)) (mi_k13.2 _ _ (by rfl)) (ft_invS mi_pq14 (by rfl)) (cy := mi_c14) mi_pq14 rfl (kc14_94_l13_K6 hJ8.I hJ8.R x1 x4 (x5 + 1) (oz1339 hp0.1 hp0.2) (oz1484 hp1) (oz1401 hp2.1 hp2.2 s9 kn1) (oz1402 c6 hp3.2 s7 kn24 kn1)) (by decide) ?_
      intro vg10 ig10 ag10 qg10 rg10 kg10 hg10
      have hGg10 := kG_call hJ8 kg10 (by decide +kernel)
      have z11 : (ig10 6019).toInt = (((i 6019) + 1).toInt + 4) := hg10
      exact ft_ret mi_k13 (by rfl) (hP vg10 _ _ _ _ hGg10 (oz1403 s7 z11 kn1))
    ·
      have c12 : (i 6019).toInt < (24 : Int32).toInt := kd_leF c; clear c
      refine fo_goS mi_k13 fz13_37_5_47 [.int 2, .int (i 6019), .ref 96] rfl ?_
      refine ko_iast3 mi_k13.1 (n := 24) (c := 24) (ax := (0, 0, 0, 0, 0)) (mi_k13.2 _ _ (by rfl)) (by rfl) (ksG96 _ _ _ _) (ksA96 _ _ _ _) (hG.I.2.1 96) rfl (oz3 fi_6019.1) (oz1343 c12 kn24) ?_
      intro a13 ea13 fa13
      have hJ13 := kG_a3 hG 96 rfl ea13 fa13 (kd_bd _)
      have s14 : ((i 6019) + 1).toInt = (i 6019).toInt + (1 : Int32).toInt := kd_add (oz12 fi_6019.1 kn1) (oz951 fi_6019.2 kn1)
      have hJ15 := kG_i hJ13 6019 rfl (v := ((i 6019) + 1)) ⟨(oz14 fi_6019.1 s14 kn1), (oz1394 hp3.2 s14 kn1)⟩
      have s16 : (x5 + 1).toInt = x5.toInt + (1 : Int32).toInt := kd_add (oz12 hp2.1 kn1) (oz1395 hp2.2 kn1)
      first | refine fo_goI mi_k13 fz13_48_15_72 [.int (x5 + 1), .int x4, .int 3, .int x1, .ref 94] (ku i 6019 ((i 6019) + 1)) (by rfl) ?_ | refine ft_go mi_k13 15 72 [(7, .int 2), (6, .int 0), (0, .ref 94), (1, .int x1), (2, .int 6), (3, .int 3), (4, .int x4), (5, .int x5)] [.int (x5 + 1), .int x4, .int 3, .int x1, .ref 94] (ku i 6019 ((i 6019) + 1)) a13 q r (by rfl) ?_
      have r17 : ((0 : Int) ≤ ((a13 95).getD x1.toNatClampNeg 0).toInt) ∧ (((a13 95).getD x1.toNatClampNeg 0).toInt ≤ 7) := hJ15.I.2.2.1 95 (x1.toNatClampNeg)
      have u18 : ((a13 95).getD x1.toNatClampNeg 0).toInt = ((a 95).getD x1.toNatClampNeg 0).toInt := congrArg (fun z : List Int32 => (z.getD x1.toNatClampNeg 0).toInt) (fa13 95 (by decide))
      refine ko_callI mi_k13.1 (pc := 72) (ls := [(7, .int 2), (6, .int 0), (0, .ref 94), (1, .int x1), (2, .int 6), (3, .int 3), (4, .int x4), (5, .int x5)]) (st := [.int (x5 + 1), .int x4, .int 3, .int x1, .ref 94]) (h := ks (ku i 6019 ((i 6019) + 1)) a13 q r) (i := (.invokevirtual 43, 3, 14, 0, 9, 0, 301)) (mi_k13.2 _ _ (by rfl)) (ft_invS mi_pq14 (by rfl)) (cy := mi_c14) mi_pq14 rfl (kc14_94_l13_K6 hJ15.I hJ15.R x1 x4 (x5 + 1) (oz1339 hp0.1 hp0.2) (oz1486 hp1 u18) (oz1401 hp2.1 hp2.2 s16 kn1) (oz1404 fi_6019.1 hp3.2 s14 kn1)) (by decide) ?_
      intro vg19 ig19 ag19 qg19 rg19 kg19 hg19
      have hGg19 := kG_call hJ15 kg19 (by decide +kernel)
      have z20 : (ig19 6019).toInt = (((i 6019) + 1).toInt + 4) := hg19
      exact ft_ret mi_k13 (by rfl) (hP vg19 _ _ _ _ hGg19 (oz1403 s14 z20 kn1))
  ·
    have c21 : (40 : Int32).toInt ≤ x5.toInt := kd_ltF c; clear c
    exact (oz1405 c21 hp2.2 kn40).elim
set_option maxRecDepth 100000 in
theorem kc11_l07_l10 {i : Nat → Int32} {a : Nat → List Int32} {q : Nat → List Int64} {r : Nat → Nat} (hI : kI i a q) (hr : kr r)  : km 1 11 [.int 7, .int 0] (ks i a q r) (kPI (ks i a q r) (fun v => v.toInt = 1)) := by
  have hG := kG_self kW0 hI hr
  refine km_ofPI (q := (mi_h11, mi_c11)) rfl (by decide) (Nat.le_of_ble_eq_true rfl) ?_
  intro P hP
  first | refine ft_goL mi_k11 16 26 [(3, .int 0), (2, .int 7), (0, .int 7), (1, .int 0)] [.int (7 * 4), .ref (mi_RO + 3)] (by rfl) ?_
  refine ko_top (by decide : (7 * 4 : Int32) = 28) ?_
  refine fo_goS mi_k11 fz11_26_2_28 [.int (28 + 0), .ref (mi_RO + 3)] rfl ?_
  refine ko_top (by decide : (28 + 0 : Int32) = 28) ?_
  refine ft_ro mi_k11 (w := 0) (by decide +kernel) (by decide +kernel) ?_
  refine ft_goS mi_k11 3 38 [.int 7, .ref (mi_RO + 4)] (by rfl) ?_
  refine ft_ro mi_k11 (w := 4) (by decide +kernel) (by decide +kernel) ?_
  refine fo_goL mi_k11 fz11_39_2_43 [(3, .int (0 + 1)), (2, .int 4), (0, .int 7), (1, .int 0)] [] rfl ?_
  refine ko_loc (by decide : (0 + 1 : Int32) = 1) ?_
  first | refine ft_goL mi_k11 13 26 [(3, .int 1), (2, .int 4), (0, .int 7), (1, .int 0)] [.int (4 * 4), .ref (mi_RO + 3)] (by rfl) ?_ | refine ft_goS mi_k11 13 26 [.int (4 * 4), .ref (mi_RO + 3)] (by rfl) ?_
  refine ko_top (by decide : (4 * 4 : Int32) = 16) ?_
  refine fo_goS mi_k11 fz11_26_2_28 [.int (16 + 0), .ref (mi_RO + 3)] rfl ?_
  refine ko_top (by decide : (16 + 0 : Int32) = 16) ?_
  refine ft_ro mi_k11 (w := 0) (by decide +kernel) (by decide +kernel) ?_
  refine ft_goS mi_k11 3 38 [.int 4, .ref (mi_RO + 4)] (by rfl) ?_
  refine ft_ro mi_k11 (w := 1) (by decide +kernel) (by decide +kernel) ?_
  refine fo_goL mi_k11 fz11_39_2_43 [(3, .int (1 + 1)), (2, .int 1), (0, .int 7), (1, .int 0)] [] rfl ?_
  refine ko_loc (by decide : (1 + 1 : Int32) = 2) ?_
  first | refine ft_goL mi_k11 13 26 [(3, .int 2), (2, .int 1), (0, .int 7), (1, .int 0)] [.int (1 * 4), .ref (mi_RO + 3)] (by rfl) ?_ | refine ft_goS mi_k11 13 26 [.int (1 * 4), .ref (mi_RO + 3)] (by rfl) ?_
  refine ko_top (by decide : (1 * 4 : Int32) = 4) ?_
  refine fo_goS mi_k11 fz11_26_2_28 [.int (4 + 0), .ref (mi_RO + 3)] rfl ?_
  refine ko_top (by decide : (4 + 0 : Int32) = 4) ?_
  refine ft_ro mi_k11 (w := 20) (by decide +kernel) (by decide +kernel) ?_
  refine fo_goS mi_k11 fz11_29_2_33 [.int 1] rfl ?_
  exact ft_ret mi_k11 (by rfl) (hP 1 (oz1381 kn1))
noncomputable def w14_94_l10_K7 : kW := ([], [], [], [])
set_option maxRecDepth 100000 in
theorem kc14_94_l10_K7 {i : Nat → Int32} {a : Nat → List Int32} {q : Nat → List Int64} {r : Nat → Nat} (hI : kI i a q) (hr : kr r) (x1 : Int32) (x3 : Int32) (x4 : Int32) (hp0 : ((0 : Int) ≤ x1.toInt) ∧ (x1.toInt ≤ 49)) (hp1 : ((a 95).getD x1.toNatClampNeg 0).toInt = 7) (hp2 : ((0 : Int) ≤ x4.toInt) ∧ ((x4.toInt + 0) ≤ 39)) (hp3 : ((0 : Int) ≤ (i 6019).toInt) ∧ (((i 6019).toInt + 0) ≤ 900)) : km 1 14 [.ref 94, .int x1, .int 0, .int x3, .int x4] (ks i a q r) (kVI w14_94_l10_K7 i a q r (fun v i1 a1 q1 r1 => (i1 6019).toInt = ((i 6019).toInt + 0))) := by
  have hG := kG_self w14_94_l10_K7 hI hr
  refine km_ofI (q := (mi_h14, mi_c14)) rfl (by decide) (Nat.le_of_ble_eq_true rfl) ?_
  intro P hP
  have r1 : ((0 : Int) ≤ ((a 95).getD x1.toNatClampNeg 0).toInt) ∧ (((a 95).getD x1.toNatClampNeg 0).toInt ≤ 7) := hG.I.2.2.1 95 (x1.toNatClampNeg)
  refine fo_goL mi_k14 fz14_0_3_5 [(0, .ref 94), (1, .int x1), (2, .int 0), (3, .int x3), (4, .int x4)] [.int x1, .ref 95] rfl ?_
  refine ko_iald3 mi_k14.1 (n := 50) (c := 50) (ax := (0, 0, 0, 0, 0)) (mi_k14.2 _ _ (by rfl)) (by rfl) (ksG95 _ _ _ _) (hG.I.2.1 95) rfl (oz3 hp0.1) (oz1336 hp0.2) ?_
  refine ko_top (kj_eq (oz1495 hp1 r1.2) (by decide) : ((a 95).getD x1.toNatClampNeg 0) = 7) ?_
  have b2 : ((-2147483648 : Int) ≤ x3.toInt) ∧ (x3.toInt ≤ 2147483647) := kd_bd x3
  have b3 : ((-2147483648 : Int) ≤ x1.toInt) ∧ (x1.toInt ≤ 2147483647) := kd_bd x1
  refine ft_goL mi_k14 6 39 [(5, .int 7), (0, .ref 94), (1, .int x1), (2, .int 0), (3, .int x3), (4, .int x4)] [.int (x3 + x1)] (by rfl) ?_
  exact ft_ret mi_k14 (by rfl) (hP (x3 + x1) _ _ _ _ hG oz1338)
noncomputable def w13_94_l10_l20_K7 : kW := ([6019], [96], [], [])
set_option maxRecDepth 100000 in
theorem kc13_94_l10_l20_K7 {i : Nat → Int32} {a : Nat → List Int32} {q : Nat → List Int64} {r : Nat → Nat} (hI : kI i a q) (hr : kr r) (x1 : Int32) (x4 : Int32) (x5 : Int32) (hp0 : ((0 : Int) ≤ x1.toInt) ∧ (x1.toInt ≤ 49)) (hp1 : ((a 95).getD x1.toNatClampNeg 0).toInt = 7) (hp2 : ((0 : Int) ≤ x5.toInt) ∧ ((x5.toInt + 1) ≤ 39)) (hp3 : ((0 : Int) ≤ (i 6019).toInt) ∧ (((i 6019).toInt + 1) ≤ 900)) : km 3 13 [.ref 94, .int x1, .int 0, .int 0, .int x4, .int x5] (ks i a q r) (kVI w13_94_l10_l20_K7 i a q r (fun v i1 a1 q1 r1 => (i1 6019).toInt = ((i 6019).toInt + 1))) := by
  have hG := kG_self w13_94_l10_l20_K7 hI hr
  refine km_ofI (q := (mi_h13, mi_c13)) rfl (by decide) (Nat.le_of_ble_eq_true rfl) ?_
  intro P hP
  have r1 : ((0 : Int) ≤ ((a 95).getD x1.toNatClampNeg 0).toInt) ∧ (((a 95).getD x1.toNatClampNeg 0).toInt ≤ 7) := hG.I.2.2.1 95 (x1.toNatClampNeg)
  have fi_6019 : ((0 : Int) ≤ (i 6019).toInt) ∧ ((i 6019).toInt ≤ 1000) := hG.I.1 6019
  refine fo_goL mi_k13 fz13_0_2_4 [(0, .ref 94), (1, .int x1), (2, .int 0), (3, .int 0), (4, .int x4), (5, .int x5)] [.int 40, .int x5] rfl ?_
  refine ft_ifS mi_k13 (decide (x5 < 40)) 9 7 [] (by rfl) (fun c => ?_) (fun c => ?_)
  ·
    have c2 : x5.toInt < (40 : Int32).toInt := kd_lt c; clear c
    refine fo_goS mi_k13 fz13_9_2_11 [.int 0, .int 0] rfl ?_
    refine ko_callPI mi_k13.1 (pc := 11) (ls := [(0, .ref 94), (1, .int x1), (2, .int 0), (3, .int 0), (4, .int x4), (5, .int x5)]) (st := [.int 0, .int 0]) (h := ks i a q r) (i := (.invokestatic 39, 3, 11, 0, 9, 0, 298)) (mi_k13.2 _ _ (by rfl)) (ft_invS mi_pq11 (by rfl)) (cy := mi_c11) mi_pq11 rfl (kc11_l00_l10 hG.I hG.R ) (by decide) ?_
    intro vg3 hg3
    have z4 : vg3.toInt = 0 := hg3
    have evvg3 := kj_eq (oz236 z4) (by decide : (0 : Int32).toInt = 0)
    subst evvg3
    refine ft_goL mi_k13 5 23 [(6, .int 0), (0, .ref 94), (1, .int x1), (2, .int 0), (3, .int 0), (4, .int x4), (5, .int x5)] [.int (0 * 4), .ref (mi_RO + 3)] (by rfl) ?_
    refine ko_top (by decide : (0 * 4 : Int32) = 0) ?_
    refine fo_goS mi_k13 fz13_23_2_25 [.int (0 + 0), .ref (mi_RO + 3)] rfl ?_
    refine ko_top (by decide : (0 + 0 : Int32) = 0) ?_
    refine ft_ro mi_k13 (w := 1) (by decide +kernel) (by decide +kernel) ?_
    refine fo_goL mi_k13 fz13_26_4_34 [(7, .int 1), (6, .int 0), (0, .ref 94), (1, .int x1), (2, .int 0), (3, .int 0), (4, .int x4), (5, .int x5)] [.int 24, .int (i 6019)] rfl ?_
    refine ft_ifS mi_k13 (decide (24 ≤ (i 6019))) 48 37 [] (by rfl) (fun c => ?_) (fun c => ?_)
    ·
      have c6 : (24 : Int32).toInt ≤ (i 6019).toInt := kd_le c; clear c
      have s7 : ((i 6019) + 1).toInt = (i 6019).toInt + (1 : Int32).toInt := kd_add (oz1332 c6 kn24 kn1) (oz951 fi_6019.2 kn1)
      have hJ8 := kG_i hG 6019 rfl (v := ((i 6019) + 1)) ⟨(oz1333 c6 s7 kn24 kn1), (oz1334 hp3.2 s7 kn1)⟩
      have s9 : (x5 + 1).toInt = x5.toInt + (1 : Int32).toInt := kd_add (oz12 hp2.1 kn1) (oz1335 hp2.2 kn1)
      first | refine fo_goI mi_k13 fz13_48_15_72 [.int (x5 + 1), .int x4, .int 0, .int x1, .ref 94] (ku i 6019 ((i 6019) + 1)) (by rfl) ?_ | refine ft_go mi_k13 15 72 [(7, .int 1), (6, .int 0), (0, .ref 94), (1, .int x1), (2, .int 0), (3, .int 0), (4, .int x4), (5, .int x5)] [.int (x5 + 1), .int x4, .int 0, .int x1, .ref 94] (ku i 6019 ((i 6019) + 1)) a q r (by rfl) ?_
      refine ko_callI mi_k13.1 (pc := 72) (ls := [(7, .int 1), (6, .int 0), (0, .ref 94), (1, .int x1), (2, .int 0), (3, .int 0), (4, .int x4), (5, .int x5)]) (st := [.int (x5 + 1), .int x4, .int 0, .int x1, .ref 94]) (h := ks (ku i 6019 ((i 6019) + 1)) a q r) (i := (.invokevirtual 43, 3, 14, 0, 9, 0, 301)) (mi_k13.2 _ _ (by rfl)) (ft_invS mi_pq14 (by rfl)) (cy := mi_c14) mi_pq14 rfl (kc14_94_l10_K7 hJ8.I hJ8.R x1 x4 (x5 + 1) (oz1339 hp0.1 hp0.2) (oz1495 hp1 r1.2) (oz1340 hp2.1 hp2.2 s9 kn1) (oz1341 c6 hp3.2 s7 kn24 kn1)) (by decide) ?_
      intro vg10 ig10 ag10 qg10 rg10 kg10 hg10
      have hGg10 := kG_call hJ8 kg10 (by decide +kernel)
      have efig10_6019 : (ig10 6019).toInt = ((i 6019) + 1).toInt := kg10.ti 6019 rfl
      exact ft_ret mi_k13 (by rfl) (hP vg10 _ _ _ _ hGg10 (oz1342 efig10_6019 s7 kn1))
    ·
      have c12 : (i 6019).toInt < (24 : Int32).toInt := kd_leF c; clear c
      refine fo_goS mi_k13 fz13_37_5_47 [.int 1, .int (i 6019), .ref 96] rfl ?_
      refine ko_iast3 mi_k13.1 (n := 24) (c := 24) (ax := (0, 0, 0, 0, 0)) (mi_k13.2 _ _ (by rfl)) (by rfl) (ksG96 _ _ _ _) (ksA96 _ _ _ _) (hG.I.2.1 96) rfl (oz3 fi_6019.1) (oz1343 c12 kn24) ?_
      intro a13 ea13 fa13
      have hJ13 := kG_a3 hG 96 rfl ea13 fa13 (kd_bd _)
      have s14 : ((i 6019) + 1).toInt = (i 6019).toInt + (1 : Int32).toInt := kd_add (oz12 fi_6019.1 kn1) (oz951 fi_6019.2 kn1)
      have hJ15 := kG_i hJ13 6019 rfl (v := ((i 6019) + 1)) ⟨(oz14 fi_6019.1 s14 kn1), (oz1334 hp3.2 s14 kn1)⟩
      have s16 : (x5 + 1).toInt = x5.toInt + (1 : Int32).toInt := kd_add (oz12 hp2.1 kn1) (oz1335 hp2.2 kn1)
      first | refine fo_goI mi_k13 fz13_48_15_72 [.int (x5 + 1), .int x4, .int 0, .int x1, .ref 94] (ku i 6019 ((i 6019) + 1)) (by rfl) ?_ | refine ft_go mi_k13 15 72 [(7, .int 1), (6, .int 0), (0, .ref 94), (1, .int x1), (2, .int 0), (3, .int 0), (4, .int x4), (5, .int x5)] [.int (x5 + 1), .int x4, .int 0, .int x1, .ref 94] (ku i 6019 ((i 6019) + 1)) a13 q r (by rfl) ?_
      have r17 : ((0 : Int) ≤ ((a13 95).getD x1.toNatClampNeg 0).toInt) ∧ (((a13 95).getD x1.toNatClampNeg 0).toInt ≤ 7) := hJ15.I.2.2.1 95 (x1.toNatClampNeg)
      have u18 : ((a13 95).getD x1.toNatClampNeg 0).toInt = ((a 95).getD x1.toNatClampNeg 0).toInt := congrArg (fun z : List Int32 => (z.getD x1.toNatClampNeg 0).toInt) (fa13 95 (by decide))
      refine ko_callI mi_k13.1 (pc := 72) (ls := [(7, .int 1), (6, .int 0), (0, .ref 94), (1, .int x1), (2, .int 0), (3, .int 0), (4, .int x4), (5, .int x5)]) (st := [.int (x5 + 1), .int x4, .int 0, .int x1, .ref 94]) (h := ks (ku i 6019 ((i 6019) + 1)) a13 q r) (i := (.invokevirtual 43, 3, 14, 0, 9, 0, 301)) (mi_k13.2 _ _ (by rfl)) (ft_invS mi_pq14 (by rfl)) (cy := mi_c14) mi_pq14 rfl (kc14_94_l10_K7 hJ15.I hJ15.R x1 x4 (x5 + 1) (oz1339 hp0.1 hp0.2) (oz1496 hp1 r17.2 u18) (oz1340 hp2.1 hp2.2 s16 kn1) (oz1345 fi_6019.1 hp3.2 s14 kn1)) (by decide) ?_
      intro vg19 ig19 ag19 qg19 rg19 kg19 hg19
      have hGg19 := kG_call hJ15 kg19 (by decide +kernel)
      have efig19_6019 : (ig19 6019).toInt = ((i 6019) + 1).toInt := kg19.ti 6019 rfl
      exact ft_ret mi_k13 (by rfl) (hP vg19 _ _ _ _ hGg19 (oz1342 efig19_6019 s14 kn1))
  ·
    have c21 : (40 : Int32).toInt ≤ x5.toInt := kd_ltF c; clear c
    exact (oz1346 c21 hp2.2 kn40).elim
noncomputable def w13_94_l17_l20_K7 : kW := ([6019], [96], [], [])
set_option maxRecDepth 100000 in
theorem kc13_94_l17_l20_K7 {i : Nat → Int32} {a : Nat → List Int32} {q : Nat → List Int64} {r : Nat → Nat} (hI : kI i a q) (hr : kr r) (x1 : Int32) (x4 : Int32) (x5 : Int32) (hp0 : ((0 : Int) ≤ x1.toInt) ∧ (x1.toInt ≤ 49)) (hp1 : ((a 95).getD x1.toNatClampNeg 0).toInt = 7) (hp2 : ((0 : Int) ≤ x5.toInt) ∧ ((x5.toInt + 2) ≤ 39)) (hp3 : ((0 : Int) ≤ (i 6019).toInt) ∧ (((i 6019).toInt + 2) ≤ 900)) : km 5 13 [.ref 94, .int x1, .int 7, .int 0, .int x4, .int x5] (ks i a q r) (kVI w13_94_l17_l20_K7 i a q r (fun v i1 a1 q1 r1 => (i1 6019).toInt = ((i 6019).toInt + 2))) := by
  have hG := kG_self w13_94_l17_l20_K7 hI hr
  refine km_ofI (q := (mi_h13, mi_c13)) rfl (by decide) (Nat.le_of_ble_eq_true rfl) ?_
  intro P hP
  have r1 : ((0 : Int) ≤ ((a 95).getD x1.toNatClampNeg 0).toInt) ∧ (((a 95).getD x1.toNatClampNeg 0).toInt ≤ 7) := hG.I.2.2.1 95 (x1.toNatClampNeg)
  have fi_6019 : ((0 : Int) ≤ (i 6019).toInt) ∧ ((i 6019).toInt ≤ 1000) := hG.I.1 6019
  refine fo_goL mi_k13 fz13_0_2_4 [(0, .ref 94), (1, .int x1), (2, .int 7), (3, .int 0), (4, .int x4), (5, .int x5)] [.int 40, .int x5] rfl ?_
  refine ft_ifS mi_k13 (decide (x5 < 40)) 9 7 [] (by rfl) (fun c => ?_) (fun c => ?_)
  ·
    have c2 : x5.toInt < (40 : Int32).toInt := kd_lt c; clear c
    refine fo_goS mi_k13 fz13_9_2_11 [.int 0, .int 7] rfl ?_
    refine ko_callPI mi_k13.1 (pc := 11) (ls := [(0, .ref 94), (1, .int x1), (2, .int 7), (3, .int 0), (4, .int x4), (5, .int x5)]) (st := [.int 0, .int 7]) (h := ks i a q r) (i := (.invokestatic 39, 3, 11, 0, 9, 0, 298)) (mi_k13.2 _ _ (by rfl)) (ft_invS mi_pq11 (by rfl)) (cy := mi_c11) mi_pq11 rfl (kc11_l07_l10 hG.I hG.R ) (by decide) ?_
    intro vg3 hg3
    have z4 : vg3.toInt = 1 := hg3
    have evvg3 := kj_eq (oz1381 z4) (by decide : (1 : Int32).toInt = 1)
    subst evvg3
    refine ft_goL mi_k13 5 23 [(6, .int 1), (0, .ref 94), (1, .int x1), (2, .int 7), (3, .int 0), (4, .int x4), (5, .int x5)] [.int (1 * 4), .ref (mi_RO + 3)] (by rfl) ?_
    refine ko_top (by decide : (1 * 4 : Int32) = 4) ?_
    refine fo_goS mi_k13 fz13_23_2_25 [.int (4 + 0), .ref (mi_RO + 3)] rfl ?_
    refine ko_top (by decide : (4 + 0 : Int32) = 4) ?_
    refine ft_ro mi_k13 (w := 20) (by decide +kernel) (by decide +kernel) ?_
    refine fo_goL mi_k13 fz13_26_4_34 [(7, .int 20), (6, .int 1), (0, .ref 94), (1, .int x1), (2, .int 7), (3, .int 0), (4, .int x4), (5, .int x5)] [.int 24, .int (i 6019)] rfl ?_
    refine ft_ifS mi_k13 (decide (24 ≤ (i 6019))) 48 37 [] (by rfl) (fun c => ?_) (fun c => ?_)
    ·
      have c6 : (24 : Int32).toInt ≤ (i 6019).toInt := kd_le c; clear c
      have s7 : ((i 6019) + 1).toInt = (i 6019).toInt + (1 : Int32).toInt := kd_add (oz1332 c6 kn24 kn1) (oz951 fi_6019.2 kn1)
      have hJ8 := kG_i hG 6019 rfl (v := ((i 6019) + 1)) ⟨(oz1333 c6 s7 kn24 kn1), (oz1351 hp3.2 s7 kn1)⟩
      refine ft_goI mi_k13 12 83 [.int 1, .ref (mi_RO + 4), .int x1, .ref 94] (ku i 6019 ((i 6019) + 1)) (by rfl) ?_
      refine ft_ro mi_k13 (w := 0) (by decide +kernel) (by decide +kernel) ?_
      have s10 : (x5 + 1).toInt = x5.toInt + (1 : Int32).toInt := kd_add (oz12 hp2.1 kn1) (oz1352 hp2.2 kn1)
      first | refine ft_goS mi_k13 8 105 [.int (x5 + 1), .int x4, .int 0, .int 0, .int x1, .ref 94] (by rfl) ?_
      refine ko_callI mi_k13.1 (pc := 105) (ls := [(7, .int 20), (6, .int 1), (0, .ref 94), (1, .int x1), (2, .int 7), (3, .int 0), (4, .int x4), (5, .int x5)]) (st := [.int (x5 + 1), .int x4, .int 0, .int 0, .int x1, .ref 94]) (h := ks (ku i 6019 ((i 6019) + 1)) a q r) (i := (.invokevirtual 35, 3, 13, 0, 9, 0, 297)) (mi_k13.2 _ _ (by rfl)) (ft_invS mi_pq13 (by rfl)) (cy := mi_c13) mi_pq13 rfl (kc13_94_l10_l20_K7 hJ8.I hJ8.R x1 x4 (x5 + 1) (oz1339 hp0.1 hp0.2) (oz1495 hp1 r1.2) (oz1356 hp2.1 hp2.2 s10 kn1) (oz1357 c6 hp3.2 s7 kn24 kn1)) (by decide) ?_
      intro vg11 ig11 ag11 qg11 rg11 kg11 hg11
      have hGg11 := kG_call hJ8 kg11 (by decide +kernel)
      have z12 : (ig11 6019).toInt = (((i 6019) + 1).toInt + 1) := hg11
      have b13 : ((-2147483648 : Int) ≤ vg11.toInt) ∧ (vg11.toInt ≤ 2147483647) := kd_bd vg11
      refine ft_goL mi_k13 6 192 [(8, .int vg11), (7, .int 20), (6, .int 1), (0, .ref 94), (1, .int x1), (2, .int 7), (3, .int 0), (4, .int x4), (5, .int x5)] [.int (vg11 + 3)] (by rfl) ?_
      exact ft_ret mi_k13 (by rfl) (hP (vg11 + 3) _ _ _ _ hGg11 (oz1358 s7 z12 kn1))
    ·
      have c14 : (i 6019).toInt < (24 : Int32).toInt := kd_leF c; clear c
      refine fo_goS mi_k13 fz13_37_5_47 [.int 20, .int (i 6019), .ref 96] rfl ?_
      refine ko_iast3 mi_k13.1 (n := 24) (c := 24) (ax := (0, 0, 0, 0, 0)) (mi_k13.2 _ _ (by rfl)) (by rfl) (ksG96 _ _ _ _) (ksA96 _ _ _ _) (hG.I.2.1 96) rfl (oz3 fi_6019.1) (oz1343 c14 kn24) ?_
      intro a15 ea15 fa15
      have hJ15 := kG_a3 hG 96 rfl ea15 fa15 (kd_bd _)
      have s16 : ((i 6019) + 1).toInt = (i 6019).toInt + (1 : Int32).toInt := kd_add (oz12 fi_6019.1 kn1) (oz951 fi_6019.2 kn1)
      have hJ17 := kG_i hJ15 6019 rfl (v := ((i 6019) + 1)) ⟨(oz14 fi_6019.1 s16 kn1), (oz1351 hp3.2 s16 kn1)⟩
      refine ft_goI mi_k13 12 83 [.int 1, .ref (mi_RO + 4), .int x1, .ref 94] (ku i 6019 ((i 6019) + 1)) (by rfl) ?_
      refine ft_ro mi_k13 (w := 0) (by decide +kernel) (by decide +kernel) ?_
      have s19 : (x5 + 1).toInt = x5.toInt + (1 : Int32).toInt := kd_add (oz12 hp2.1 kn1) (oz1352 hp2.2 kn1)
      first | refine ft_goS mi_k13 8 105 [.int (x5 + 1), .int x4, .int 0, .int 0, .int x1, .ref 94] (by rfl) ?_
      have r20 : ((0 : Int) ≤ ((a15 95).getD x1.toNatClampNeg 0).toInt) ∧ (((a15 95).getD x1.toNatClampNeg 0).toInt ≤ 7) := hJ17.I.2.2.1 95 (x1.toNatClampNeg)
      have u21 : ((a15 95).getD x1.toNatClampNeg 0).toInt = ((a 95).getD x1.toNatClampNeg 0).toInt := congrArg (fun z : List Int32 => (z.getD x1.toNatClampNeg 0).toInt) (fa15 95 (by decide))
      refine ko_callI mi_k13.1 (pc := 105) (ls := [(7, .int 20), (6, .int 1), (0, .ref 94), (1, .int x1), (2, .int 7), (3, .int 0), (4, .int x4), (5, .int x5)]) (st := [.int (x5 + 1), .int x4, .int 0, .int 0, .int x1, .ref 94]) (h := ks (ku i 6019 ((i 6019) + 1)) a15 q r) (i := (.invokevirtual 35, 3, 13, 0, 9, 0, 297)) (mi_k13.2 _ _ (by rfl)) (ft_invS mi_pq13 (by rfl)) (cy := mi_c13) mi_pq13 rfl (kc13_94_l10_l20_K7 hJ17.I hJ17.R x1 x4 (x5 + 1) (oz1339 hp0.1 hp0.2) (oz1496 hp1 r20.2 u21) (oz1356 hp2.1 hp2.2 s19 kn1) (oz1359 fi_6019.1 hp3.2 s16 kn1)) (by decide) ?_
      intro vg22 ig22 ag22 qg22 rg22 kg22 hg22
      have hGg22 := kG_call hJ17 kg22 (by decide +kernel)
      have z23 : (ig22 6019).toInt = (((i 6019) + 1).toInt + 1) := hg22
      have b24 : ((-2147483648 : Int) ≤ vg22.toInt) ∧ (vg22.toInt ≤ 2147483647) := kd_bd vg22
      refine ft_goL mi_k13 6 192 [(8, .int vg22), (7, .int 20), (6, .int 1), (0, .ref 94), (1, .int x1), (2, .int 7), (3, .int 0), (4, .int x4), (5, .int x5)] [.int (vg22 + 3)] (by rfl) ?_
      exact ft_ret mi_k13 (by rfl) (hP (vg22 + 3) _ _ _ _ hGg22 (oz1358 s16 z23 kn1))
  ·
    have c25 : (40 : Int32).toInt ≤ x5.toInt := kd_ltF c; clear c
    exact (oz1360 c25 hp2.2 kn40).elim
set_option maxRecDepth 100000 in
theorem kc11_l07_l11 {i : Nat → Int32} {a : Nat → List Int32} {q : Nat → List Int64} {r : Nat → Nat} (hI : kI i a q) (hr : kr r)  : km 1 11 [.int 7, .int 1] (ks i a q r) (kPI (ks i a q r) (fun v => v.toInt = 7)) := by
  have hG := kG_self kW0 hI hr
  refine km_ofPI (q := (mi_h11, mi_c11)) rfl (by decide) (Nat.le_of_ble_eq_true rfl) ?_
  intro P hP
  first | refine ft_goL mi_k11 16 26 [(3, .int 0), (2, .int 7), (0, .int 7), (1, .int 1)] [.int (7 * 4), .ref (mi_RO + 3)] (by rfl) ?_
  refine ko_top (by decide : (7 * 4 : Int32) = 28) ?_
  refine fo_goS mi_k11 fz11_26_2_28 [.int (28 + 1), .ref (mi_RO + 3)] rfl ?_
  refine ko_top (by decide : (28 + 1 : Int32) = 29) ?_
  refine ft_ro mi_k11 (w := 80) (by decide +kernel) (by decide +kernel) ?_
  refine fo_goS mi_k11 fz11_29_2_33 [.int 7] rfl ?_
  exact ft_ret mi_k11 (by rfl) (hP 7 (oz1500 kn7))
noncomputable def w14_94_l11_K7 : kW := ([6019], [96], [], [])
set_option maxRecDepth 100000 in
theorem kc14_94_l11_K7 {i : Nat → Int32} {a : Nat → List Int32} {q : Nat → List Int64} {r : Nat → Nat} (hI : kI i a q) (hr : kr r) (x1 : Int32) (x3 : Int32) (x4 : Int32) (hp0 : ((0 : Int) ≤ x1.toInt) ∧ (x1.toInt ≤ 49)) (hp1 : ((a 95).getD x1.toNatClampNeg 0).toInt = 7) (hp2 : ((0 : Int) ≤ x4.toInt) ∧ ((x4.toInt + 2) ≤ 39)) (hp3 : ((0 : Int) ≤ (i 6019).toInt) ∧ (((i 6019).toInt + 2) ≤ 900)) : km 7 14 [.ref 94, .int x1, .int 1, .int x3, .int x4] (ks i a q r) (kVI w14_94_l11_K7 i a q r (fun v i1 a1 q1 r1 => (i1 6019).toInt = ((i 6019).toInt + 2))) := by
  have hG := kG_self w14_94_l11_K7 hI hr
  refine km_ofI (q := (mi_h14, mi_c14)) rfl (by decide) (Nat.le_of_ble_eq_true rfl) ?_
  intro P hP
  have r1 : ((0 : Int) ≤ ((a 95).getD x1.toNatClampNeg 0).toInt) ∧ (((a 95).getD x1.toNatClampNeg 0).toInt ≤ 7) := hG.I.2.2.1 95 (x1.toNatClampNeg)
  have fi_6019 : ((0 : Int) ≤ (i 6019).toInt) ∧ ((i 6019).toInt ≤ 1000) := hG.I.1 6019
  refine fo_goL mi_k14 fz14_0_3_5 [(0, .ref 94), (1, .int x1), (2, .int 1), (3, .int x3), (4, .int x4)] [.int x1, .ref 95] rfl ?_
  refine ko_iald3 mi_k14.1 (n := 50) (c := 50) (ax := (0, 0, 0, 0, 0)) (mi_k14.2 _ _ (by rfl)) (by rfl) (ksG95 _ _ _ _) (hG.I.2.1 95) rfl (oz3 hp0.1) (oz1336 hp0.2) ?_
  refine ko_top (kj_eq (oz1495 hp1 r1.2) (by decide) : ((a 95).getD x1.toNatClampNeg 0) = 7) ?_
  refine ft_goL mi_k14 9 48 [(5, .int 7), (0, .ref 94), (1, .int x1), (2, .int 1), (3, .int x3), (4, .int x4)] [.int x4, .int x3, .int 0, .int 7, .int x1, .ref 94] (by rfl) ?_
  refine ko_callI mi_k14.1 (pc := 48) (ls := [(5, .int 7), (0, .ref 94), (1, .int x1), (2, .int 1), (3, .int x3), (4, .int x4)]) (st := [.int x4, .int x3, .int 0, .int 7, .int x1, .ref 94]) (h := ks i a q r) (i := (.invokevirtual 35, 3, 13, 0, 9, 0, 297)) (mi_k14.2 _ _ (by rfl)) (ft_invS mi_pq13 (by rfl)) (cy := mi_c13) mi_pq13 rfl (kc13_94_l17_l20_K7 hG.I hG.R x1 x3 x4 (oz1339 hp0.1 hp0.2) (oz1495 hp1 r1.2) (oz1367 hp2.1 hp2.2) (oz1386 fi_6019.1 hp3.2)) (by decide) ?_
  intro vg2 ig2 ag2 qg2 rg2 kg2 hg2
  have hGg2 := kG_call hG kg2 (by decide +kernel)
  have z3 : (ig2 6019).toInt = ((i 6019).toInt + 2) := hg2
  have b4 : ((-2147483648 : Int) ≤ vg2.toInt) ∧ (vg2.toInt ≤ 2147483647) := kd_bd vg2
  refine fo_goS mi_k14 fz14_51_2_53 [.int (vg2 * 2)] rfl ?_
  exact ft_ret mi_k14 (by rfl) (hP (vg2 * 2) _ _ _ _ hGg2 (oz1387 z3))
noncomputable def w13_94_l14_l21_K7 : kW := ([6019], [96], [], [])
set_option maxRecDepth 100000 in
theorem kc13_94_l14_l21_K7 {i : Nat → Int32} {a : Nat → List Int32} {q : Nat → List Int64} {r : Nat → Nat} (hI : kI i a q) (hr : kr r) (x1 : Int32) (x4 : Int32) (x5 : Int32) (hp0 : ((0 : Int) ≤ x1.toInt) ∧ (x1.toInt ≤ 49)) (hp1 : ((a 95).getD x1.toNatClampNeg 0).toInt = 7) (hp2 : ((0 : Int) ≤ x5.toInt) ∧ ((x5.toInt + 3) ≤ 39)) (hp3 : ((0 : Int) ≤ (i 6019).toInt) ∧ (((i 6019).toInt + 3) ≤ 900)) : km 9 13 [.ref 94, .int x1, .int 4, .int 1, .int x4, .int x5] (ks i a q r) (kVI w13_94_l14_l21_K7 i a q r (fun v i1 a1 q1 r1 => (i1 6019).toInt = ((i 6019).toInt + 3))) := by
  have hG := kG_self w13_94_l14_l21_K7 hI hr
  refine km_ofI (q := (mi_h13, mi_c13)) rfl (by decide) (Nat.le_of_ble_eq_true rfl) ?_
  intro P hP
  have r1 : ((0 : Int) ≤ ((a 95).getD x1.toNatClampNeg 0).toInt) ∧ (((a 95).getD x1.toNatClampNeg 0).toInt ≤ 7) := hG.I.2.2.1 95 (x1.toNatClampNeg)
  have fi_6019 : ((0 : Int) ≤ (i 6019).toInt) ∧ ((i 6019).toInt ≤ 1000) := hG.I.1 6019
  refine fo_goL mi_k13 fz13_0_2_4 [(0, .ref 94), (1, .int x1), (2, .int 4), (3, .int 1), (4, .int x4), (5, .int x5)] [.int 40, .int x5] rfl ?_
  refine ft_ifS mi_k13 (decide (x5 < 40)) 9 7 [] (by rfl) (fun c => ?_) (fun c => ?_)
  ·
    have c2 : x5.toInt < (40 : Int32).toInt := kd_lt c; clear c
    refine fo_goS mi_k13 fz13_9_2_11 [.int 1, .int 4] rfl ?_
    refine ko_callPI mi_k13.1 (pc := 11) (ls := [(0, .ref 94), (1, .int x1), (2, .int 4), (3, .int 1), (4, .int x4), (5, .int x5)]) (st := [.int 1, .int 4]) (h := ks i a q r) (i := (.invokestatic 39, 3, 11, 0, 9, 0, 298)) (mi_k13.2 _ _ (by rfl)) (ft_invS mi_pq11 (by rfl)) (cy := mi_c11) mi_pq11 rfl (kc11_l04_l11 hG.I hG.R ) (by decide) ?_
    intro vg3 hg3
    have z4 : vg3.toInt = 0 := hg3
    have evvg3 := kj_eq (oz236 z4) (by decide : (0 : Int32).toInt = 0)
    subst evvg3
    refine ft_goL mi_k13 5 23 [(6, .int 0), (0, .ref 94), (1, .int x1), (2, .int 4), (3, .int 1), (4, .int x4), (5, .int x5)] [.int (0 * 4), .ref (mi_RO + 3)] (by rfl) ?_
    refine ko_top (by decide : (0 * 4 : Int32) = 0) ?_
    refine fo_goS mi_k13 fz13_23_2_25 [.int (0 + 1), .ref (mi_RO + 3)] rfl ?_
    refine ko_top (by decide : (0 + 1 : Int32) = 1) ?_
    refine ft_ro mi_k13 (w := 10) (by decide +kernel) (by decide +kernel) ?_
    refine fo_goL mi_k13 fz13_26_4_34 [(7, .int 10), (6, .int 0), (0, .ref 94), (1, .int x1), (2, .int 4), (3, .int 1), (4, .int x4), (5, .int x5)] [.int 24, .int (i 6019)] rfl ?_
    refine ft_ifS mi_k13 (decide (24 ≤ (i 6019))) 48 37 [] (by rfl) (fun c => ?_) (fun c => ?_)
    ·
      have c6 : (24 : Int32).toInt ≤ (i 6019).toInt := kd_le c; clear c
      have s7 : ((i 6019) + 1).toInt = (i 6019).toInt + (1 : Int32).toInt := kd_add (oz1332 c6 kn24 kn1) (oz951 fi_6019.2 kn1)
      have hJ8 := kG_i hG 6019 rfl (v := ((i 6019) + 1)) ⟨(oz1333 c6 s7 kn24 kn1), (oz1385 hp3.2 s7 kn1)⟩
      have s9 : (x5 + 1).toInt = x5.toInt + (1 : Int32).toInt := kd_add (oz12 hp2.1 kn1) (oz1366 hp2.2 kn1)
      first | refine fo_goI mi_k13 fz13_48_15_72 [.int (x5 + 1), .int x4, .int 1, .int x1, .ref 94] (ku i 6019 ((i 6019) + 1)) (by rfl) ?_ | refine ft_go mi_k13 15 72 [(7, .int 10), (6, .int 0), (0, .ref 94), (1, .int x1), (2, .int 4), (3, .int 1), (4, .int x4), (5, .int x5)] [.int (x5 + 1), .int x4, .int 1, .int x1, .ref 94] (ku i 6019 ((i 6019) + 1)) a q r (by rfl) ?_
      refine ko_callI mi_k13.1 (pc := 72) (ls := [(7, .int 10), (6, .int 0), (0, .ref 94), (1, .int x1), (2, .int 4), (3, .int 1), (4, .int x4), (5, .int x5)]) (st := [.int (x5 + 1), .int x4, .int 1, .int x1, .ref 94]) (h := ks (ku i 6019 ((i 6019) + 1)) a q r) (i := (.invokevirtual 43, 3, 14, 0, 9, 0, 301)) (mi_k13.2 _ _ (by rfl)) (ft_invS mi_pq14 (by rfl)) (cy := mi_c14) mi_pq14 rfl (kc14_94_l11_K7 hJ8.I hJ8.R x1 x4 (x5 + 1) (oz1339 hp0.1 hp0.2) (oz1495 hp1 r1.2) (oz1372 hp2.1 hp2.2 s9 kn1) (oz1388 c6 hp3.2 s7 kn24 kn1)) (by decide) ?_
      intro vg10 ig10 ag10 qg10 rg10 kg10 hg10
      have hGg10 := kG_call hJ8 kg10 (by decide +kernel)
      have z11 : (ig10 6019).toInt = (((i 6019) + 1).toInt + 2) := hg10
      exact ft_ret mi_k13 (by rfl) (hP vg10 _ _ _ _ hGg10 (oz1389 s7 z11 kn1))
    ·
      have c12 : (i 6019).toInt < (24 : Int32).toInt := kd_leF c; clear c
      refine fo_goS mi_k13 fz13_37_5_47 [.int 10, .int (i 6019), .ref 96] rfl ?_
      refine ko_iast3 mi_k13.1 (n := 24) (c := 24) (ax := (0, 0, 0, 0, 0)) (mi_k13.2 _ _ (by rfl)) (by rfl) (ksG96 _ _ _ _) (ksA96 _ _ _ _) (hG.I.2.1 96) rfl (oz3 fi_6019.1) (oz1343 c12 kn24) ?_
      intro a13 ea13 fa13
      have hJ13 := kG_a3 hG 96 rfl ea13 fa13 (kd_bd _)
      have s14 : ((i 6019) + 1).toInt = (i 6019).toInt + (1 : Int32).toInt := kd_add (oz12 fi_6019.1 kn1) (oz951 fi_6019.2 kn1)
      have hJ15 := kG_i hJ13 6019 rfl (v := ((i 6019) + 1)) ⟨(oz14 fi_6019.1 s14 kn1), (oz1385 hp3.2 s14 kn1)⟩
      have s16 : (x5 + 1).toInt = x5.toInt + (1 : Int32).toInt := kd_add (oz12 hp2.1 kn1) (oz1366 hp2.2 kn1)
      first | refine fo_goI mi_k13 fz13_48_15_72 [.int (x5 + 1), .int x4, .int 1, .int x1, .ref 94] (ku i 6019 ((i 6019) + 1)) (by rfl) ?_ | refine ft_go mi_k13 15 72 [(7, .int 10), (6, .int 0), (0, .ref 94), (1, .int x1), (2, .int 4), (3, .int 1), (4, .int x4), (5, .int x5)] [.int (x5 + 1), .int x4, .int 1, .int x1, .ref 94] (ku i 6019 ((i 6019) + 1)) a13 q r (by rfl) ?_
      have r17 : ((0 : Int) ≤ ((a13 95).getD x1.toNatClampNeg 0).toInt) ∧ (((a13 95).getD x1.toNatClampNeg 0).toInt ≤ 7) := hJ15.I.2.2.1 95 (x1.toNatClampNeg)
      have u18 : ((a13 95).getD x1.toNatClampNeg 0).toInt = ((a 95).getD x1.toNatClampNeg 0).toInt := congrArg (fun z : List Int32 => (z.getD x1.toNatClampNeg 0).toInt) (fa13 95 (by decide))
      refine ko_callI mi_k13.1 (pc := 72) (ls := [(7, .int 10), (6, .int 0), (0, .ref 94), (1, .int x1), (2, .int 4), (3, .int 1), (4, .int x4), (5, .int x5)]) (st := [.int (x5 + 1), .int x4, .int 1, .int x1, .ref 94]) (h := ks (ku i 6019 ((i 6019) + 1)) a13 q r) (i := (.invokevirtual 43, 3, 14, 0, 9, 0, 301)) (mi_k13.2 _ _ (by rfl)) (ft_invS mi_pq14 (by rfl)) (cy := mi_c14) mi_pq14 rfl (kc14_94_l11_K7 hJ15.I hJ15.R x1 x4 (x5 + 1) (oz1339 hp0.1 hp0.2) (oz1496 hp1 r17.2 u18) (oz1372 hp2.1 hp2.2 s16 kn1) (oz1390 fi_6019.1 hp3.2 s14 kn1)) (by decide) ?_
      intro vg19 ig19 ag19 qg19 rg19 kg19 hg19
      have hGg19 := kG_call hJ15 kg19 (by decide +kernel)
      have z20 : (ig19 6019).toInt = (((i 6019) + 1).toInt + 2) := hg19
      exact ft_ret mi_k13 (by rfl) (hP vg19 _ _ _ _ hGg19 (oz1389 s14 z20 kn1))
  ·
    have c21 : (40 : Int32).toInt ≤ x5.toInt := kd_ltF c; clear c
    exact (oz1376 c21 hp2.2 kn40).elim
set_option maxRecDepth 100000 in
theorem kc11_l07_l12 {i : Nat → Int32} {a : Nat → List Int32} {q : Nat → List Int64} {r : Nat → Nat} (hI : kI i a q) (hr : kr r)  : km 1 11 [.int 7, .int 2] (ks i a q r) (kPI (ks i a q r) (fun v => v.toInt = 4)) := by
  have hG := kG_self kW0 hI hr
  refine km_ofPI (q := (mi_h11, mi_c11)) rfl (by decide) (Nat.le_of_ble_eq_true rfl) ?_
  intro P hP
  first | refine ft_goL mi_k11 16 26 [(3, .int 0), (2, .int 7), (0, .int 7), (1, .int 2)] [.int (7 * 4), .ref (mi_RO + 3)] (by rfl) ?_
  refine ko_top (by decide : (7 * 4 : Int32) = 28) ?_
  refine fo_goS mi_k11 fz11_26_2_28 [.int (28 + 2), .ref (mi_RO + 3)] rfl ?_
  refine ko_top (by decide : (28 + 2 : Int32) = 30) ?_
  refine ft_ro mi_k11 (w := 0) (by decide +kernel) (by decide +kernel) ?_
  refine ft_goS mi_k11 3 38 [.int 7, .ref (mi_RO + 4)] (by rfl) ?_
  refine ft_ro mi_k11 (w := 4) (by decide +kernel) (by decide +kernel) ?_
  refine fo_goL mi_k11 fz11_39_2_43 [(3, .int (0 + 1)), (2, .int 4), (0, .int 7), (1, .int 2)] [] rfl ?_
  refine ko_loc (by decide : (0 + 1 : Int32) = 1) ?_
  first | refine ft_goL mi_k11 13 26 [(3, .int 1), (2, .int 4), (0, .int 7), (1, .int 2)] [.int (4 * 4), .ref (mi_RO + 3)] (by rfl) ?_ | refine ft_goS mi_k11 13 26 [.int (4 * 4), .ref (mi_RO + 3)] (by rfl) ?_
  refine ko_top (by decide : (4 * 4 : Int32) = 16) ?_
  refine fo_goS mi_k11 fz11_26_2_28 [.int (16 + 2), .ref (mi_RO + 3)] rfl ?_
  refine ko_top (by decide : (16 + 2 : Int32) = 18) ?_
  refine ft_ro mi_k11 (w := 50) (by decide +kernel) (by decide +kernel) ?_
  refine fo_goS mi_k11 fz11_29_2_33 [.int 4] rfl ?_
  exact ft_ret mi_k11 (by rfl) (hP 4 (oz1446 kn4))
noncomputable def w14_94_l12_K7 : kW := ([], [], [], [])
set_option maxRecDepth 100000 in
theorem kc14_94_l12_K7 {i : Nat → Int32} {a : Nat → List Int32} {q : Nat → List Int64} {r : Nat → Nat} (hI : kI i a q) (hr : kr r) (x1 : Int32) (x3 : Int32) (x4 : Int32) (hp0 : ((0 : Int) ≤ x1.toInt) ∧ (x1.toInt ≤ 49)) (hp1 : ((a 95).getD x1.toNatClampNeg 0).toInt = 7) (hp2 : ((0 : Int) ≤ x4.toInt) ∧ ((x4.toInt + 0) ≤ 39)) (hp3 : ((0 : Int) ≤ (i 6019).toInt) ∧ (((i 6019).toInt + 0) ≤ 900)) : km 1 14 [.ref 94, .int x1, .int 2, .int x3, .int x4] (ks i a q r) (kVI w14_94_l12_K7 i a q r (fun v i1 a1 q1 r1 => (i1 6019).toInt = ((i 6019).toInt + 0))) := by
  have hG := kG_self w14_94_l12_K7 hI hr
  refine km_ofI (q := (mi_h14, mi_c14)) rfl (by decide) (Nat.le_of_ble_eq_true rfl) ?_
  intro P hP
  have r1 : ((0 : Int) ≤ ((a 95).getD x1.toNatClampNeg 0).toInt) ∧ (((a 95).getD x1.toNatClampNeg 0).toInt ≤ 7) := hG.I.2.2.1 95 (x1.toNatClampNeg)
  refine fo_goL mi_k14 fz14_0_3_5 [(0, .ref 94), (1, .int x1), (2, .int 2), (3, .int x3), (4, .int x4)] [.int x1, .ref 95] rfl ?_
  refine ko_iald3 mi_k14.1 (n := 50) (c := 50) (ax := (0, 0, 0, 0, 0)) (mi_k14.2 _ _ (by rfl)) (by rfl) (ksG95 _ _ _ _) (hG.I.2.1 95) rfl (oz3 hp0.1) (oz1336 hp0.2) ?_
  refine ko_top (kj_eq (oz1495 hp1 r1.2) (by decide) : ((a 95).getD x1.toNatClampNeg 0) = 7) ?_
  refine ft_goL mi_k14 6 57 [(5, .int 7), (0, .ref 94), (1, .int x1), (2, .int 2), (3, .int x3), (4, .int x4)] [.int (x3 ^^^ x1)] (by rfl) ?_
  exact ft_ret mi_k14 (by rfl) (hP (x3 ^^^ x1) _ _ _ _ hG oz1338)
noncomputable def w13_94_l11_l22_K7 : kW := ([6019], [96], [], [])
set_option maxRecDepth 100000 in
theorem kc13_94_l11_l22_K7 {i : Nat → Int32} {a : Nat → List Int32} {q : Nat → List Int64} {r : Nat → Nat} (hI : kI i a q) (hr : kr r) (x1 : Int32) (x4 : Int32) (x5 : Int32) (hp0 : ((0 : Int) ≤ x1.toInt) ∧ (x1.toInt ≤ 49)) (hp1 : ((a 95).getD x1.toNatClampNeg 0).toInt = 7) (hp2 : ((0 : Int) ≤ x5.toInt) ∧ ((x5.toInt + 1) ≤ 39)) (hp3 : ((0 : Int) ≤ (i 6019).toInt) ∧ (((i 6019).toInt + 1) ≤ 900)) : km 3 13 [.ref 94, .int x1, .int 1, .int 2, .int x4, .int x5] (ks i a q r) (kVI w13_94_l11_l22_K7 i a q r (fun v i1 a1 q1 r1 => (i1 6019).toInt = ((i 6019).toInt + 1))) := by
  have hG := kG_self w13_94_l11_l22_K7 hI hr
  refine km_ofI (q := (mi_h13, mi_c13)) rfl (by decide) (Nat.le_of_ble_eq_true rfl) ?_
  intro P hP
  have r1 : ((0 : Int) ≤ ((a 95).getD x1.toNatClampNeg 0).toInt) ∧ (((a 95).getD x1.toNatClampNeg 0).toInt ≤ 7) := hG.I.2.2.1 95 (x1.toNatClampNeg)
  have fi_6019 : ((0 : Int) ≤ (i 6019).toInt) ∧ ((i 6019).toInt ≤ 1000) := hG.I.1 6019
  refine fo_goL mi_k13 fz13_0_2_4 [(0, .ref 94), (1, .int x1), (2, .int 1), (3, .int 2), (4, .int x4), (5, .int x5)] [.int 40, .int x5] rfl ?_
  refine ft_ifS mi_k13 (decide (x5 < 40)) 9 7 [] (by rfl) (fun c => ?_) (fun c => ?_)
  ·
    have c2 : x5.toInt < (40 : Int32).toInt := kd_lt c; clear c
    refine fo_goS mi_k13 fz13_9_2_11 [.int 2, .int 1] rfl ?_
    refine ko_callPI mi_k13.1 (pc := 11) (ls := [(0, .ref 94), (1, .int x1), (2, .int 1), (3, .int 2), (4, .int x4), (5, .int x5)]) (st := [.int 2, .int 1]) (h := ks i a q r) (i := (.invokestatic 39, 3, 11, 0, 9, 0, 298)) (mi_k13.2 _ _ (by rfl)) (ft_invS mi_pq11 (by rfl)) (cy := mi_c11) mi_pq11 rfl (kc11_l01_l12 hG.I hG.R ) (by decide) ?_
    intro vg3 hg3
    have z4 : vg3.toInt = 0 := hg3
    have evvg3 := kj_eq (oz236 z4) (by decide : (0 : Int32).toInt = 0)
    subst evvg3
    refine ft_goL mi_k13 5 23 [(6, .int 0), (0, .ref 94), (1, .int x1), (2, .int 1), (3, .int 2), (4, .int x4), (5, .int x5)] [.int (0 * 4), .ref (mi_RO + 3)] (by rfl) ?_
    refine ko_top (by decide : (0 * 4 : Int32) = 0) ?_
    refine fo_goS mi_k13 fz13_23_2_25 [.int (0 + 2), .ref (mi_RO + 3)] rfl ?_
    refine ko_top (by decide : (0 + 2 : Int32) = 2) ?_
    refine ft_ro mi_k13 (w := 11) (by decide +kernel) (by decide +kernel) ?_
    refine fo_goL mi_k13 fz13_26_4_34 [(7, .int 11), (6, .int 0), (0, .ref 94), (1, .int x1), (2, .int 1), (3, .int 2), (4, .int x4), (5, .int x5)] [.int 24, .int (i 6019)] rfl ?_
    refine ft_ifS mi_k13 (decide (24 ≤ (i 6019))) 48 37 [] (by rfl) (fun c => ?_) (fun c => ?_)
    ·
      have c6 : (24 : Int32).toInt ≤ (i 6019).toInt := kd_le c; clear c
      have s7 : ((i 6019) + 1).toInt = (i 6019).toInt + (1 : Int32).toInt := kd_add (oz1332 c6 kn24 kn1) (oz951 fi_6019.2 kn1)
      have hJ8 := kG_i hG 6019 rfl (v := ((i 6019) + 1)) ⟨(oz1333 c6 s7 kn24 kn1), (oz1334 hp3.2 s7 kn1)⟩
      have s9 : (x5 + 1).toInt = x5.toInt + (1 : Int32).toInt := kd_add (oz12 hp2.1 kn1) (oz1335 hp2.2 kn1)
      first | refine fo_goI mi_k13 fz13_48_15_72 [.int (x5 + 1), .int x4, .int 2, .int x1, .ref 94] (ku i 6019 ((i 6019) + 1)) (by rfl) ?_ | refine ft_go mi_k13 15 72 [(7, .int 11), (6, .int 0), (0, .ref 94), (1, .int x1), (2, .int 1), (3, .int 2), (4, .int x4), (5, .int x5)] [.int (x5 + 1), .int x4, .int 2, .int x1, .ref 94] (ku i 6019 ((i 6019) + 1)) a q r (by rfl) ?_
      refine ko_callI mi_k13.1 (pc := 72) (ls := [(7, .int 11), (6, .int 0), (0, .ref 94), (1, .int x1), (2, .int 1), (3, .int 2), (4, .int x4), (5, .int x5)]) (st := [.int (x5 + 1), .int x4, .int 2, .int x1, .ref 94]) (h := ks (ku i 6019 ((i 6019) + 1)) a q r) (i := (.invokevirtual 43, 3, 14, 0, 9, 0, 301)) (mi_k13.2 _ _ (by rfl)) (ft_invS mi_pq14 (by rfl)) (cy := mi_c14) mi_pq14 rfl (kc14_94_l12_K7 hJ8.I hJ8.R x1 x4 (x5 + 1) (oz1339 hp0.1 hp0.2) (oz1495 hp1 r1.2) (oz1340 hp2.1 hp2.2 s9 kn1) (oz1341 c6 hp3.2 s7 kn24 kn1)) (by decide) ?_
      intro vg10 ig10 ag10 qg10 rg10 kg10 hg10
      have hGg10 := kG_call hJ8 kg10 (by decide +kernel)
      have efig10_6019 : (ig10 6019).toInt = ((i 6019) + 1).toInt := kg10.ti 6019 rfl
      exact ft_ret mi_k13 (by rfl) (hP vg10 _ _ _ _ hGg10 (oz1342 efig10_6019 s7 kn1))
    ·
      have c12 : (i 6019).toInt < (24 : Int32).toInt := kd_leF c; clear c
      refine fo_goS mi_k13 fz13_37_5_47 [.int 11, .int (i 6019), .ref 96] rfl ?_
      refine ko_iast3 mi_k13.1 (n := 24) (c := 24) (ax := (0, 0, 0, 0, 0)) (mi_k13.2 _ _ (by rfl)) (by rfl) (ksG96 _ _ _ _) (ksA96 _ _ _ _) (hG.I.2.1 96) rfl (oz3 fi_6019.1) (oz1343 c12 kn24) ?_
      intro a13 ea13 fa13
      have hJ13 := kG_a3 hG 96 rfl ea13 fa13 (kd_bd _)
      have s14 : ((i 6019) + 1).toInt = (i 6019).toInt + (1 : Int32).toInt := kd_add (oz12 fi_6019.1 kn1) (oz951 fi_6019.2 kn1)
      have hJ15 := kG_i hJ13 6019 rfl (v := ((i 6019) + 1)) ⟨(oz14 fi_6019.1 s14 kn1), (oz1334 hp3.2 s14 kn1)⟩
      have s16 : (x5 + 1).toInt = x5.toInt + (1 : Int32).toInt := kd_add (oz12 hp2.1 kn1) (oz1335 hp2.2 kn1)
      first | refine fo_goI mi_k13 fz13_48_15_72 [.int (x5 + 1), .int x4, .int 2, .int x1, .ref 94] (ku i 6019 ((i 6019) + 1)) (by rfl) ?_ | refine ft_go mi_k13 15 72 [(7, .int 11), (6, .int 0), (0, .ref 94), (1, .int x1), (2, .int 1), (3, .int 2), (4, .int x4), (5, .int x5)] [.int (x5 + 1), .int x4, .int 2, .int x1, .ref 94] (ku i 6019 ((i 6019) + 1)) a13 q r (by rfl) ?_
      have r17 : ((0 : Int) ≤ ((a13 95).getD x1.toNatClampNeg 0).toInt) ∧ (((a13 95).getD x1.toNatClampNeg 0).toInt ≤ 7) := hJ15.I.2.2.1 95 (x1.toNatClampNeg)
      have u18 : ((a13 95).getD x1.toNatClampNeg 0).toInt = ((a 95).getD x1.toNatClampNeg 0).toInt := congrArg (fun z : List Int32 => (z.getD x1.toNatClampNeg 0).toInt) (fa13 95 (by decide))
      refine ko_callI mi_k13.1 (pc := 72) (ls := [(7, .int 11), (6, .int 0), (0, .ref 94), (1, .int x1), (2, .int 1), (3, .int 2), (4, .int x4), (5, .int x5)]) (st := [.int (x5 + 1), .int x4, .int 2, .int x1, .ref 94]) (h := ks (ku i 6019 ((i 6019) + 1)) a13 q r) (i := (.invokevirtual 43, 3, 14, 0, 9, 0, 301)) (mi_k13.2 _ _ (by rfl)) (ft_invS mi_pq14 (by rfl)) (cy := mi_c14) mi_pq14 rfl (kc14_94_l12_K7 hJ15.I hJ15.R x1 x4 (x5 + 1) (oz1339 hp0.1 hp0.2) (oz1496 hp1 r17.2 u18) (oz1340 hp2.1 hp2.2 s16 kn1) (oz1345 fi_6019.1 hp3.2 s14 kn1)) (by decide) ?_
      intro vg19 ig19 ag19 qg19 rg19 kg19 hg19
      have hGg19 := kG_call hJ15 kg19 (by decide +kernel)
      have efig19_6019 : (ig19 6019).toInt = ((i 6019) + 1).toInt := kg19.ti 6019 rfl
      exact ft_ret mi_k13 (by rfl) (hP vg19 _ _ _ _ hGg19 (oz1342 efig19_6019 s14 kn1))
  ·
    have c21 : (40 : Int32).toInt ≤ x5.toInt := kd_ltF c; clear c
    exact (oz1346 c21 hp2.2 kn40).elim
noncomputable def w13_94_l17_l22_K7 : kW := ([6019], [96], [], [])
set_option maxRecDepth 100000 in
theorem kc13_94_l17_l22_K7 {i : Nat → Int32} {a : Nat → List Int32} {q : Nat → List Int64} {r : Nat → Nat} (hI : kI i a q) (hr : kr r) (x1 : Int32) (x4 : Int32) (x5 : Int32) (hp0 : ((0 : Int) ≤ x1.toInt) ∧ (x1.toInt ≤ 49)) (hp1 : ((a 95).getD x1.toNatClampNeg 0).toInt = 7) (hp2 : ((0 : Int) ≤ x5.toInt) ∧ ((x5.toInt + 3) ≤ 39)) (hp3 : ((0 : Int) ≤ (i 6019).toInt) ∧ (((i 6019).toInt + 4) ≤ 900)) : km 7 13 [.ref 94, .int x1, .int 7, .int 2, .int x4, .int x5] (ks i a q r) (kVI w13_94_l17_l22_K7 i a q r (fun v i1 a1 q1 r1 => (i1 6019).toInt = ((i 6019).toInt + 4))) := by
  have hG := kG_self w13_94_l17_l22_K7 hI hr
  refine km_ofI (q := (mi_h13, mi_c13)) rfl (by decide) (Nat.le_of_ble_eq_true rfl) ?_
  intro P hP
  have r1 : ((0 : Int) ≤ ((a 95).getD x1.toNatClampNeg 0).toInt) ∧ (((a 95).getD x1.toNatClampNeg 0).toInt ≤ 7) := hG.I.2.2.1 95 (x1.toNatClampNeg)
  have fi_6019 : ((0 : Int) ≤ (i 6019).toInt) ∧ ((i 6019).toInt ≤ 1000) := hG.I.1 6019
  refine fo_goL mi_k13 fz13_0_2_4 [(0, .ref 94), (1, .int x1), (2, .int 7), (3, .int 2), (4, .int x4), (5, .int x5)] [.int 40, .int x5] rfl ?_
  refine ft_ifS mi_k13 (decide (x5 < 40)) 9 7 [] (by rfl) (fun c => ?_) (fun c => ?_)
  ·
    have c2 : x5.toInt < (40 : Int32).toInt := kd_lt c; clear c
    refine fo_goS mi_k13 fz13_9_2_11 [.int 2, .int 7] rfl ?_
    refine ko_callPI mi_k13.1 (pc := 11) (ls := [(0, .ref 94), (1, .int x1), (2, .int 7), (3, .int 2), (4, .int x4), (5, .int x5)]) (st := [.int 2, .int 7]) (h := ks i a q r) (i := (.invokestatic 39, 3, 11, 0, 9, 0, 298)) (mi_k13.2 _ _ (by rfl)) (ft_invS mi_pq11 (by rfl)) (cy := mi_c11) mi_pq11 rfl (kc11_l07_l12 hG.I hG.R ) (by decide) ?_
    intro vg3 hg3
    have z4 : vg3.toInt = 4 := hg3
    have evvg3 := kj_eq (oz1446 z4) (by decide : (4 : Int32).toInt = 4)
    subst evvg3
    refine ft_goL mi_k13 5 23 [(6, .int 4), (0, .ref 94), (1, .int x1), (2, .int 7), (3, .int 2), (4, .int x4), (5, .int x5)] [.int (4 * 4), .ref (mi_RO + 3)] (by rfl) ?_
    refine ko_top (by decide : (4 * 4 : Int32) = 16) ?_
    refine fo_goS mi_k13 fz13_23_2_25 [.int (16 + 2), .ref (mi_RO + 3)] rfl ?_
    refine ko_top (by decide : (16 + 2 : Int32) = 18) ?_
    refine ft_ro mi_k13 (w := 50) (by decide +kernel) (by decide +kernel) ?_
    refine fo_goL mi_k13 fz13_26_4_34 [(7, .int 50), (6, .int 4), (0, .ref 94), (1, .int x1), (2, .int 7), (3, .int 2), (4, .int x4), (5, .int x5)] [.int 24, .int (i 6019)] rfl ?_
    refine ft_ifS mi_k13 (decide (24 ≤ (i 6019))) 48 37 [] (by rfl) (fun c => ?_) (fun c => ?_)
    ·
      have c6 : (24 : Int32).toInt ≤ (i 6019).toInt := kd_le c; clear c
      have s7 : ((i 6019) + 1).toInt = (i 6019).toInt + (1 : Int32).toInt := kd_add (oz1332 c6 kn24 kn1) (oz951 fi_6019.2 kn1)
      have hJ8 := kG_i hG 6019 rfl (v := ((i 6019) + 1)) ⟨(oz1333 c6 s7 kn24 kn1), (oz1365 hp3.2 s7 kn1)⟩
      refine ft_goI mi_k13 12 83 [.int 4, .ref (mi_RO + 4), .int x1, .ref 94] (ku i 6019 ((i 6019) + 1)) (by rfl) ?_
      refine ft_ro mi_k13 (w := 1) (by decide +kernel) (by decide +kernel) ?_
      have s10 : (x5 + 1).toInt = x5.toInt + (1 : Int32).toInt := kd_add (oz12 hp2.1 kn1) (oz1366 hp2.2 kn1)
      first | refine ft_goS mi_k13 8 105 [.int (x5 + 1), .int x4, .int 2, .int 1, .int x1, .ref 94] (by rfl) ?_
      refine ko_callI mi_k13.1 (pc := 105) (ls := [(7, .int 50), (6, .int 4), (0, .ref 94), (1, .int x1), (2, .int 7), (3, .int 2), (4, .int x4), (5, .int x5)]) (st := [.int (x5 + 1), .int x4, .int 2, .int 1, .int x1, .ref 94]) (h := ks (ku i 6019 ((i 6019) + 1)) a q r) (i := (.invokevirtual 35, 3, 13, 0, 9, 0, 297)) (mi_k13.2 _ _ (by rfl)) (ft_invS mi_pq13 (by rfl)) (cy := mi_c13) mi_pq13 rfl (kc13_94_l11_l22_K7 hJ8.I hJ8.R x1 x4 (x5 + 1) (oz1339 hp0.1 hp0.2) (oz1495 hp1 r1.2) (oz1451 hp2.1 hp2.2 s10 kn1) (oz1452 c6 hp3.2 s7 kn24 kn1)) (by decide) ?_
      intro vg11 ig11 ag11 qg11 rg11 kg11 hg11
      have hGg11 := kG_call hJ8 kg11 (by decide +kernel)
      have z12 : (ig11 6019).toInt = (((i 6019) + 1).toInt + 1) := hg11
      refine ft_goL mi_k13 9 211 [(8, .int vg11), (7, .int 50), (6, .int 4), (0, .ref 94), (1, .int x1), (2, .int 7), (3, .int 2), (4, .int x4), (5, .int x5)] [.int x1, .ref 95, .int x1, .ref 94, .int vg11] (by rfl) ?_
      refine ko_iald3 mi_k13.1 (n := 50) (c := 50) (ax := (0, 0, 0, 0, 0)) (mi_k13.2 _ _ (by rfl)) (by rfl) (ksG95 _ _ _ _) (hGg11.I.2.1 95) rfl (oz3 hp0.1) (oz1336 hp0.2) ?_
      have r13 : ((0 : Int) ≤ ((ag11 95).getD x1.toNatClampNeg 0).toInt) ∧ (((ag11 95).getD x1.toNatClampNeg 0).toInt ≤ 7) := hGg11.I.2.2.1 95 (x1.toNatClampNeg)
      have u14 : ((ag11 95).getD x1.toNatClampNeg 0).toInt = ((a 95).getD x1.toNatClampNeg 0).toInt := congrArg (fun z : List Int32 => (z.getD x1.toNatClampNeg 0).toInt) (kg11.fa 95 rfl)
      refine ko_top (kj_eq (oz1496 hp1 r13.2 u14) (by decide) : ((ag11 95).getD x1.toNatClampNeg 0) = 7) ?_
      refine fo_goS mi_k13 fz13_212_5_218 [.int (x5 + 1), .int 2, .int 0, .int 7, .int x1, .ref 94, .int vg11] rfl ?_
      refine ko_callI mi_k13.1 (pc := 218) (ls := [(8, .int vg11), (7, .int 50), (6, .int 4), (0, .ref 94), (1, .int x1), (2, .int 7), (3, .int 2), (4, .int x4), (5, .int x5)]) (st := [.int (x5 + 1), .int 2, .int 0, .int 7, .int x1, .ref 94, .int vg11]) (h := ks ig11 ag11 qg11 rg11) (i := (.invokevirtual 35, 3, 13, 0, 9, 0, 297)) (mi_k13.2 _ _ (by rfl)) (ft_invS mi_pq13 (by rfl)) (cy := mi_c13) mi_pq13 rfl (kc13_94_l17_l20_K7 hGg11.I hGg11.R x1 2 (x5 + 1) (oz1339 hp0.1 hp0.2) (oz1496 hp1 r13.2 u14) (oz1372 hp2.1 hp2.2 s10 kn1) (oz1453 c6 hp3.2 s7 z12 kn24 kn1)) (by decide) ?_
      intro vg15 ig15 ag15 qg15 rg15 kg15 hg15
      have hGg15 := kG_call hGg11 kg15 (by decide +kernel)
      have z16 : (ig15 6019).toInt = ((ig11 6019).toInt + 2) := hg15
      have b17 : ((-2147483648 : Int) ≤ vg11.toInt) ∧ (vg11.toInt ≤ 2147483647) := kd_bd vg11
      have b18 : ((-2147483648 : Int) ≤ vg15.toInt) ∧ (vg15.toInt ≤ 2147483647) := kd_bd vg15
      refine ft_goS mi_k13 1 222 [.int (vg11 - vg15)] (by rfl) ?_
      exact ft_ret mi_k13 (by rfl) (hP (vg11 - vg15) _ _ _ _ hGg15 (oz1454 s7 z12 z16 kn1))
    ·
      have c19 : (i 6019).toInt < (24 : Int32).toInt := kd_leF c; clear c
      refine fo_goS mi_k13 fz13_37_5_47 [.int 50, .int (i 6019), .ref 96] rfl ?_
      refine ko_iast3 mi_k13.1 (n := 24) (c := 24) (ax := (0, 0, 0, 0, 0)) (mi_k13.2 _ _ (by rfl)) (by rfl) (ksG96 _ _ _ _) (ksA96 _ _ _ _) (hG.I.2.1 96) rfl (oz3 fi_6019.1) (oz1343 c19 kn24) ?_
      intro a20 ea20 fa20
      have hJ20 := kG_a3 hG 96 rfl ea20 fa20 (kd_bd _)
      have s21 : ((i 6019) + 1).toInt = (i 6019).toInt + (1 : Int32).toInt := kd_add (oz12 fi_6019.1 kn1) (oz951 fi_6019.2 kn1)
      have hJ22 := kG_i hJ20 6019 rfl (v := ((i 6019) + 1)) ⟨(oz14 fi_6019.1 s21 kn1), (oz1365 hp3.2 s21 kn1)⟩
      refine ft_goI mi_k13 12 83 [.int 4, .ref (mi_RO + 4), .int x1, .ref 94] (ku i 6019 ((i 6019) + 1)) (by rfl) ?_
      refine ft_ro mi_k13 (w := 1) (by decide +kernel) (by decide +kernel) ?_
      have s24 : (x5 + 1).toInt = x5.toInt + (1 : Int32).toInt := kd_add (oz12 hp2.1 kn1) (oz1366 hp2.2 kn1)
      first | refine ft_goS mi_k13 8 105 [.int (x5 + 1), .int x4, .int 2, .int 1, .int x1, .ref 94] (by rfl) ?_
      have r25 : ((0 : Int) ≤ ((a20 95).getD x1.toNatClampNeg 0).toInt) ∧ (((a20 95).getD x1.toNatClampNeg 0).toInt ≤ 7) := hJ22.I.2.2.1 95 (x1.toNatClampNeg)
      have u26 : ((a20 95).getD x1.toNatClampNeg 0).toInt = ((a 95).getD x1.toNatClampNeg 0).toInt := congrArg (fun z : List Int32 => (z.getD x1.toNatClampNeg 0).toInt) (fa20 95 (by decide))
      refine ko_callI mi_k13.1 (pc := 105) (ls := [(7, .int 50), (6, .int 4), (0, .ref 94), (1, .int x1), (2, .int 7), (3, .int 2), (4, .int x4), (5, .int x5)]) (st := [.int (x5 + 1), .int x4, .int 2, .int 1, .int x1, .ref 94]) (h := ks (ku i 6019 ((i 6019) + 1)) a20 q r) (i := (.invokevirtual 35, 3, 13, 0, 9, 0, 297)) (mi_k13.2 _ _ (by rfl)) (ft_invS mi_pq13 (by rfl)) (cy := mi_c13) mi_pq13 rfl (kc13_94_l11_l22_K7 hJ22.I hJ22.R x1 x4 (x5 + 1) (oz1339 hp0.1 hp0.2) (oz1496 hp1 r25.2 u26) (oz1451 hp2.1 hp2.2 s24 kn1) (oz1455 fi_6019.1 hp3.2 s21 kn1)) (by decide) ?_
      intro vg27 ig27 ag27 qg27 rg27 kg27 hg27
      have hGg27 := kG_call hJ22 kg27 (by decide +kernel)
      have fig27_6019 : ((0 : Int) ≤ (ig27 6019).toInt) ∧ ((ig27 6019).toInt ≤ 1000) := hGg27.I.1 6019
      have z28 : (ig27 6019).toInt = (((i 6019) + 1).toInt + 1) := hg27
      refine ft_goL mi_k13 9 211 [(8, .int vg27), (7, .int 50), (6, .int 4), (0, .ref 94), (1, .int x1), (2, .int 7), (3, .int 2), (4, .int x4), (5, .int x5)] [.int x1, .ref 95, .int x1, .ref 94, .int vg27] (by rfl) ?_
      refine ko_iald3 mi_k13.1 (n := 50) (c := 50) (ax := (0, 0, 0, 0, 0)) (mi_k13.2 _ _ (by rfl)) (by rfl) (ksG95 _ _ _ _) (hGg27.I.2.1 95) rfl (oz3 hp0.1) (oz1336 hp0.2) ?_
      have r29 : ((0 : Int) ≤ ((ag27 95).getD x1.toNatClampNeg 0).toInt) ∧ (((ag27 95).getD x1.toNatClampNeg 0).toInt ≤ 7) := hGg27.I.2.2.1 95 (x1.toNatClampNeg)
      have u30 : ((ag27 95).getD x1.toNatClampNeg 0).toInt = ((a20 95).getD x1.toNatClampNeg 0).toInt := congrArg (fun z : List Int32 => (z.getD x1.toNatClampNeg 0).toInt) (kg27.fa 95 rfl)
      refine ko_top (kj_eq (oz1504 hp1 r29.2 u26 u30) (by decide) : ((ag27 95).getD x1.toNatClampNeg 0) = 7) ?_
      refine fo_goS mi_k13 fz13_212_5_218 [.int (x5 + 1), .int 2, .int 0, .int 7, .int x1, .ref 94, .int vg27] rfl ?_
      refine ko_callI mi_k13.1 (pc := 218) (ls := [(8, .int vg27), (7, .int 50), (6, .int 4), (0, .ref 94), (1, .int x1), (2, .int 7), (3, .int 2), (4, .int x4), (5, .int x5)]) (st := [.int (x5 + 1), .int 2, .int 0, .int 7, .int x1, .ref 94, .int vg27]) (h := ks ig27 ag27 qg27 rg27) (i := (.invokevirtual 35, 3, 13, 0, 9, 0, 297)) (mi_k13.2 _ _ (by rfl)) (ft_invS mi_pq13 (by rfl)) (cy := mi_c13) mi_pq13 rfl (kc13_94_l17_l20_K7 hGg27.I hGg27.R x1 2 (x5 + 1) (oz1339 hp0.1 hp0.2) (oz1504 hp1 r29.2 u26 u30) (oz1372 hp2.1 hp2.2 s24 kn1) (oz1457 fig27_6019.1 hp3.2 s21 z28 kn1)) (by decide) ?_
      intro vg31 ig31 ag31 qg31 rg31 kg31 hg31
      have hGg31 := kG_call hGg27 kg31 (by decide +kernel)
      have z32 : (ig31 6019).toInt = ((ig27 6019).toInt + 2) := hg31
      have b33 : ((-2147483648 : Int) ≤ vg27.toInt) ∧ (vg27.toInt ≤ 2147483647) := kd_bd vg27
      have b34 : ((-2147483648 : Int) ≤ vg31.toInt) ∧ (vg31.toInt ≤ 2147483647) := kd_bd vg31
      refine ft_goS mi_k13 1 222 [.int (vg27 - vg31)] (by rfl) ?_
      exact ft_ret mi_k13 (by rfl) (hP (vg27 - vg31) _ _ _ _ hGg31 (oz1454 s21 z28 z32 kn1))
  ·
    have c35 : (40 : Int32).toInt ≤ x5.toInt := kd_ltF c; clear c
    exact (oz1376 c35 hp2.2 kn40).elim
noncomputable def w13_94_l17_l21_K7 : kW := ([6019], [96], [], [])
set_option maxRecDepth 100000 in
theorem kc13_94_l17_l21_K7 {i : Nat → Int32} {a : Nat → List Int32} {q : Nat → List Int64} {r : Nat → Nat} (hI : kI i a q) (hr : kr r) (x1 : Int32) (x4 : Int32) (x5 : Int32) (hp0 : ((0 : Int) ≤ x1.toInt) ∧ (x1.toInt ≤ 49)) (hp1 : ((a 95).getD x1.toNatClampNeg 0).toInt = 7) (hp2 : ((0 : Int) ≤ x5.toInt) ∧ ((x5.toInt + 4) ≤ 39)) (hp3 : ((0 : Int) ≤ (i 6019).toInt) ∧ (((i 6019).toInt + 8) ≤ 900)) : km 11 13 [.ref 94, .int x1, .int 7, .int 1, .int x4, .int x5] (ks i a q r) (kVI w13_94_l17_l21_K7 i a q r (fun v i1 a1 q1 r1 => (i1 6019).toInt = ((i 6019).toInt + 8))) := by
  have hG := kG_self w13_94_l17_l21_K7 hI hr
  refine km_ofI (q := (mi_h13, mi_c13)) rfl (by decide) (Nat.le_of_ble_eq_true rfl) ?_
  intro P hP
  have r1 : ((0 : Int) ≤ ((a 95).getD x1.toNatClampNeg 0).toInt) ∧ (((a 95).getD x1.toNatClampNeg 0).toInt ≤ 7) := hG.I.2.2.1 95 (x1.toNatClampNeg)
  have fi_6019 : ((0 : Int) ≤ (i 6019).toInt) ∧ ((i 6019).toInt ≤ 1000) := hG.I.1 6019
  refine fo_goL mi_k13 fz13_0_2_4 [(0, .ref 94), (1, .int x1), (2, .int 7), (3, .int 1), (4, .int x4), (5, .int x5)] [.int 40, .int x5] rfl ?_
  refine ft_ifS mi_k13 (decide (x5 < 40)) 9 7 [] (by rfl) (fun c => ?_) (fun c => ?_)
  ·
    have c2 : x5.toInt < (40 : Int32).toInt := kd_lt c; clear c
    refine fo_goS mi_k13 fz13_9_2_11 [.int 1, .int 7] rfl ?_
    refine ko_callPI mi_k13.1 (pc := 11) (ls := [(0, .ref 94), (1, .int x1), (2, .int 7), (3, .int 1), (4, .int x4), (5, .int x5)]) (st := [.int 1, .int 7]) (h := ks i a q r) (i := (.invokestatic 39, 3, 11, 0, 9, 0, 298)) (mi_k13.2 _ _ (by rfl)) (ft_invS mi_pq11 (by rfl)) (cy := mi_c11) mi_pq11 rfl (kc11_l07_l11 hG.I hG.R ) (by decide) ?_
    intro vg3 hg3
    have z4 : vg3.toInt = 7 := hg3
    have evvg3 := kj_eq (oz1500 z4) (by decide : (7 : Int32).toInt = 7)
    subst evvg3
    refine ft_goL mi_k13 5 23 [(6, .int 7), (0, .ref 94), (1, .int x1), (2, .int 7), (3, .int 1), (4, .int x4), (5, .int x5)] [.int (7 * 4), .ref (mi_RO + 3)] (by rfl) ?_
    refine ko_top (by decide : (7 * 4 : Int32) = 28) ?_
    refine fo_goS mi_k13 fz13_23_2_25 [.int (28 + 1), .ref (mi_RO + 3)] rfl ?_
    refine ko_top (by decide : (28 + 1 : Int32) = 29) ?_
    refine ft_ro mi_k13 (w := 80) (by decide +kernel) (by decide +kernel) ?_
    refine fo_goL mi_k13 fz13_26_4_34 [(7, .int 80), (6, .int 7), (0, .ref 94), (1, .int x1), (2, .int 7), (3, .int 1), (4, .int x4), (5, .int x5)] [.int 24, .int (i 6019)] rfl ?_
    refine ft_ifS mi_k13 (decide (24 ≤ (i 6019))) 48 37 [] (by rfl) (fun c => ?_) (fun c => ?_)
    ·
      have c6 : (24 : Int32).toInt ≤ (i 6019).toInt := kd_le c; clear c
      have s7 : ((i 6019) + 1).toInt = (i 6019).toInt + (1 : Int32).toInt := kd_add (oz1332 c6 kn24 kn1) (oz951 fi_6019.2 kn1)
      have hJ8 := kG_i hG 6019 rfl (v := ((i 6019) + 1)) ⟨(oz1333 c6 s7 kn24 kn1), (oz1459 hp3.2 s7 kn1)⟩
      refine ft_goI mi_k13 12 83 [.int 7, .ref (mi_RO + 4), .int x1, .ref 94] (ku i 6019 ((i 6019) + 1)) (by rfl) ?_
      refine ft_ro mi_k13 (w := 4) (by decide +kernel) (by decide +kernel) ?_
      have s10 : (x5 + 1).toInt = x5.toInt + (1 : Int32).toInt := kd_add (oz12 hp2.1 kn1) (oz1395 hp2.2 kn1)
      first | refine ft_goS mi_k13 8 105 [.int (x5 + 1), .int x4, .int 1, .int 4, .int x1, .ref 94] (by rfl) ?_
      refine ko_callI mi_k13.1 (pc := 105) (ls := [(7, .int 80), (6, .int 7), (0, .ref 94), (1, .int x1), (2, .int 7), (3, .int 1), (4, .int x4), (5, .int x5)]) (st := [.int (x5 + 1), .int x4, .int 1, .int 4, .int x1, .ref 94]) (h := ks (ku i 6019 ((i 6019) + 1)) a q r) (i := (.invokevirtual 35, 3, 13, 0, 9, 0, 297)) (mi_k13.2 _ _ (by rfl)) (ft_invS mi_pq13 (by rfl)) (cy := mi_c13) mi_pq13 rfl (kc13_94_l14_l21_K7 hJ8.I hJ8.R x1 x4 (x5 + 1) (oz1339 hp0.1 hp0.2) (oz1495 hp1 r1.2) (oz1401 hp2.1 hp2.2 s10 kn1) (oz1501 c6 hp3.2 s7 kn24 kn1)) (by decide) ?_
      intro vg11 ig11 ag11 qg11 rg11 kg11 hg11
      have hGg11 := kG_call hJ8 kg11 (by decide +kernel)
      have z12 : (ig11 6019).toInt = (((i 6019) + 1).toInt + 3) := hg11
      refine ft_goL mi_k13 9 242 [(8, .int vg11), (7, .int 80), (6, .int 7), (0, .ref 94), (1, .int x1), (2, .int 7), (3, .int 1), (4, .int x4), (5, .int x5)] [.int x1, .ref 95, .int x1, .ref 94, .int vg11] (by rfl) ?_
      refine ko_iald3 mi_k13.1 (n := 50) (c := 50) (ax := (0, 0, 0, 0, 0)) (mi_k13.2 _ _ (by rfl)) (by rfl) (ksG95 _ _ _ _) (hGg11.I.2.1 95) rfl (oz3 hp0.1) (oz1336 hp0.2) ?_
      have r13 : ((0 : Int) ≤ ((ag11 95).getD x1.toNatClampNeg 0).toInt) ∧ (((ag11 95).getD x1.toNatClampNeg 0).toInt ≤ 7) := hGg11.I.2.2.1 95 (x1.toNatClampNeg)
      have u14 : ((ag11 95).getD x1.toNatClampNeg 0).toInt = ((a 95).getD x1.toNatClampNeg 0).toInt := congrArg (fun z : List Int32 => (z.getD x1.toNatClampNeg 0).toInt) (kg11.fa 95 rfl)
      refine ko_top (kj_eq (oz1496 hp1 r13.2 u14) (by decide) : ((ag11 95).getD x1.toNatClampNeg 0) = 7) ?_
      refine fo_goS mi_k13 fz13_243_5_249 [.int (x5 + 1), .int 2, .int 2, .int 7, .int x1, .ref 94, .int vg11] rfl ?_
      refine ko_callI mi_k13.1 (pc := 249) (ls := [(8, .int vg11), (7, .int 80), (6, .int 7), (0, .ref 94), (1, .int x1), (2, .int 7), (3, .int 1), (4, .int x4), (5, .int x5)]) (st := [.int (x5 + 1), .int 2, .int 2, .int 7, .int x1, .ref 94, .int vg11]) (h := ks ig11 ag11 qg11 rg11) (i := (.invokevirtual 35, 3, 13, 0, 9, 0, 297)) (mi_k13.2 _ _ (by rfl)) (ft_invS mi_pq13 (by rfl)) (cy := mi_c13) mi_pq13 rfl (kc13_94_l17_l22_K7 hGg11.I hGg11.R x1 2 (x5 + 1) (oz1339 hp0.1 hp0.2) (oz1496 hp1 r13.2 u14) (oz1401 hp2.1 hp2.2 s10 kn1) (oz1505 c6 hp3.2 s7 z12 kn24 kn1)) (by decide) ?_
      intro vg15 ig15 ag15 qg15 rg15 kg15 hg15
      have hGg15 := kG_call hGg11 kg15 (by decide +kernel)
      have z16 : (ig15 6019).toInt = ((ig11 6019).toInt + 4) := hg15
      have b17 : ((-2147483648 : Int) ≤ vg11.toInt) ∧ (vg11.toInt ≤ 2147483647) := kd_bd vg11
      have b18 : ((-2147483648 : Int) ≤ vg15.toInt) ∧ (vg15.toInt ≤ 2147483647) := kd_bd vg15
      refine ft_goS mi_k13 1 253 [.int (vg11 + vg15)] (by rfl) ?_
      exact ft_ret mi_k13 (by rfl) (hP (vg11 + vg15) _ _ _ _ hGg15 (oz1506 s7 z12 z16 kn1))
    ·
      have c19 : (i 6019).toInt < (24 : Int32).toInt := kd_leF c; clear c
      refine fo_goS mi_k13 fz13_37_5_47 [.int 80, .int (i 6019), .ref 96] rfl ?_
      refine ko_iast3 mi_k13.1 (n := 24) (c := 24) (ax := (0, 0, 0, 0, 0)) (mi_k13.2 _ _ (by rfl)) (by rfl) (ksG96 _ _ _ _) (ksA96 _ _ _ _) (hG.I.2.1 96) rfl (oz3 fi_6019.1) (oz1343 c19 kn24) ?_
      intro a20 ea20 fa20
      have hJ20 := kG_a3 hG 96 rfl ea20 fa20 (kd_bd _)
      have s21 : ((i 6019) + 1).toInt = (i 6019).toInt + (1 : Int32).toInt := kd_add (oz12 fi_6019.1 kn1) (oz951 fi_6019.2 kn1)
      have hJ22 := kG_i hJ20 6019 rfl (v := ((i 6019) + 1)) ⟨(oz14 fi_6019.1 s21 kn1), (oz1459 hp3.2 s21 kn1)⟩
      refine ft_goI mi_k13 12 83 [.int 7, .ref (mi_RO + 4), .int x1, .ref 94] (ku i 6019 ((i 6019) + 1)) (by rfl) ?_
      refine ft_ro mi_k13 (w := 4) (by decide +kernel) (by decide +kernel) ?_
      have s24 : (x5 + 1).toInt = x5.toInt + (1 : Int32).toInt := kd_add (oz12 hp2.1 kn1) (oz1395 hp2.2 kn1)
      first | refine ft_goS mi_k13 8 105 [.int (x5 + 1), .int x4, .int 1, .int 4, .int x1, .ref 94] (by rfl) ?_
      have r25 : ((0 : Int) ≤ ((a20 95).getD x1.toNatClampNeg 0).toInt) ∧ (((a20 95).getD x1.toNatClampNeg 0).toInt ≤ 7) := hJ22.I.2.2.1 95 (x1.toNatClampNeg)
      have u26 : ((a20 95).getD x1.toNatClampNeg 0).toInt = ((a 95).getD x1.toNatClampNeg 0).toInt := congrArg (fun z : List Int32 => (z.getD x1.toNatClampNeg 0).toInt) (fa20 95 (by decide))
      refine ko_callI mi_k13.1 (pc := 105) (ls := [(7, .int 80), (6, .int 7), (0, .ref 94), (1, .int x1), (2, .int 7), (3, .int 1), (4, .int x4), (5, .int x5)]) (st := [.int (x5 + 1), .int x4, .int 1, .int 4, .int x1, .ref 94]) (h := ks (ku i 6019 ((i 6019) + 1)) a20 q r) (i := (.invokevirtual 35, 3, 13, 0, 9, 0, 297)) (mi_k13.2 _ _ (by rfl)) (ft_invS mi_pq13 (by rfl)) (cy := mi_c13) mi_pq13 rfl (kc13_94_l14_l21_K7 hJ22.I hJ22.R x1 x4 (x5 + 1) (oz1339 hp0.1 hp0.2) (oz1496 hp1 r25.2 u26) (oz1401 hp2.1 hp2.2 s24 kn1) (oz1507 fi_6019.1 hp3.2 s21 kn1)) (by decide) ?_
      intro vg27 ig27 ag27 qg27 rg27 kg27 hg27
      have hGg27 := kG_call hJ22 kg27 (by decide +kernel)
      have fig27_6019 : ((0 : Int) ≤ (ig27 6019).toInt) ∧ ((ig27 6019).toInt ≤ 1000) := hGg27.I.1 6019
      have z28 : (ig27 6019).toInt = (((i 6019) + 1).toInt + 3) := hg27
      refine ft_goL mi_k13 9 242 [(8, .int vg27), (7, .int 80), (6, .int 7), (0, .ref 94), (1, .int x1), (2, .int 7), (3, .int 1), (4, .int x4), (5, .int x5)] [.int x1, .ref 95, .int x1, .ref 94, .int vg27] (by rfl) ?_
      refine ko_iald3 mi_k13.1 (n := 50) (c := 50) (ax := (0, 0, 0, 0, 0)) (mi_k13.2 _ _ (by rfl)) (by rfl) (ksG95 _ _ _ _) (hGg27.I.2.1 95) rfl (oz3 hp0.1) (oz1336 hp0.2) ?_
      have r29 : ((0 : Int) ≤ ((ag27 95).getD x1.toNatClampNeg 0).toInt) ∧ (((ag27 95).getD x1.toNatClampNeg 0).toInt ≤ 7) := hGg27.I.2.2.1 95 (x1.toNatClampNeg)
      have u30 : ((ag27 95).getD x1.toNatClampNeg 0).toInt = ((a20 95).getD x1.toNatClampNeg 0).toInt := congrArg (fun z : List Int32 => (z.getD x1.toNatClampNeg 0).toInt) (kg27.fa 95 rfl)
      refine ko_top (kj_eq (oz1504 hp1 r29.2 u26 u30) (by decide) : ((ag27 95).getD x1.toNatClampNeg 0) = 7) ?_
      refine fo_goS mi_k13 fz13_243_5_249 [.int (x5 + 1), .int 2, .int 2, .int 7, .int x1, .ref 94, .int vg27] rfl ?_
      refine ko_callI mi_k13.1 (pc := 249) (ls := [(8, .int vg27), (7, .int 80), (6, .int 7), (0, .ref 94), (1, .int x1), (2, .int 7), (3, .int 1), (4, .int x4), (5, .int x5)]) (st := [.int (x5 + 1), .int 2, .int 2, .int 7, .int x1, .ref 94, .int vg27]) (h := ks ig27 ag27 qg27 rg27) (i := (.invokevirtual 35, 3, 13, 0, 9, 0, 297)) (mi_k13.2 _ _ (by rfl)) (ft_invS mi_pq13 (by rfl)) (cy := mi_c13) mi_pq13 rfl (kc13_94_l17_l22_K7 hGg27.I hGg27.R x1 2 (x5 + 1) (oz1339 hp0.1 hp0.2) (oz1504 hp1 r29.2 u26 u30) (oz1401 hp2.1 hp2.2 s24 kn1) (oz1508 fig27_6019.1 hp3.2 s21 z28 kn1)) (by decide) ?_
      intro vg31 ig31 ag31 qg31 rg31 kg31 hg31
      have hGg31 := kG_call hGg27 kg31 (by decide +kernel)
      have z32 : (ig31 6019).toInt = ((ig27 6019).toInt + 4) := hg31
      have b33 : ((-2147483648 : Int) ≤ vg27.toInt) ∧ (vg27.toInt ≤ 2147483647) := kd_bd vg27
      have b34 : ((-2147483648 : Int) ≤ vg31.toInt) ∧ (vg31.toInt ≤ 2147483647) := kd_bd vg31
      refine ft_goS mi_k13 1 253 [.int (vg27 + vg31)] (by rfl) ?_
      exact ft_ret mi_k13 (by rfl) (hP (vg27 + vg31) _ _ _ _ hGg31 (oz1506 s21 z28 z32 kn1))
  ·
    have c35 : (40 : Int32).toInt ≤ x5.toInt := kd_ltF c; clear c
    exact (oz1405 c35 hp2.2 kn40).elim
set_option maxRecDepth 100000 in
theorem kc11_l07_l13 {i : Nat → Int32} {a : Nat → List Int32} {q : Nat → List Int64} {r : Nat → Nat} (hI : kI i a q) (hr : kr r)  : km 1 11 [.int 7, .int 3] (ks i a q r) (kPI (ks i a q r) (fun v => v.toInt = 7)) := by
  have hG := kG_self kW0 hI hr
  refine km_ofPI (q := (mi_h11, mi_c11)) rfl (by decide) (Nat.le_of_ble_eq_true rfl) ?_
  intro P hP
  first | refine ft_goL mi_k11 16 26 [(3, .int 0), (2, .int 7), (0, .int 7), (1, .int 3)] [.int (7 * 4), .ref (mi_RO + 3)] (by rfl) ?_
  refine ko_top (by decide : (7 * 4 : Int32) = 28) ?_
  refine fo_goS mi_k11 fz11_26_2_28 [.int (28 + 3), .ref (mi_RO + 3)] rfl ?_
  refine ko_top (by decide : (28 + 3 : Int32) = 31) ?_
  refine ft_ro mi_k11 (w := 81) (by decide +kernel) (by decide +kernel) ?_
  refine fo_goS mi_k11 fz11_29_2_33 [.int 7] rfl ?_
  exact ft_ret mi_k11 (by rfl) (hP 7 (oz1500 kn7))
noncomputable def w14_94_l13_K7 : kW := ([6019], [96], [], [])
set_option maxRecDepth 100000 in
theorem kc14_94_l13_K7 {i : Nat → Int32} {a : Nat → List Int32} {q : Nat → List Int64} {r : Nat → Nat} (hI : kI i a q) (hr : kr r) (x1 : Int32) (x3 : Int32) (x4 : Int32) (hp0 : ((0 : Int) ≤ x1.toInt) ∧ (x1.toInt ≤ 49)) (hp1 : ((a 95).getD x1.toNatClampNeg 0).toInt = 7) (hp2 : ((0 : Int) ≤ x4.toInt) ∧ ((x4.toInt + 4) ≤ 39)) (hp3 : ((0 : Int) ≤ (i 6019).toInt) ∧ (((i 6019).toInt + 12) ≤ 900)) : km 13 14 [.ref 94, .int x1, .int 3, .int x3, .int x4] (ks i a q r) (kVI w14_94_l13_K7 i a q r (fun v i1 a1 q1 r1 => (i1 6019).toInt = ((i 6019).toInt + 12))) := by
  have hG := kG_self w14_94_l13_K7 hI hr
  refine km_ofI (q := (mi_h14, mi_c14)) rfl (by decide) (Nat.le_of_ble_eq_true rfl) ?_
  intro P hP
  have r1 : ((0 : Int) ≤ ((a 95).getD x1.toNatClampNeg 0).toInt) ∧ (((a 95).getD x1.toNatClampNeg 0).toInt ≤ 7) := hG.I.2.2.1 95 (x1.toNatClampNeg)
  have fi_6019 : ((0 : Int) ≤ (i 6019).toInt) ∧ ((i 6019).toInt ≤ 1000) := hG.I.1 6019
  refine fo_goL mi_k14 fz14_0_3_5 [(0, .ref 94), (1, .int x1), (2, .int 3), (3, .int x3), (4, .int x4)] [.int x1, .ref 95] rfl ?_
  refine ko_iald3 mi_k14.1 (n := 50) (c := 50) (ax := (0, 0, 0, 0, 0)) (mi_k14.2 _ _ (by rfl)) (by rfl) (ksG95 _ _ _ _) (hG.I.2.1 95) rfl (oz3 hp0.1) (oz1336 hp0.2) ?_
  refine ko_top (kj_eq (oz1495 hp1 r1.2) (by decide) : ((a 95).getD x1.toNatClampNeg 0) = 7) ?_
  refine ft_goL mi_k14 9 66 [(5, .int 7), (0, .ref 94), (1, .int x1), (2, .int 3), (3, .int x3), (4, .int x4)] [.int x4, .int x3, .int 1, .int 7, .int x1, .ref 94] (by rfl) ?_
  refine ko_callI mi_k14.1 (pc := 66) (ls := [(5, .int 7), (0, .ref 94), (1, .int x1), (2, .int 3), (3, .int x3), (4, .int x4)]) (st := [.int x4, .int x3, .int 1, .int 7, .int x1, .ref 94]) (h := ks i a q r) (i := (.invokevirtual 35, 3, 13, 0, 9, 0, 297)) (mi_k14.2 _ _ (by rfl)) (ft_invS mi_pq13 (by rfl)) (cy := mi_c13) mi_pq13 rfl (kc13_94_l17_l21_K7 hG.I hG.R x1 x3 x4 (oz1339 hp0.1 hp0.2) (oz1495 hp1 r1.2) (oz1431 hp2.1 hp2.2) (oz1513 fi_6019.1 hp3.2)) (by decide) ?_
  intro vg2 ig2 ag2 qg2 rg2 kg2 hg2
  have hGg2 := kG_call hG kg2 (by decide +kernel)
  have fig2_6019 : ((0 : Int) ≤ (ig2 6019).toInt) ∧ ((ig2 6019).toInt ≤ 1000) := hGg2.I.1 6019
  have z3 : (ig2 6019).toInt = ((i 6019).toInt + 8) := hg2
  refine fo_goL mi_k14 fz14_69_8_81 [(6, .int vg2), (5, .int 7), (0, .ref 94), (1, .int x1), (2, .int 3), (3, .int x3), (4, .int x4)] [.int x4, .int 1, .int 2, .int 7, .int x1, .ref 94, .int vg2] rfl ?_
  have r4 : ((0 : Int) ≤ ((ag2 95).getD x1.toNatClampNeg 0).toInt) ∧ (((ag2 95).getD x1.toNatClampNeg 0).toInt ≤ 7) := hGg2.I.2.2.1 95 (x1.toNatClampNeg)
  have u5 : ((ag2 95).getD x1.toNatClampNeg 0).toInt = ((a 95).getD x1.toNatClampNeg 0).toInt := congrArg (fun z : List Int32 => (z.getD x1.toNatClampNeg 0).toInt) (kg2.fa 95 rfl)
  refine ko_callI mi_k14.1 (pc := 81) (ls := [(6, .int vg2), (5, .int 7), (0, .ref 94), (1, .int x1), (2, .int 3), (3, .int x3), (4, .int x4)]) (st := [.int x4, .int 1, .int 2, .int 7, .int x1, .ref 94, .int vg2]) (h := ks ig2 ag2 qg2 rg2) (i := (.invokevirtual 35, 3, 13, 0, 9, 0, 297)) (mi_k14.2 _ _ (by rfl)) (ft_invS mi_pq13 (by rfl)) (cy := mi_c13) mi_pq13 rfl (kc13_94_l17_l22_K7 hGg2.I hGg2.R x1 1 x4 (oz1339 hp0.1 hp0.2) (oz1496 hp1 r4.2 u5) (oz1514 hp2.1 hp2.2) (oz1515 fig2_6019.1 hp3.2 z3)) (by decide) ?_
  intro vg6 ig6 ag6 qg6 rg6 kg6 hg6
  have hGg6 := kG_call hGg2 kg6 (by decide +kernel)
  have z7 : (ig6 6019).toInt = ((ig2 6019).toInt + 4) := hg6
  have b8 : ((-2147483648 : Int) ≤ vg2.toInt) ∧ (vg2.toInt ≤ 2147483647) := kd_bd vg2
  have b9 : ((-2147483648 : Int) ≤ vg6.toInt) ∧ (vg6.toInt ≤ 2147483647) := kd_bd vg6
  refine fo_goS mi_k14 fz14_84_1_85 [.int (vg2 - vg6)] rfl ?_
  exact ft_ret mi_k14 (by rfl) (hP (vg2 - vg6) _ _ _ _ hGg6 (oz1516 z3 z7))
noncomputable def w13_94_l14_l23_K7 : kW := ([6019], [96], [], [])
set_option maxRecDepth 100000 in
theorem kc13_94_l14_l23_K7 {i : Nat → Int32} {a : Nat → List Int32} {q : Nat → List Int64} {r : Nat → Nat} (hI : kI i a q) (hr : kr r) (x1 : Int32) (x4 : Int32) (x5 : Int32) (hp0 : ((0 : Int) ≤ x1.toInt) ∧ (x1.toInt ≤ 49)) (hp1 : ((a 95).getD x1.toNatClampNeg 0).toInt = 7) (hp2 : ((0 : Int) ≤ x5.toInt) ∧ ((x5.toInt + 5) ≤ 39)) (hp3 : ((0 : Int) ≤ (i 6019).toInt) ∧ (((i 6019).toInt + 13) ≤ 900)) : km 15 13 [.ref 94, .int x1, .int 4, .int 3, .int x4, .int x5] (ks i a q r) (kVI w13_94_l14_l23_K7 i a q r (fun v i1 a1 q1 r1 => (i1 6019).toInt = ((i 6019).toInt + 13))) := by
  have hG := kG_self w13_94_l14_l23_K7 hI hr
  refine km_ofI (q := (mi_h13, mi_c13)) rfl (by decide) (Nat.le_of_ble_eq_true rfl) ?_
  intro P hP
  have r1 : ((0 : Int) ≤ ((a 95).getD x1.toNatClampNeg 0).toInt) ∧ (((a 95).getD x1.toNatClampNeg 0).toInt ≤ 7) := hG.I.2.2.1 95 (x1.toNatClampNeg)
  have fi_6019 : ((0 : Int) ≤ (i 6019).toInt) ∧ ((i 6019).toInt ≤ 1000) := hG.I.1 6019
  refine fo_goL mi_k13 fz13_0_2_4 [(0, .ref 94), (1, .int x1), (2, .int 4), (3, .int 3), (4, .int x4), (5, .int x5)] [.int 40, .int x5] rfl ?_
  refine ft_ifS mi_k13 (decide (x5 < 40)) 9 7 [] (by rfl) (fun c => ?_) (fun c => ?_)
  ·
    have c2 : x5.toInt < (40 : Int32).toInt := kd_lt c; clear c
    refine fo_goS mi_k13 fz13_9_2_11 [.int 3, .int 4] rfl ?_
    refine ko_callPI mi_k13.1 (pc := 11) (ls := [(0, .ref 94), (1, .int x1), (2, .int 4), (3, .int 3), (4, .int x4), (5, .int x5)]) (st := [.int 3, .int 4]) (h := ks i a q r) (i := (.invokestatic 39, 3, 11, 0, 9, 0, 298)) (mi_k13.2 _ _ (by rfl)) (ft_invS mi_pq11 (by rfl)) (cy := mi_c11) mi_pq11 rfl (kc11_l04_l13 hG.I hG.R ) (by decide) ?_
    intro vg3 hg3
    have z4 : vg3.toInt = 0 := hg3
    have evvg3 := kj_eq (oz236 z4) (by decide : (0 : Int32).toInt = 0)
    subst evvg3
    refine ft_goL mi_k13 5 23 [(6, .int 0), (0, .ref 94), (1, .int x1), (2, .int 4), (3, .int 3), (4, .int x4), (5, .int x5)] [.int (0 * 4), .ref (mi_RO + 3)] (by rfl) ?_
    refine ko_top (by decide : (0 * 4 : Int32) = 0) ?_
    refine fo_goS mi_k13 fz13_23_2_25 [.int (0 + 3), .ref (mi_RO + 3)] rfl ?_
    refine ko_top (by decide : (0 + 3 : Int32) = 3) ?_
    refine ft_ro mi_k13 (w := 2) (by decide +kernel) (by decide +kernel) ?_
    refine fo_goL mi_k13 fz13_26_4_34 [(7, .int 2), (6, .int 0), (0, .ref 94), (1, .int x1), (2, .int 4), (3, .int 3), (4, .int x4), (5, .int x5)] [.int 24, .int (i 6019)] rfl ?_
    refine ft_ifS mi_k13 (decide (24 ≤ (i 6019))) 48 37 [] (by rfl) (fun c => ?_) (fun c => ?_)
    ·
      have c6 : (24 : Int32).toInt ≤ (i 6019).toInt := kd_le c; clear c
      have s7 : ((i 6019) + 1).toInt = (i 6019).toInt + (1 : Int32).toInt := kd_add (oz1332 c6 kn24 kn1) (oz951 fi_6019.2 kn1)
      have hJ8 := kG_i hG 6019 rfl (v := ((i 6019) + 1)) ⟨(oz1333 c6 s7 kn24 kn1), (oz1512 hp3.2 s7 kn1)⟩
      have s9 : (x5 + 1).toInt = x5.toInt + (1 : Int32).toInt := kd_add (oz12 hp2.1 kn1) (oz1430 hp2.2 kn1)
      first | refine fo_goI mi_k13 fz13_48_15_72 [.int (x5 + 1), .int x4, .int 3, .int x1, .ref 94] (ku i 6019 ((i 6019) + 1)) (by rfl) ?_ | refine ft_go mi_k13 15 72 [(7, .int 2), (6, .int 0), (0, .ref 94), (1, .int x1), (2, .int 4), (3, .int 3), (4, .int x4), (5, .int x5)] [.int (x5 + 1), .int x4, .int 3, .int x1, .ref 94] (ku i 6019 ((i 6019) + 1)) a q r (by rfl) ?_
      refine ko_callI mi_k13.1 (pc := 72) (ls := [(7, .int 2), (6, .int 0), (0, .ref 94), (1, .int x1), (2, .int 4), (3, .int 3), (4, .int x4), (5, .int x5)]) (st := [.int (x5 + 1), .int x4, .int 3, .int x1, .ref 94]) (h := ks (ku i 6019 ((i 6019) + 1)) a q r) (i := (.invokevirtual 43, 3, 14, 0, 9, 0, 301)) (mi_k13.2 _ _ (by rfl)) (ft_invS mi_pq14 (by rfl)) (cy := mi_c14) mi_pq14 rfl (kc14_94_l13_K7 hJ8.I hJ8.R x1 x4 (x5 + 1) (oz1339 hp0.1 hp0.2) (oz1495 hp1 r1.2) (oz1436 hp2.1 hp2.2 s9 kn1) (oz1517 c6 hp3.2 s7 kn24 kn1)) (by decide) ?_
      intro vg10 ig10 ag10 qg10 rg10 kg10 hg10
      have hGg10 := kG_call hJ8 kg10 (by decide +kernel)
      have z11 : (ig10 6019).toInt = (((i 6019) + 1).toInt + 12) := hg10
      exact ft_ret mi_k13 (by rfl) (hP vg10 _ _ _ _ hGg10 (oz1518 s7 z11 kn1))
    ·
      have c12 : (i 6019).toInt < (24 : Int32).toInt := kd_leF c; clear c
      refine fo_goS mi_k13 fz13_37_5_47 [.int 2, .int (i 6019), .ref 96] rfl ?_
      refine ko_iast3 mi_k13.1 (n := 24) (c := 24) (ax := (0, 0, 0, 0, 0)) (mi_k13.2 _ _ (by rfl)) (by rfl) (ksG96 _ _ _ _) (ksA96 _ _ _ _) (hG.I.2.1 96) rfl (oz3 fi_6019.1) (oz1343 c12 kn24) ?_
      intro a13 ea13 fa13
      have hJ13 := kG_a3 hG 96 rfl ea13 fa13 (kd_bd _)
      have s14 : ((i 6019) + 1).toInt = (i 6019).toInt + (1 : Int32).toInt := kd_add (oz12 fi_6019.1 kn1) (oz951 fi_6019.2 kn1)
      have hJ15 := kG_i hJ13 6019 rfl (v := ((i 6019) + 1)) ⟨(oz14 fi_6019.1 s14 kn1), (oz1512 hp3.2 s14 kn1)⟩
      have s16 : (x5 + 1).toInt = x5.toInt + (1 : Int32).toInt := kd_add (oz12 hp2.1 kn1) (oz1430 hp2.2 kn1)
      first | refine fo_goI mi_k13 fz13_48_15_72 [.int (x5 + 1), .int x4, .int 3, .int x1, .ref 94] (ku i 6019 ((i 6019) + 1)) (by rfl) ?_ | refine ft_go mi_k13 15 72 [(7, .int 2), (6, .int 0), (0, .ref 94), (1, .int x1), (2, .int 4), (3, .int 3), (4, .int x4), (5, .int x5)] [.int (x5 + 1), .int x4, .int 3, .int x1, .ref 94] (ku i 6019 ((i 6019) + 1)) a13 q r (by rfl) ?_
      have r17 : ((0 : Int) ≤ ((a13 95).getD x1.toNatClampNeg 0).toInt) ∧ (((a13 95).getD x1.toNatClampNeg 0).toInt ≤ 7) := hJ15.I.2.2.1 95 (x1.toNatClampNeg)
      have u18 : ((a13 95).getD x1.toNatClampNeg 0).toInt = ((a 95).getD x1.toNatClampNeg 0).toInt := congrArg (fun z : List Int32 => (z.getD x1.toNatClampNeg 0).toInt) (fa13 95 (by decide))
      refine ko_callI mi_k13.1 (pc := 72) (ls := [(7, .int 2), (6, .int 0), (0, .ref 94), (1, .int x1), (2, .int 4), (3, .int 3), (4, .int x4), (5, .int x5)]) (st := [.int (x5 + 1), .int x4, .int 3, .int x1, .ref 94]) (h := ks (ku i 6019 ((i 6019) + 1)) a13 q r) (i := (.invokevirtual 43, 3, 14, 0, 9, 0, 301)) (mi_k13.2 _ _ (by rfl)) (ft_invS mi_pq14 (by rfl)) (cy := mi_c14) mi_pq14 rfl (kc14_94_l13_K7 hJ15.I hJ15.R x1 x4 (x5 + 1) (oz1339 hp0.1 hp0.2) (oz1496 hp1 r17.2 u18) (oz1436 hp2.1 hp2.2 s16 kn1) (oz1519 fi_6019.1 hp3.2 s14 kn1)) (by decide) ?_
      intro vg19 ig19 ag19 qg19 rg19 kg19 hg19
      have hGg19 := kG_call hJ15 kg19 (by decide +kernel)
      have z20 : (ig19 6019).toInt = (((i 6019) + 1).toInt + 12) := hg19
      exact ft_ret mi_k13 (by rfl) (hP vg19 _ _ _ _ hGg19 (oz1518 s14 z20 kn1))
  ·
    have c21 : (40 : Int32).toInt ≤ x5.toInt := kd_ltF c; clear c
    exact (oz1440 c21 hp2.2 kn40).elim
noncomputable def w13_94_l17_l23_K7 : kW := ([6019], [96], [], [])
set_option maxRecDepth 100000 in
theorem kc13_94_l17_l23_K7 {i : Nat → Int32} {a : Nat → List Int32} {q : Nat → List Int64} {r : Nat → Nat} (hI : kI i a q) (hr : kr r) (x1 : Int32) (x4 : Int32) (x5 : Int32) (hp0 : ((0 : Int) ≤ x1.toInt) ∧ (x1.toInt ≤ 49)) (hp1 : ((a 95).getD x1.toNatClampNeg 0).toInt = 7) (hp2 : ((0 : Int) ≤ x5.toInt) ∧ ((x5.toInt + 6) ≤ 39)) (hp3 : ((0 : Int) ≤ (i 6019).toInt) ∧ (((i 6019).toInt + 14) ≤ 900)) : km 17 13 [.ref 94, .int x1, .int 7, .int 3, .int x4, .int x5] (ks i a q r) (kVI w13_94_l17_l23_K7 i a q r (fun v i1 a1 q1 r1 => (i1 6019).toInt = ((i 6019).toInt + 14))) := by
  have hG := kG_self w13_94_l17_l23_K7 hI hr
  refine km_ofI (q := (mi_h13, mi_c13)) rfl (by decide) (Nat.le_of_ble_eq_true rfl) ?_
  intro P hP
  have r1 : ((0 : Int) ≤ ((a 95).getD x1.toNatClampNeg 0).toInt) ∧ (((a 95).getD x1.toNatClampNeg 0).toInt ≤ 7) := hG.I.2.2.1 95 (x1.toNatClampNeg)
  have fi_6019 : ((0 : Int) ≤ (i 6019).toInt) ∧ ((i 6019).toInt ≤ 1000) := hG.I.1 6019
  refine fo_goL mi_k13 fz13_0_2_4 [(0, .ref 94), (1, .int x1), (2, .int 7), (3, .int 3), (4, .int x4), (5, .int x5)] [.int 40, .int x5] rfl ?_
  refine ft_ifS mi_k13 (decide (x5 < 40)) 9 7 [] (by rfl) (fun c => ?_) (fun c => ?_)
  ·
    have c2 : x5.toInt < (40 : Int32).toInt := kd_lt c; clear c
    refine fo_goS mi_k13 fz13_9_2_11 [.int 3, .int 7] rfl ?_
    refine ko_callPI mi_k13.1 (pc := 11) (ls := [(0, .ref 94), (1, .int x1), (2, .int 7), (3, .int 3), (4, .int x4), (5, .int x5)]) (st := [.int 3, .int 7]) (h := ks i a q r) (i := (.invokestatic 39, 3, 11, 0, 9, 0, 298)) (mi_k13.2 _ _ (by rfl)) (ft_invS mi_pq11 (by rfl)) (cy := mi_c11) mi_pq11 rfl (kc11_l07_l13 hG.I hG.R ) (by decide) ?_
    intro vg3 hg3
    have z4 : vg3.toInt = 7 := hg3
    have evvg3 := kj_eq (oz1500 z4) (by decide : (7 : Int32).toInt = 7)
    subst evvg3
    refine ft_goL mi_k13 5 23 [(6, .int 7), (0, .ref 94), (1, .int x1), (2, .int 7), (3, .int 3), (4, .int x4), (5, .int x5)] [.int (7 * 4), .ref (mi_RO + 3)] (by rfl) ?_
    refine ko_top (by decide : (7 * 4 : Int32) = 28) ?_
    refine fo_goS mi_k13 fz13_23_2_25 [.int (28 + 3), .ref (mi_RO + 3)] rfl ?_
    refine ko_top (by decide : (28 + 3 : Int32) = 31) ?_
    refine ft_ro mi_k13 (w := 81) (by decide +kernel) (by decide +kernel) ?_
    refine fo_goL mi_k13 fz13_26_4_34 [(7, .int 81), (6, .int 7), (0, .ref 94), (1, .int x1), (2, .int 7), (3, .int 3), (4, .int x4), (5, .int x5)] [.int 24, .int (i 6019)] rfl ?_
    refine ft_ifS mi_k13 (decide (24 ≤ (i 6019))) 48 37 [] (by rfl) (fun c => ?_) (fun c => ?_)
    ·
      have c6 : (24 : Int32).toInt ≤ (i 6019).toInt := kd_le c; clear c
      have s7 : ((i 6019) + 1).toInt = (i 6019).toInt + (1 : Int32).toInt := kd_add (oz1332 c6 kn24 kn1) (oz951 fi_6019.2 kn1)
      have hJ8 := kG_i hG 6019 rfl (v := ((i 6019) + 1)) ⟨(oz1333 c6 s7 kn24 kn1), (oz1511 hp3.2 s7 kn1)⟩
      refine ft_goI mi_k13 12 83 [.int 7, .ref (mi_RO + 4), .int x1, .ref 94] (ku i 6019 ((i 6019) + 1)) (by rfl) ?_
      refine ft_ro mi_k13 (w := 4) (by decide +kernel) (by decide +kernel) ?_
      have s10 : (x5 + 1).toInt = x5.toInt + (1 : Int32).toInt := kd_add (oz12 hp2.1 kn1) (oz1478 hp2.2 kn1)
      first | refine ft_goS mi_k13 8 105 [.int (x5 + 1), .int x4, .int 3, .int 4, .int x1, .ref 94] (by rfl) ?_
      refine ko_callI mi_k13.1 (pc := 105) (ls := [(7, .int 81), (6, .int 7), (0, .ref 94), (1, .int x1), (2, .int 7), (3, .int 3), (4, .int x4), (5, .int x5)]) (st := [.int (x5 + 1), .int x4, .int 3, .int 4, .int x1, .ref 94]) (h := ks (ku i 6019 ((i 6019) + 1)) a q r) (i := (.invokevirtual 35, 3, 13, 0, 9, 0, 297)) (mi_k13.2 _ _ (by rfl)) (ft_invS mi_pq13 (by rfl)) (cy := mi_c13) mi_pq13 rfl (kc13_94_l14_l23_K7 hJ8.I hJ8.R x1 x4 (x5 + 1) (oz1339 hp0.1 hp0.2) (oz1495 hp1 r1.2) (oz1479 hp2.1 hp2.2 s10 kn1) (oz1520 c6 hp3.2 s7 kn24 kn1)) (by decide) ?_
      intro vg11 ig11 ag11 qg11 rg11 kg11 hg11
      have hGg11 := kG_call hJ8 kg11 (by decide +kernel)
      have z12 : (ig11 6019).toInt = (((i 6019) + 1).toInt + 13) := hg11
      have b13 : ((-2147483648 : Int) ≤ vg11.toInt) ∧ (vg11.toInt ≤ 2147483647) := kd_bd vg11
      refine ft_goL mi_k13 6 258 [(8, .int vg11), (7, .int 81), (6, .int 7), (0, .ref 94), (1, .int x1), (2, .int 7), (3, .int 3), (4, .int x4), (5, .int x5)] [.int (vg11 - 1)] (by rfl) ?_
      exact ft_ret mi_k13 (by rfl) (hP (vg11 - 1) _ _ _ _ hGg11 (oz1521 s7 z12 kn1))
    ·
      have c14 : (i 6019).toInt < (24 : Int32).toInt := kd_leF c; clear c
      refine fo_goS mi_k13 fz13_37_5_47 [.int 81, .int (i 6019), .ref 96] rfl ?_
      refine ko_iast3 mi_k13.1 (n := 24) (c := 24) (ax := (0, 0, 0, 0, 0)) (mi_k13.2 _ _ (by rfl)) (by rfl) (ksG96 _ _ _ _) (ksA96 _ _ _ _) (hG.I.2.1 96) rfl (oz3 fi_6019.1) (oz1343 c14 kn24) ?_
      intro a15 ea15 fa15
      have hJ15 := kG_a3 hG 96 rfl ea15 fa15 (kd_bd _)
      have s16 : ((i 6019) + 1).toInt = (i 6019).toInt + (1 : Int32).toInt := kd_add (oz12 fi_6019.1 kn1) (oz951 fi_6019.2 kn1)
      have hJ17 := kG_i hJ15 6019 rfl (v := ((i 6019) + 1)) ⟨(oz14 fi_6019.1 s16 kn1), (oz1511 hp3.2 s16 kn1)⟩
      refine ft_goI mi_k13 12 83 [.int 7, .ref (mi_RO + 4), .int x1, .ref 94] (ku i 6019 ((i 6019) + 1)) (by rfl) ?_
      refine ft_ro mi_k13 (w := 4) (by decide +kernel) (by decide +kernel) ?_
      have s19 : (x5 + 1).toInt = x5.toInt + (1 : Int32).toInt := kd_add (oz12 hp2.1 kn1) (oz1478 hp2.2 kn1)
      first | refine ft_goS mi_k13 8 105 [.int (x5 + 1), .int x4, .int 3, .int 4, .int x1, .ref 94] (by rfl) ?_
      have r20 : ((0 : Int) ≤ ((a15 95).getD x1.toNatClampNeg 0).toInt) ∧ (((a15 95).getD x1.toNatClampNeg 0).toInt ≤ 7) := hJ17.I.2.2.1 95 (x1.toNatClampNeg)
      have u21 : ((a15 95).getD x1.toNatClampNeg 0).toInt = ((a 95).getD x1.toNatClampNeg 0).toInt := congrArg (fun z : List Int32 => (z.getD x1.toNatClampNeg 0).toInt) (fa15 95 (by decide))
      refine ko_callI mi_k13.1 (pc := 105) (ls := [(7, .int 81), (6, .int 7), (0, .ref 94), (1, .int x1), (2, .int 7), (3, .int 3), (4, .int x4), (5, .int x5)]) (st := [.int (x5 + 1), .int x4, .int 3, .int 4, .int x1, .ref 94]) (h := ks (ku i 6019 ((i 6019) + 1)) a15 q r) (i := (.invokevirtual 35, 3, 13, 0, 9, 0, 297)) (mi_k13.2 _ _ (by rfl)) (ft_invS mi_pq13 (by rfl)) (cy := mi_c13) mi_pq13 rfl (kc13_94_l14_l23_K7 hJ17.I hJ17.R x1 x4 (x5 + 1) (oz1339 hp0.1 hp0.2) (oz1496 hp1 r20.2 u21) (oz1479 hp2.1 hp2.2 s19 kn1) (oz1522 fi_6019.1 hp3.2 s16 kn1)) (by decide) ?_
      intro vg22 ig22 ag22 qg22 rg22 kg22 hg22
      have hGg22 := kG_call hJ17 kg22 (by decide +kernel)
      have z23 : (ig22 6019).toInt = (((i 6019) + 1).toInt + 13) := hg22
      have b24 : ((-2147483648 : Int) ≤ vg22.toInt) ∧ (vg22.toInt ≤ 2147483647) := kd_bd vg22
      refine ft_goL mi_k13 6 258 [(8, .int vg22), (7, .int 81), (6, .int 7), (0, .ref 94), (1, .int x1), (2, .int 7), (3, .int 3), (4, .int x4), (5, .int x5)] [.int (vg22 - 1)] (by rfl) ?_
      exact ft_ret mi_k13 (by rfl) (hP (vg22 - 1) _ _ _ _ hGg22 (oz1521 s16 z23 kn1))
  ·
    have c25 : (40 : Int32).toInt ≤ x5.toInt := kd_ltF c; clear c
    exact (oz1480 c25 hp2.2 kn40).elim
noncomputable def w12_94 : kW := ([6019], [96], [], [])
set_option maxRecDepth 100000 in
theorem kc12_94 {i : Nat → Int32} {a : Nat → List Int32} {q : Nat → List Int64} {r : Nat → Nat} (hI : kI i a q) (hr : kr r) (x1 : Int32) (x2 : Int32) (x3 : Int32) : km 19 12 [.ref 94, .int x1, .int x2, .int x3] (ks i a q r) (kVI w12_94 i a q r (fun v i1 a1 q1 r1 => True)) := by
  have hG := kG_self w12_94 hI hr
  refine km_ofI (q := (mi_h12, mi_c12)) rfl (by decide) (Nat.le_of_ble_eq_true rfl) ?_
  intro P hP
  have hJ1 := kG_i hG 6019 rfl (v := 0) ⟨(oz46 kn0), (oz1331 kn0)⟩
  first | refine fo_go mi_k12 fz12_0_5_7 [(0, .ref 94), (1, .int x1), (2, .int x2), (3, .int x3)] [.int x1, .ref 94] (ku i 6019 0) a q r (by rfl) ?_ | refine ft_go mi_k12 5 7 [(0, .ref 94), (1, .int x1), (2, .int x2), (3, .int x3)] [.int x1, .ref 94] (ku i 6019 0) a q r (by rfl) ?_
  refine ko_callPI mi_k12.1 (pc := 7) (ls := [(0, .ref 94), (1, .int x1), (2, .int x2), (3, .int x3)]) (st := [.int x1, .ref 94]) (h := ks (ku i 6019 0) a q r) (i := (.invokevirtual 31, 3, 8, 0, 9, 0, 296)) (mi_k12.2 _ _ (by rfl)) (ft_invS mi_pq8 (by rfl)) (cy := mi_c8) mi_pq8 rfl (kc8_94 hJ1.I hJ1.R x1) (by decide) ?_
  intro vg2 hg2
  rcases hg2 with ⟨eg2, hg2⟩ | ⟨eg2, hg2⟩
  ·
    subst eg2
    have fi_6017 : ((0 : Int) ≤ (i 6017).toInt) ∧ ((i 6017).toInt ≤ 50) := hJ1.I.1 6017
    have z3 : ((0 : Int) ≤ x1.toInt) ∧ (x1.toInt < (i 6017).toInt) := hg2
    refine ft_goS mi_k12 2 14 [.int x2] (by rfl) ?_
    refine ft_ifS mi_k12 (decide (x2 < 0)) 22 17 [] (by rfl) (fun c => ?_) (fun c => ?_)
    ·
      have c4 : x2.toInt < (0 : Int32).toInt := kd_lt c; clear c
      refine ft_goS mi_k12 1 23 [.int 0] (by rfl) ?_
      exact ft_ret mi_k12 (by rfl) (hP 0 _ _ _ _ hJ1 trivial)
    ·
      have c5 : (0 : Int32).toInt ≤ x2.toInt := kd_ltF c; clear c
      refine ft_goS mi_k12 2 19 [.int 4, .int x2] (by rfl) ?_
      refine ft_ifS mi_k12 (decide (x2 < 4)) 24 22 [] (by rfl) (fun c => ?_) (fun c => ?_)
      ·
        have c6 : x2.toInt < (4 : Int32).toInt := kd_lt c; clear c
        refine fo_goS mi_k12 fz12_24_5_31 [.int x1, .ref 95, .int x1, .ref 94] rfl ?_
        refine ko_iald3 mi_k12.1 (n := 50) (c := 50) (ax := (0, 0, 0, 0, 0)) (mi_k12.2 _ _ (by rfl)) (by rfl) (ksG95 _ _ _ _) (hJ1.I.2.1 95) rfl (oz3 z3.1) (oz1283 fi_6017.2 z3.2) ?_
        have r7 : ((0 : Int) ≤ ((a 95).getD x1.toNatClampNeg 0).toInt) ∧ (((a 95).getD x1.toNatClampNeg 0).toInt ≤ 7) := hJ1.I.2.2.1 95 (x1.toNatClampNeg)
        refine ft_goS mi_k12 3 35 [.int 0, .int x3, .int x2, .int ((a 95).getD x1.toNatClampNeg 0), .int x1, .ref 94] (by rfl) ?_
        by_cases w8 : ((a 95).getD x1.toNatClampNeg 0).toInt = 0
        ·
          refine ko_eq (x1 := (35, [(0, .ref 94), (1, .int x1), (2, .int x2), (3, .int x3)], [.int 0, .int x3, .int x2, .int 0, .int x1, .ref 94], (0, 0), ks (ku i 6019 0) a q r)) (by rw [(kj_eq w8 (by decide) : ((a 95).getD x1.toNatClampNeg 0) = 0)]) ?_
          by_cases w9 : x2.toInt = 0
          ·
            refine ko_eq (x1 := (35, [(0, .ref 94), (1, .int x1), (2, .int x2), (3, .int x3)], [.int 0, .int x3, .int 0, .int 0, .int x1, .ref 94], (0, 0), ks (ku i 6019 0) a q r)) (by rw [(kj_eq w9 (by decide) : x2 = 0)]) ?_
            refine ko_callI mi_k12.1 (pc := 35) (ls := [(0, .ref 94), (1, .int x1), (2, .int x2), (3, .int x3)]) (st := [.int 0, .int x3, .int 0, .int 0, .int x1, .ref 94]) (h := ks (ku i 6019 0) a q r) (i := (.invokevirtual 35, 3, 13, 0, 9, 0, 297)) (mi_k12.2 _ _ (by rfl)) (ft_invS mi_pq13 (by rfl)) (cy := mi_c13) mi_pq13 rfl (kc13_94_l10_l20_K0 hJ1.I hJ1.R x1 x3 0 (oz1347 fi_6017.2 z3.1 z3.2) (oz1348 r7.1 w8) (oz1349 kn0) (oz1350 kn0)) (by decide) ?_
            intro vg10 ig10 ag10 qg10 rg10 kg10 hg10
            have hGg10 := kG_call hJ1 kg10 (by decide +kernel)
            exact ft_ret mi_k12 (by rfl) (hP vg10 _ _ _ _ hGg10 trivial)
          by_cases w12 : x2.toInt = 1
          ·
            refine ko_eq (x1 := (35, [(0, .ref 94), (1, .int x1), (2, .int x2), (3, .int x3)], [.int 0, .int x3, .int 1, .int 0, .int x1, .ref 94], (0, 0), ks (ku i 6019 0) a q r)) (by rw [(kj_eq w12 (by decide) : x2 = 1)]) ?_
            refine ko_callI mi_k12.1 (pc := 35) (ls := [(0, .ref 94), (1, .int x1), (2, .int x2), (3, .int x3)]) (st := [.int 0, .int x3, .int 1, .int 0, .int x1, .ref 94]) (h := ks (ku i 6019 0) a q r) (i := (.invokevirtual 35, 3, 13, 0, 9, 0, 297)) (mi_k12.2 _ _ (by rfl)) (ft_invS mi_pq13 (by rfl)) (cy := mi_c13) mi_pq13 rfl (kc13_94_l10_l21_K0 hJ1.I hJ1.R x1 x3 0 (oz1347 fi_6017.2 z3.1 z3.2) (oz1348 r7.1 w8) (oz1361 kn0) (oz1362 kn0)) (by decide) ?_
            intro vg13 ig13 ag13 qg13 rg13 kg13 hg13
            have hGg13 := kG_call hJ1 kg13 (by decide +kernel)
            exact ft_ret mi_k12 (by rfl) (hP vg13 _ _ _ _ hGg13 trivial)
          by_cases w15 : x2.toInt = 2
          ·
            refine ko_eq (x1 := (35, [(0, .ref 94), (1, .int x1), (2, .int x2), (3, .int x3)], [.int 0, .int x3, .int 2, .int 0, .int x1, .ref 94], (0, 0), ks (ku i 6019 0) a q r)) (by rw [(kj_eq w15 (by decide) : x2 = 2)]) ?_
            refine ko_callI mi_k12.1 (pc := 35) (ls := [(0, .ref 94), (1, .int x1), (2, .int x2), (3, .int x3)]) (st := [.int 0, .int x3, .int 2, .int 0, .int x1, .ref 94]) (h := ks (ku i 6019 0) a q r) (i := (.invokevirtual 35, 3, 13, 0, 9, 0, 297)) (mi_k12.2 _ _ (by rfl)) (ft_invS mi_pq13 (by rfl)) (cy := mi_c13) mi_pq13 rfl (kc13_94_l10_l22_K0 hJ1.I hJ1.R x1 x3 0 (oz1347 fi_6017.2 z3.1 z3.2) (oz1348 r7.1 w8) (oz1349 kn0) (oz1350 kn0)) (by decide) ?_
            intro vg16 ig16 ag16 qg16 rg16 kg16 hg16
            have hGg16 := kG_call hJ1 kg16 (by decide +kernel)
            exact ft_ret mi_k12 (by rfl) (hP vg16 _ _ _ _ hGg16 trivial)
          by_cases w18 : x2.toInt = 3
          ·
            refine ko_eq (x1 := (35, [(0, .ref 94), (1, .int x1), (2, .int x2), (3, .int x3)], [.int 0, .int x3, .int 3, .int 0, .int x1, .ref 94], (0, 0), ks (ku i 6019 0) a q r)) (by rw [(kj_eq w18 (by decide) : x2 = 3)]) ?_
            refine ko_callI mi_k12.1 (pc := 35) (ls := [(0, .ref 94), (1, .int x1), (2, .int x2), (3, .int x3)]) (st := [.int 0, .int x3, .int 3, .int 0, .int x1, .ref 94]) (h := ks (ku i 6019 0) a q r) (i := (.invokevirtual 35, 3, 13, 0, 9, 0, 297)) (mi_k12.2 _ _ (by rfl)) (ft_invS mi_pq13 (by rfl)) (cy := mi_c13) mi_pq13 rfl (kc13_94_l10_l23_K0 hJ1.I hJ1.R x1 x3 0 (oz1347 fi_6017.2 z3.1 z3.2) (oz1348 r7.1 w8) (oz1377 kn0) (oz1378 kn0)) (by decide) ?_
            intro vg19 ig19 ag19 qg19 rg19 kg19 hg19
            have hGg19 := kG_call hJ1 kg19 (by decide +kernel)
            exact ft_ret mi_k12 (by rfl) (hP vg19 _ _ _ _ hGg19 trivial)
          exact (oz1379 c5 c6 w12 w15 w18 w9 kn0 kn4).elim
        by_cases w21 : ((a 95).getD x1.toNatClampNeg 0).toInt = 1
        ·
          refine ko_eq (x1 := (35, [(0, .ref 94), (1, .int x1), (2, .int x2), (3, .int x3)], [.int 0, .int x3, .int x2, .int 1, .int x1, .ref 94], (0, 0), ks (ku i 6019 0) a q r)) (by rw [(kj_eq w21 (by decide) : ((a 95).getD x1.toNatClampNeg 0) = 1)]) ?_
          by_cases w22 : x2.toInt = 0
          ·
            refine ko_eq (x1 := (35, [(0, .ref 94), (1, .int x1), (2, .int x2), (3, .int x3)], [.int 0, .int x3, .int 0, .int 1, .int x1, .ref 94], (0, 0), ks (ku i 6019 0) a q r)) (by rw [(kj_eq w22 (by decide) : x2 = 0)]) ?_
            refine ko_callI mi_k12.1 (pc := 35) (ls := [(0, .ref 94), (1, .int x1), (2, .int x2), (3, .int x3)]) (st := [.int 0, .int x3, .int 0, .int 1, .int x1, .ref 94]) (h := ks (ku i 6019 0) a q r) (i := (.invokevirtual 35, 3, 13, 0, 9, 0, 297)) (mi_k12.2 _ _ (by rfl)) (ft_invS mi_pq13 (by rfl)) (cy := mi_c13) mi_pq13 rfl (kc13_94_l11_l20_K1 hJ1.I hJ1.R x1 x3 0 (oz1347 fi_6017.2 z3.1 z3.2) (oz1381 w21) (oz1361 kn0) (oz1362 kn0)) (by decide) ?_
            intro vg23 ig23 ag23 qg23 rg23 kg23 hg23
            have hGg23 := kG_call hJ1 kg23 (by decide +kernel)
            exact ft_ret mi_k12 (by rfl) (hP vg23 _ _ _ _ hGg23 trivial)
          by_cases w25 : x2.toInt = 1
          ·
            refine ko_eq (x1 := (35, [(0, .ref 94), (1, .int x1), (2, .int x2), (3, .int x3)], [.int 0, .int x3, .int 1, .int 1, .int x1, .ref 94], (0, 0), ks (ku i 6019 0) a q r)) (by rw [(kj_eq w25 (by decide) : x2 = 1)]) ?_
            refine ko_callI mi_k12.1 (pc := 35) (ls := [(0, .ref 94), (1, .int x1), (2, .int x2), (3, .int x3)]) (st := [.int 0, .int x3, .int 1, .int 1, .int x1, .ref 94]) (h := ks (ku i 6019 0) a q r) (i := (.invokevirtual 35, 3, 13, 0, 9, 0, 297)) (mi_k12.2 _ _ (by rfl)) (ft_invS mi_pq13 (by rfl)) (cy := mi_c13) mi_pq13 rfl (kc13_94_l11_l21_K1 hJ1.I hJ1.R x1 x3 0 (oz1347 fi_6017.2 z3.1 z3.2) (oz1381 w21) (oz1377 kn0) (oz1391 kn0)) (by decide) ?_
            intro vg26 ig26 ag26 qg26 rg26 kg26 hg26
            have hGg26 := kG_call hJ1 kg26 (by decide +kernel)
            exact ft_ret mi_k12 (by rfl) (hP vg26 _ _ _ _ hGg26 trivial)
          by_cases w28 : x2.toInt = 2
          ·
            refine ko_eq (x1 := (35, [(0, .ref 94), (1, .int x1), (2, .int x2), (3, .int x3)], [.int 0, .int x3, .int 2, .int 1, .int x1, .ref 94], (0, 0), ks (ku i 6019 0) a q r)) (by rw [(kj_eq w28 (by decide) : x2 = 2)]) ?_
            refine ko_callI mi_k12.1 (pc := 35) (ls := [(0, .ref 94), (1, .int x1), (2, .int x2), (3, .int x3)]) (st := [.int 0, .int x3, .int 2, .int 1, .int x1, .ref 94]) (h := ks (ku i 6019 0) a q r) (i := (.invokevirtual 35, 3, 13, 0, 9, 0, 297)) (mi_k12.2 _ _ (by rfl)) (ft_invS mi_pq13 (by rfl)) (cy := mi_c13) mi_pq13 rfl (kc13_94_l11_l22_K1 hJ1.I hJ1.R x1 x3 0 (oz1347 fi_6017.2 z3.1 z3.2) (oz1381 w21) (oz1349 kn0) (oz1350 kn0)) (by decide) ?_
            intro vg29 ig29 ag29 qg29 rg29 kg29 hg29
            have hGg29 := kG_call hJ1 kg29 (by decide +kernel)
            exact ft_ret mi_k12 (by rfl) (hP vg29 _ _ _ _ hGg29 trivial)
          by_cases w31 : x2.toInt = 3
          ·
            refine ko_eq (x1 := (35, [(0, .ref 94), (1, .int x1), (2, .int x2), (3, .int x3)], [.int 0, .int x3, .int 3, .int 1, .int x1, .ref 94], (0, 0), ks (ku i 6019 0) a q r)) (by rw [(kj_eq w31 (by decide) : x2 = 3)]) ?_
            refine ko_callI mi_k12.1 (pc := 35) (ls := [(0, .ref 94), (1, .int x1), (2, .int x2), (3, .int x3)]) (st := [.int 0, .int x3, .int 3, .int 1, .int x1, .ref 94]) (h := ks (ku i 6019 0) a q r) (i := (.invokevirtual 35, 3, 13, 0, 9, 0, 297)) (mi_k12.2 _ _ (by rfl)) (ft_invS mi_pq13 (by rfl)) (cy := mi_c13) mi_pq13 rfl (kc13_94_l11_l23_K1 hJ1.I hJ1.R x1 x3 0 (oz1347 fi_6017.2 z3.1 z3.2) (oz1381 w21) (oz1406 kn0) (oz1407 kn0)) (by decide) ?_
            intro vg32 ig32 ag32 qg32 rg32 kg32 hg32
            have hGg32 := kG_call hJ1 kg32 (by decide +kernel)
            exact ft_ret mi_k12 (by rfl) (hP vg32 _ _ _ _ hGg32 trivial)
          exact (oz1408 c5 c6 w22 w25 w28 w31 kn0 kn4).elim
        by_cases w34 : ((a 95).getD x1.toNatClampNeg 0).toInt = 2
        ·
          refine ko_eq (x1 := (35, [(0, .ref 94), (1, .int x1), (2, .int x2), (3, .int x3)], [.int 0, .int x3, .int x2, .int 2, .int x1, .ref 94], (0, 0), ks (ku i 6019 0) a q r)) (by rw [(kj_eq w34 (by decide) : ((a 95).getD x1.toNatClampNeg 0) = 2)]) ?_
          by_cases w35 : x2.toInt = 0
          ·
            refine ko_eq (x1 := (35, [(0, .ref 94), (1, .int x1), (2, .int x2), (3, .int x3)], [.int 0, .int x3, .int 0, .int 2, .int x1, .ref 94], (0, 0), ks (ku i 6019 0) a q r)) (by rw [(kj_eq w35 (by decide) : x2 = 0)]) ?_
            refine ko_callI mi_k12.1 (pc := 35) (ls := [(0, .ref 94), (1, .int x1), (2, .int x2), (3, .int x3)]) (st := [.int 0, .int x3, .int 0, .int 2, .int x1, .ref 94]) (h := ks (ku i 6019 0) a q r) (i := (.invokevirtual 35, 3, 13, 0, 9, 0, 297)) (mi_k12.2 _ _ (by rfl)) (ft_invS mi_pq13 (by rfl)) (cy := mi_c13) mi_pq13 rfl (kc13_94_l12_l20_K2 hJ1.I hJ1.R x1 x3 0 (oz1347 fi_6017.2 z3.1 z3.2) (oz1411 w34) (oz1349 kn0) (oz1350 kn0)) (by decide) ?_
            intro vg36 ig36 ag36 qg36 rg36 kg36 hg36
            have hGg36 := kG_call hJ1 kg36 (by decide +kernel)
            exact ft_ret mi_k12 (by rfl) (hP vg36 _ _ _ _ hGg36 trivial)
          by_cases w38 : x2.toInt = 1
          ·
            refine ko_eq (x1 := (35, [(0, .ref 94), (1, .int x1), (2, .int x2), (3, .int x3)], [.int 0, .int x3, .int 1, .int 2, .int x1, .ref 94], (0, 0), ks (ku i 6019 0) a q r)) (by rw [(kj_eq w38 (by decide) : x2 = 1)]) ?_
            refine ko_callI mi_k12.1 (pc := 35) (ls := [(0, .ref 94), (1, .int x1), (2, .int x2), (3, .int x3)]) (st := [.int 0, .int x3, .int 1, .int 2, .int x1, .ref 94]) (h := ks (ku i 6019 0) a q r) (i := (.invokevirtual 35, 3, 13, 0, 9, 0, 297)) (mi_k12.2 _ _ (by rfl)) (ft_invS mi_pq13 (by rfl)) (cy := mi_c13) mi_pq13 rfl (kc13_94_l12_l21_K2 hJ1.I hJ1.R x1 x3 0 (oz1347 fi_6017.2 z3.1 z3.2) (oz1411 w34) (oz1377 kn0) (oz1391 kn0)) (by decide) ?_
            intro vg39 ig39 ag39 qg39 rg39 kg39 hg39
            have hGg39 := kG_call hJ1 kg39 (by decide +kernel)
            exact ft_ret mi_k12 (by rfl) (hP vg39 _ _ _ _ hGg39 trivial)
          by_cases w41 : x2.toInt = 2
          ·
            refine ko_eq (x1 := (35, [(0, .ref 94), (1, .int x1), (2, .int x2), (3, .int x3)], [.int 0, .int x3, .int 2, .int 2, .int x1, .ref 94], (0, 0), ks (ku i 6019 0) a q r)) (by rw [(kj_eq w41 (by decide) : x2 = 2)]) ?_
            refine ko_callI mi_k12.1 (pc := 35) (ls := [(0, .ref 94), (1, .int x1), (2, .int x2), (3, .int x3)]) (st := [.int 0, .int x3, .int 2, .int 2, .int x1, .ref 94]) (h := ks (ku i 6019 0) a q r) (i := (.invokevirtual 35, 3, 13, 0, 9, 0, 297)) (mi_k12.2 _ _ (by rfl)) (ft_invS mi_pq13 (by rfl)) (cy := mi_c13) mi_pq13 rfl (kc13_94_l12_l22_K2 hJ1.I hJ1.R x1 x3 0 (oz1347 fi_6017.2 z3.1 z3.2) (oz1411 w34) (oz1349 kn0) (oz1350 kn0)) (by decide) ?_
            intro vg42 ig42 ag42 qg42 rg42 kg42 hg42
            have hGg42 := kG_call hJ1 kg42 (by decide +kernel)
            exact ft_ret mi_k12 (by rfl) (hP vg42 _ _ _ _ hGg42 trivial)
          by_cases w44 : x2.toInt = 3
          ·
            refine ko_eq (x1 := (35, [(0, .ref 94), (1, .int x1), (2, .int x2), (3, .int x3)], [.int 0, .int x3, .int 3, .int 2, .int x1, .ref 94], (0, 0), ks (ku i 6019 0) a q r)) (by rw [(kj_eq w44 (by decide) : x2 = 3)]) ?_
            refine ko_callI mi_k12.1 (pc := 35) (ls := [(0, .ref 94), (1, .int x1), (2, .int x2), (3, .int x3)]) (st := [.int 0, .int x3, .int 3, .int 2, .int x1, .ref 94]) (h := ks (ku i 6019 0) a q r) (i := (.invokevirtual 35, 3, 13, 0, 9, 0, 297)) (mi_k12.2 _ _ (by rfl)) (ft_invS mi_pq13 (by rfl)) (cy := mi_c13) mi_pq13 rfl (kc13_94_l12_l23_K2 hJ1.I hJ1.R x1 x3 0 (oz1347 fi_6017.2 z3.1 z3.2) (oz1411 w34) (oz1406 kn0) (oz1407 kn0)) (by decide) ?_
            intro vg45 ig45 ag45 qg45 rg45 kg45 hg45
            have hGg45 := kG_call hJ1 kg45 (by decide +kernel)
            exact ft_ret mi_k12 (by rfl) (hP vg45 _ _ _ _ hGg45 trivial)
          exact (oz1408 c5 c6 w35 w38 w41 w44 kn0 kn4).elim
        by_cases w47 : ((a 95).getD x1.toNatClampNeg 0).toInt = 3
        ·
          refine ko_eq (x1 := (35, [(0, .ref 94), (1, .int x1), (2, .int x2), (3, .int x3)], [.int 0, .int x3, .int x2, .int 3, .int x1, .ref 94], (0, 0), ks (ku i 6019 0) a q r)) (by rw [(kj_eq w47 (by decide) : ((a 95).getD x1.toNatClampNeg 0) = 3)]) ?_
          by_cases w48 : x2.toInt = 0
          ·
            refine ko_eq (x1 := (35, [(0, .ref 94), (1, .int x1), (2, .int x2), (3, .int x3)], [.int 0, .int x3, .int 0, .int 3, .int x1, .ref 94], (0, 0), ks (ku i 6019 0) a q r)) (by rw [(kj_eq w48 (by decide) : x2 = 0)]) ?_
            refine ko_callI mi_k12.1 (pc := 35) (ls := [(0, .ref 94), (1, .int x1), (2, .int x2), (3, .int x3)]) (st := [.int 0, .int x3, .int 0, .int 3, .int x1, .ref 94]) (h := ks (ku i 6019 0) a q r) (i := (.invokevirtual 35, 3, 13, 0, 9, 0, 297)) (mi_k12.2 _ _ (by rfl)) (ft_invS mi_pq13 (by rfl)) (cy := mi_c13) mi_pq13 rfl (kc13_94_l13_l20_K3 hJ1.I hJ1.R x1 x3 0 (oz1347 fi_6017.2 z3.1 z3.2) (oz1421 w47) (oz1349 kn0) (oz1350 kn0)) (by decide) ?_
            intro vg49 ig49 ag49 qg49 rg49 kg49 hg49
            have hGg49 := kG_call hJ1 kg49 (by decide +kernel)
            exact ft_ret mi_k12 (by rfl) (hP vg49 _ _ _ _ hGg49 trivial)
          by_cases w51 : x2.toInt = 1
          ·
            refine ko_eq (x1 := (35, [(0, .ref 94), (1, .int x1), (2, .int x2), (3, .int x3)], [.int 0, .int x3, .int 1, .int 3, .int x1, .ref 94], (0, 0), ks (ku i 6019 0) a q r)) (by rw [(kj_eq w51 (by decide) : x2 = 1)]) ?_
            refine ko_callI mi_k12.1 (pc := 35) (ls := [(0, .ref 94), (1, .int x1), (2, .int x2), (3, .int x3)]) (st := [.int 0, .int x3, .int 1, .int 3, .int x1, .ref 94]) (h := ks (ku i 6019 0) a q r) (i := (.invokevirtual 35, 3, 13, 0, 9, 0, 297)) (mi_k12.2 _ _ (by rfl)) (ft_invS mi_pq13 (by rfl)) (cy := mi_c13) mi_pq13 rfl (kc13_94_l13_l21_K3 hJ1.I hJ1.R x1 x3 0 (oz1347 fi_6017.2 z3.1 z3.2) (oz1421 w47) (oz1406 kn0) (oz1378 kn0)) (by decide) ?_
            intro vg52 ig52 ag52 qg52 rg52 kg52 hg52
            have hGg52 := kG_call hJ1 kg52 (by decide +kernel)
            exact ft_ret mi_k12 (by rfl) (hP vg52 _ _ _ _ hGg52 trivial)
          by_cases w54 : x2.toInt = 2
          ·
            refine ko_eq (x1 := (35, [(0, .ref 94), (1, .int x1), (2, .int x2), (3, .int x3)], [.int 0, .int x3, .int 2, .int 3, .int x1, .ref 94], (0, 0), ks (ku i 6019 0) a q r)) (by rw [(kj_eq w54 (by decide) : x2 = 2)]) ?_
            refine ko_callI mi_k12.1 (pc := 35) (ls := [(0, .ref 94), (1, .int x1), (2, .int x2), (3, .int x3)]) (st := [.int 0, .int x3, .int 2, .int 3, .int x1, .ref 94]) (h := ks (ku i 6019 0) a q r) (i := (.invokevirtual 35, 3, 13, 0, 9, 0, 297)) (mi_k12.2 _ _ (by rfl)) (ft_invS mi_pq13 (by rfl)) (cy := mi_c13) mi_pq13 rfl (kc13_94_l13_l22_K3 hJ1.I hJ1.R x1 x3 0 (oz1347 fi_6017.2 z3.1 z3.2) (oz1421 w47) (oz1361 kn0) (oz1362 kn0)) (by decide) ?_
            intro vg55 ig55 ag55 qg55 rg55 kg55 hg55
            have hGg55 := kG_call hJ1 kg55 (by decide +kernel)
            exact ft_ret mi_k12 (by rfl) (hP vg55 _ _ _ _ hGg55 trivial)
          by_cases w57 : x2.toInt = 3
          ·
            refine ko_eq (x1 := (35, [(0, .ref 94), (1, .int x1), (2, .int x2), (3, .int x3)], [.int 0, .int x3, .int 3, .int 3, .int x1, .ref 94], (0, 0), ks (ku i 6019 0) a q r)) (by rw [(kj_eq w57 (by decide) : x2 = 3)]) ?_
            refine ko_callI mi_k12.1 (pc := 35) (ls := [(0, .ref 94), (1, .int x1), (2, .int x2), (3, .int x3)]) (st := [.int 0, .int x3, .int 3, .int 3, .int x1, .ref 94]) (h := ks (ku i 6019 0) a q r) (i := (.invokevirtual 35, 3, 13, 0, 9, 0, 297)) (mi_k12.2 _ _ (by rfl)) (ft_invS mi_pq13 (by rfl)) (cy := mi_c13) mi_pq13 rfl (kc13_94_l13_l23_K3 hJ1.I hJ1.R x1 x3 0 (oz1347 fi_6017.2 z3.1 z3.2) (oz1421 w47) (oz1441 kn0) (oz1442 kn0)) (by decide) ?_
            intro vg58 ig58 ag58 qg58 rg58 kg58 hg58
            have hGg58 := kG_call hJ1 kg58 (by decide +kernel)
            exact ft_ret mi_k12 (by rfl) (hP vg58 _ _ _ _ hGg58 trivial)
          exact (oz1408 c5 c6 w48 w51 w54 w57 kn0 kn4).elim
        by_cases w60 : ((a 95).getD x1.toNatClampNeg 0).toInt = 4
        ·
          refine ko_eq (x1 := (35, [(0, .ref 94), (1, .int x1), (2, .int x2), (3, .int x3)], [.int 0, .int x3, .int x2, .int 4, .int x1, .ref 94], (0, 0), ks (ku i 6019 0) a q r)) (by rw [(kj_eq w60 (by decide) : ((a 95).getD x1.toNatClampNeg 0) = 4)]) ?_
          by_cases w61 : x2.toInt = 0
          ·
            refine ko_eq (x1 := (35, [(0, .ref 94), (1, .int x1), (2, .int x2), (3, .int x3)], [.int 0, .int x3, .int 0, .int 4, .int x1, .ref 94], (0, 0), ks (ku i 6019 0) a q r)) (by rw [(kj_eq w61 (by decide) : x2 = 0)]) ?_
            refine ko_callI mi_k12.1 (pc := 35) (ls := [(0, .ref 94), (1, .int x1), (2, .int x2), (3, .int x3)]) (st := [.int 0, .int x3, .int 0, .int 4, .int x1, .ref 94]) (h := ks (ku i 6019 0) a q r) (i := (.invokevirtual 35, 3, 13, 0, 9, 0, 297)) (mi_k12.2 _ _ (by rfl)) (ft_invS mi_pq13 (by rfl)) (cy := mi_c13) mi_pq13 rfl (kc13_94_l14_l20_K4 hJ1.I hJ1.R x1 x3 0 (oz1347 fi_6017.2 z3.1 z3.2) (oz1446 w60) (oz1361 kn0) (oz1362 kn0)) (by decide) ?_
            intro vg62 ig62 ag62 qg62 rg62 kg62 hg62
            have hGg62 := kG_call hJ1 kg62 (by decide +kernel)
            exact ft_ret mi_k12 (by rfl) (hP vg62 _ _ _ _ hGg62 trivial)
          by_cases w64 : x2.toInt = 1
          ·
            refine ko_eq (x1 := (35, [(0, .ref 94), (1, .int x1), (2, .int x2), (3, .int x3)], [.int 0, .int x3, .int 1, .int 4, .int x1, .ref 94], (0, 0), ks (ku i 6019 0) a q r)) (by rw [(kj_eq w64 (by decide) : x2 = 1)]) ?_
            refine ko_callI mi_k12.1 (pc := 35) (ls := [(0, .ref 94), (1, .int x1), (2, .int x2), (3, .int x3)]) (st := [.int 0, .int x3, .int 1, .int 4, .int x1, .ref 94]) (h := ks (ku i 6019 0) a q r) (i := (.invokevirtual 35, 3, 13, 0, 9, 0, 297)) (mi_k12.2 _ _ (by rfl)) (ft_invS mi_pq13 (by rfl)) (cy := mi_c13) mi_pq13 rfl (kc13_94_l14_l21_K4 hJ1.I hJ1.R x1 x3 0 (oz1347 fi_6017.2 z3.1 z3.2) (oz1446 w60) (oz1377 kn0) (oz1391 kn0)) (by decide) ?_
            intro vg65 ig65 ag65 qg65 rg65 kg65 hg65
            have hGg65 := kG_call hJ1 kg65 (by decide +kernel)
            exact ft_ret mi_k12 (by rfl) (hP vg65 _ _ _ _ hGg65 trivial)
          by_cases w67 : x2.toInt = 2
          ·
            refine ko_eq (x1 := (35, [(0, .ref 94), (1, .int x1), (2, .int x2), (3, .int x3)], [.int 0, .int x3, .int 2, .int 4, .int x1, .ref 94], (0, 0), ks (ku i 6019 0) a q r)) (by rw [(kj_eq w67 (by decide) : x2 = 2)]) ?_
            refine ko_callI mi_k12.1 (pc := 35) (ls := [(0, .ref 94), (1, .int x1), (2, .int x2), (3, .int x3)]) (st := [.int 0, .int x3, .int 2, .int 4, .int x1, .ref 94]) (h := ks (ku i 6019 0) a q r) (i := (.invokevirtual 35, 3, 13, 0, 9, 0, 297)) (mi_k12.2 _ _ (by rfl)) (ft_invS mi_pq13 (by rfl)) (cy := mi_c13) mi_pq13 rfl (kc13_94_l14_l22_K4 hJ1.I hJ1.R x1 x3 0 (oz1347 fi_6017.2 z3.1 z3.2) (oz1446 w60) (oz1377 kn0) (oz1378 kn0)) (by decide) ?_
            intro vg68 ig68 ag68 qg68 rg68 kg68 hg68
            have hGg68 := kG_call hJ1 kg68 (by decide +kernel)
            exact ft_ret mi_k12 (by rfl) (hP vg68 _ _ _ _ hGg68 trivial)
          by_cases w70 : x2.toInt = 3
          ·
            refine ko_eq (x1 := (35, [(0, .ref 94), (1, .int x1), (2, .int x2), (3, .int x3)], [.int 0, .int x3, .int 3, .int 4, .int x1, .ref 94], (0, 0), ks (ku i 6019 0) a q r)) (by rw [(kj_eq w70 (by decide) : x2 = 3)]) ?_
            refine ko_callI mi_k12.1 (pc := 35) (ls := [(0, .ref 94), (1, .int x1), (2, .int x2), (3, .int x3)]) (st := [.int 0, .int x3, .int 3, .int 4, .int x1, .ref 94]) (h := ks (ku i 6019 0) a q r) (i := (.invokevirtual 35, 3, 13, 0, 9, 0, 297)) (mi_k12.2 _ _ (by rfl)) (ft_invS mi_pq13 (by rfl)) (cy := mi_c13) mi_pq13 rfl (kc13_94_l14_l23_K4 hJ1.I hJ1.R x1 x3 0 (oz1347 fi_6017.2 z3.1 z3.2) (oz1446 w60) (oz1406 kn0) (oz1466 kn0)) (by decide) ?_
            intro vg71 ig71 ag71 qg71 rg71 kg71 hg71
            have hGg71 := kG_call hJ1 kg71 (by decide +kernel)
            exact ft_ret mi_k12 (by rfl) (hP vg71 _ _ _ _ hGg71 trivial)
          exact (oz1408 c5 c6 w61 w64 w67 w70 kn0 kn4).elim
        by_cases w73 : ((a 95).getD x1.toNatClampNeg 0).toInt = 5
        ·
          refine ko_eq (x1 := (35, [(0, .ref 94), (1, .int x1), (2, .int x2), (3, .int x3)], [.int 0, .int x3, .int x2, .int 5, .int x1, .ref 94], (0, 0), ks (ku i 6019 0) a q r)) (by rw [(kj_eq w73 (by decide) : ((a 95).getD x1.toNatClampNeg 0) = 5)]) ?_
          by_cases w74 : x2.toInt = 0
          ·
            refine ko_eq (x1 := (35, [(0, .ref 94), (1, .int x1), (2, .int x2), (3, .int x3)], [.int 0, .int x3, .int 0, .int 5, .int x1, .ref 94], (0, 0), ks (ku i 6019 0) a q r)) (by rw [(kj_eq w74 (by decide) : x2 = 0)]) ?_
            refine ko_callI mi_k12.1 (pc := 35) (ls := [(0, .ref 94), (1, .int x1), (2, .int x2), (3, .int x3)]) (st := [.int 0, .int x3, .int 0, .int 5, .int x1, .ref 94]) (h := ks (ku i 6019 0) a q r) (i := (.invokevirtual 35, 3, 13, 0, 9, 0, 297)) (mi_k12.2 _ _ (by rfl)) (ft_invS mi_pq13 (by rfl)) (cy := mi_c13) mi_pq13 rfl (kc13_94_l15_l20_K5 hJ1.I hJ1.R x1 x3 0 (oz1347 fi_6017.2 z3.1 z3.2) (oz1470 w73) (oz1349 kn0) (oz1350 kn0)) (by decide) ?_
            intro vg75 ig75 ag75 qg75 rg75 kg75 hg75
            have hGg75 := kG_call hJ1 kg75 (by decide +kernel)
            exact ft_ret mi_k12 (by rfl) (hP vg75 _ _ _ _ hGg75 trivial)
          by_cases w77 : x2.toInt = 1
          ·
            refine ko_eq (x1 := (35, [(0, .ref 94), (1, .int x1), (2, .int x2), (3, .int x3)], [.int 0, .int x3, .int 1, .int 5, .int x1, .ref 94], (0, 0), ks (ku i 6019 0) a q r)) (by rw [(kj_eq w77 (by decide) : x2 = 1)]) ?_
            refine ko_callI mi_k12.1 (pc := 35) (ls := [(0, .ref 94), (1, .int x1), (2, .int x2), (3, .int x3)]) (st := [.int 0, .int x3, .int 1, .int 5, .int x1, .ref 94]) (h := ks (ku i 6019 0) a q r) (i := (.invokevirtual 35, 3, 13, 0, 9, 0, 297)) (mi_k12.2 _ _ (by rfl)) (ft_invS mi_pq13 (by rfl)) (cy := mi_c13) mi_pq13 rfl (kc13_94_l15_l21_K5 hJ1.I hJ1.R x1 x3 0 (oz1347 fi_6017.2 z3.1 z3.2) (oz1470 w73) (oz1406 kn0) (oz1378 kn0)) (by decide) ?_
            intro vg78 ig78 ag78 qg78 rg78 kg78 hg78
            have hGg78 := kG_call hJ1 kg78 (by decide +kernel)
            exact ft_ret mi_k12 (by rfl) (hP vg78 _ _ _ _ hGg78 trivial)
          by_cases w80 : x2.toInt = 2
          ·
            refine ko_eq (x1 := (35, [(0, .ref 94), (1, .int x1), (2, .int x2), (3, .int x3)], [.int 0, .int x3, .int 2, .int 5, .int x1, .ref 94], (0, 0), ks (ku i 6019 0) a q r)) (by rw [(kj_eq w80 (by decide) : x2 = 2)]) ?_
            refine ko_callI mi_k12.1 (pc := 35) (ls := [(0, .ref 94), (1, .int x1), (2, .int x2), (3, .int x3)]) (st := [.int 0, .int x3, .int 2, .int 5, .int x1, .ref 94]) (h := ks (ku i 6019 0) a q r) (i := (.invokevirtual 35, 3, 13, 0, 9, 0, 297)) (mi_k12.2 _ _ (by rfl)) (ft_invS mi_pq13 (by rfl)) (cy := mi_c13) mi_pq13 rfl (kc13_94_l15_l22_K5 hJ1.I hJ1.R x1 x3 0 (oz1347 fi_6017.2 z3.1 z3.2) (oz1470 w73) (oz1361 kn0) (oz1362 kn0)) (by decide) ?_
            intro vg81 ig81 ag81 qg81 rg81 kg81 hg81
            have hGg81 := kG_call hJ1 kg81 (by decide +kernel)
            exact ft_ret mi_k12 (by rfl) (hP vg81 _ _ _ _ hGg81 trivial)
          by_cases w83 : x2.toInt = 3
          ·
            refine ko_eq (x1 := (35, [(0, .ref 94), (1, .int x1), (2, .int x2), (3, .int x3)], [.int 0, .int x3, .int 3, .int 5, .int x1, .ref 94], (0, 0), ks (ku i 6019 0) a q r)) (by rw [(kj_eq w83 (by decide) : x2 = 3)]) ?_
            refine ko_callI mi_k12.1 (pc := 35) (ls := [(0, .ref 94), (1, .int x1), (2, .int x2), (3, .int x3)]) (st := [.int 0, .int x3, .int 3, .int 5, .int x1, .ref 94]) (h := ks (ku i 6019 0) a q r) (i := (.invokevirtual 35, 3, 13, 0, 9, 0, 297)) (mi_k12.2 _ _ (by rfl)) (ft_invS mi_pq13 (by rfl)) (cy := mi_c13) mi_pq13 rfl (kc13_94_l15_l23_K5 hJ1.I hJ1.R x1 x3 0 (oz1347 fi_6017.2 z3.1 z3.2) (oz1470 w73) (oz1481 kn0) (oz1466 kn0)) (by decide) ?_
            intro vg84 ig84 ag84 qg84 rg84 kg84 hg84
            have hGg84 := kG_call hJ1 kg84 (by decide +kernel)
            exact ft_ret mi_k12 (by rfl) (hP vg84 _ _ _ _ hGg84 trivial)
          exact (oz1408 c5 c6 w74 w77 w80 w83 kn0 kn4).elim
        by_cases w86 : ((a 95).getD x1.toNatClampNeg 0).toInt = 6
        ·
          refine ko_eq (x1 := (35, [(0, .ref 94), (1, .int x1), (2, .int x2), (3, .int x3)], [.int 0, .int x3, .int x2, .int 6, .int x1, .ref 94], (0, 0), ks (ku i 6019 0) a q r)) (by rw [(kj_eq w86 (by decide) : ((a 95).getD x1.toNatClampNeg 0) = 6)]) ?_
          by_cases w87 : x2.toInt = 0
          ·
            refine ko_eq (x1 := (35, [(0, .ref 94), (1, .int x1), (2, .int x2), (3, .int x3)], [.int 0, .int x3, .int 0, .int 6, .int x1, .ref 94], (0, 0), ks (ku i 6019 0) a q r)) (by rw [(kj_eq w87 (by decide) : x2 = 0)]) ?_
            refine ko_callI mi_k12.1 (pc := 35) (ls := [(0, .ref 94), (1, .int x1), (2, .int x2), (3, .int x3)]) (st := [.int 0, .int x3, .int 0, .int 6, .int x1, .ref 94]) (h := ks (ku i 6019 0) a q r) (i := (.invokevirtual 35, 3, 13, 0, 9, 0, 297)) (mi_k12.2 _ _ (by rfl)) (ft_invS mi_pq13 (by rfl)) (cy := mi_c13) mi_pq13 rfl (kc13_94_l16_l20_K6 hJ1.I hJ1.R x1 x3 0 (oz1347 fi_6017.2 z3.1 z3.2) (oz1484 w86) (oz1361 kn0) (oz1362 kn0)) (by decide) ?_
            intro vg88 ig88 ag88 qg88 rg88 kg88 hg88
            have hGg88 := kG_call hJ1 kg88 (by decide +kernel)
            exact ft_ret mi_k12 (by rfl) (hP vg88 _ _ _ _ hGg88 trivial)
          by_cases w90 : x2.toInt = 1
          ·
            refine ko_eq (x1 := (35, [(0, .ref 94), (1, .int x1), (2, .int x2), (3, .int x3)], [.int 0, .int x3, .int 1, .int 6, .int x1, .ref 94], (0, 0), ks (ku i 6019 0) a q r)) (by rw [(kj_eq w90 (by decide) : x2 = 1)]) ?_
            refine ko_callI mi_k12.1 (pc := 35) (ls := [(0, .ref 94), (1, .int x1), (2, .int x2), (3, .int x3)]) (st := [.int 0, .int x3, .int 1, .int 6, .int x1, .ref 94]) (h := ks (ku i 6019 0) a q r) (i := (.invokevirtual 35, 3, 13, 0, 9, 0, 297)) (mi_k12.2 _ _ (by rfl)) (ft_invS mi_pq13 (by rfl)) (cy := mi_c13) mi_pq13 rfl (kc13_94_l16_l21_K6 hJ1.I hJ1.R x1 x3 0 (oz1347 fi_6017.2 z3.1 z3.2) (oz1484 w86) (oz1377 kn0) (oz1391 kn0)) (by decide) ?_
            intro vg91 ig91 ag91 qg91 rg91 kg91 hg91
            have hGg91 := kG_call hJ1 kg91 (by decide +kernel)
            exact ft_ret mi_k12 (by rfl) (hP vg91 _ _ _ _ hGg91 trivial)
          by_cases w93 : x2.toInt = 2
          ·
            refine ko_eq (x1 := (35, [(0, .ref 94), (1, .int x1), (2, .int x2), (3, .int x3)], [.int 0, .int x3, .int 2, .int 6, .int x1, .ref 94], (0, 0), ks (ku i 6019 0) a q r)) (by rw [(kj_eq w93 (by decide) : x2 = 2)]) ?_
            refine ko_callI mi_k12.1 (pc := 35) (ls := [(0, .ref 94), (1, .int x1), (2, .int x2), (3, .int x3)]) (st := [.int 0, .int x3, .int 2, .int 6, .int x1, .ref 94]) (h := ks (ku i 6019 0) a q r) (i := (.invokevirtual 35, 3, 13, 0, 9, 0, 297)) (mi_k12.2 _ _ (by rfl)) (ft_invS mi_pq13 (by rfl)) (cy := mi_c13) mi_pq13 rfl (kc13_94_l16_l22_K6 hJ1.I hJ1.R x1 x3 0 (oz1347 fi_6017.2 z3.1 z3.2) (oz1484 w86) (oz1349 kn0) (oz1350 kn0)) (by decide) ?_
            intro vg94 ig94 ag94 qg94 rg94 kg94 hg94
            have hGg94 := kG_call hJ1 kg94 (by decide +kernel)
            exact ft_ret mi_k12 (by rfl) (hP vg94 _ _ _ _ hGg94 trivial)
          by_cases w96 : x2.toInt = 3
          ·
            refine ko_eq (x1 := (35, [(0, .ref 94), (1, .int x1), (2, .int x2), (3, .int x3)], [.int 0, .int x3, .int 3, .int 6, .int x1, .ref 94], (0, 0), ks (ku i 6019 0) a q r)) (by rw [(kj_eq w96 (by decide) : x2 = 3)]) ?_
            refine ko_callI mi_k12.1 (pc := 35) (ls := [(0, .ref 94), (1, .int x1), (2, .int x2), (3, .int x3)]) (st := [.int 0, .int x3, .int 3, .int 6, .int x1, .ref 94]) (h := ks (ku i 6019 0) a q r) (i := (.invokevirtual 35, 3, 13, 0, 9, 0, 297)) (mi_k12.2 _ _ (by rfl)) (ft_invS mi_pq13 (by rfl)) (cy := mi_c13) mi_pq13 rfl (kc13_94_l16_l23_K6 hJ1.I hJ1.R x1 x3 0 (oz1347 fi_6017.2 z3.1 z3.2) (oz1484 w86) (oz1406 kn0) (oz1407 kn0)) (by decide) ?_
            intro vg97 ig97 ag97 qg97 rg97 kg97 hg97
            have hGg97 := kG_call hJ1 kg97 (by decide +kernel)
            exact ft_ret mi_k12 (by rfl) (hP vg97 _ _ _ _ hGg97 trivial)
          exact (oz1408 c5 c6 w87 w90 w93 w96 kn0 kn4).elim
        by_cases w99 : ((a 95).getD x1.toNatClampNeg 0).toInt = 7
        ·
          refine ko_eq (x1 := (35, [(0, .ref 94), (1, .int x1), (2, .int x2), (3, .int x3)], [.int 0, .int x3, .int x2, .int 7, .int x1, .ref 94], (0, 0), ks (ku i 6019 0) a q r)) (by rw [(kj_eq w99 (by decide) : ((a 95).getD x1.toNatClampNeg 0) = 7)]) ?_
          by_cases w100 : x2.toInt = 0
          ·
            refine ko_eq (x1 := (35, [(0, .ref 94), (1, .int x1), (2, .int x2), (3, .int x3)], [.int 0, .int x3, .int 0, .int 7, .int x1, .ref 94], (0, 0), ks (ku i 6019 0) a q r)) (by rw [(kj_eq w100 (by decide) : x2 = 0)]) ?_
            refine ko_callI mi_k12.1 (pc := 35) (ls := [(0, .ref 94), (1, .int x1), (2, .int x2), (3, .int x3)]) (st := [.int 0, .int x3, .int 0, .int 7, .int x1, .ref 94]) (h := ks (ku i 6019 0) a q r) (i := (.invokevirtual 35, 3, 13, 0, 9, 0, 297)) (mi_k12.2 _ _ (by rfl)) (ft_invS mi_pq13 (by rfl)) (cy := mi_c13) mi_pq13 rfl (kc13_94_l17_l20_K7 hJ1.I hJ1.R x1 x3 0 (oz1347 fi_6017.2 z3.1 z3.2) (oz1497 r7.2 w99) (oz1361 kn0) (oz1362 kn0)) (by decide) ?_
            intro vg101 ig101 ag101 qg101 rg101 kg101 hg101
            have hGg101 := kG_call hJ1 kg101 (by decide +kernel)
            exact ft_ret mi_k12 (by rfl) (hP vg101 _ _ _ _ hGg101 trivial)
          by_cases w103 : x2.toInt = 1
          ·
            refine ko_eq (x1 := (35, [(0, .ref 94), (1, .int x1), (2, .int x2), (3, .int x3)], [.int 0, .int x3, .int 1, .int 7, .int x1, .ref 94], (0, 0), ks (ku i 6019 0) a q r)) (by rw [(kj_eq w103 (by decide) : x2 = 1)]) ?_
            refine ko_callI mi_k12.1 (pc := 35) (ls := [(0, .ref 94), (1, .int x1), (2, .int x2), (3, .int x3)]) (st := [.int 0, .int x3, .int 1, .int 7, .int x1, .ref 94]) (h := ks (ku i 6019 0) a q r) (i := (.invokevirtual 35, 3, 13, 0, 9, 0, 297)) (mi_k12.2 _ _ (by rfl)) (ft_invS mi_pq13 (by rfl)) (cy := mi_c13) mi_pq13 rfl (kc13_94_l17_l21_K7 hJ1.I hJ1.R x1 x3 0 (oz1347 fi_6017.2 z3.1 z3.2) (oz1497 r7.2 w99) (oz1406 kn0) (oz1466 kn0)) (by decide) ?_
            intro vg104 ig104 ag104 qg104 rg104 kg104 hg104
            have hGg104 := kG_call hJ1 kg104 (by decide +kernel)
            exact ft_ret mi_k12 (by rfl) (hP vg104 _ _ _ _ hGg104 trivial)
          by_cases w106 : x2.toInt = 2
          ·
            refine ko_eq (x1 := (35, [(0, .ref 94), (1, .int x1), (2, .int x2), (3, .int x3)], [.int 0, .int x3, .int 2, .int 7, .int x1, .ref 94], (0, 0), ks (ku i 6019 0) a q r)) (by rw [(kj_eq w106 (by decide) : x2 = 2)]) ?_
            refine ko_callI mi_k12.1 (pc := 35) (ls := [(0, .ref 94), (1, .int x1), (2, .int x2), (3, .int x3)]) (st := [.int 0, .int x3, .int 2, .int 7, .int x1, .ref 94]) (h := ks (ku i 6019 0) a q r) (i := (.invokevirtual 35, 3, 13, 0, 9, 0, 297)) (mi_k12.2 _ _ (by rfl)) (ft_invS mi_pq13 (by rfl)) (cy := mi_c13) mi_pq13 rfl (kc13_94_l17_l22_K7 hJ1.I hJ1.R x1 x3 0 (oz1347 fi_6017.2 z3.1 z3.2) (oz1497 r7.2 w99) (oz1377 kn0) (oz1378 kn0)) (by decide) ?_
            intro vg107 ig107 ag107 qg107 rg107 kg107 hg107
            have hGg107 := kG_call hJ1 kg107 (by decide +kernel)
            exact ft_ret mi_k12 (by rfl) (hP vg107 _ _ _ _ hGg107 trivial)
          by_cases w109 : x2.toInt = 3
          ·
            refine ko_eq (x1 := (35, [(0, .ref 94), (1, .int x1), (2, .int x2), (3, .int x3)], [.int 0, .int x3, .int 3, .int 7, .int x1, .ref 94], (0, 0), ks (ku i 6019 0) a q r)) (by rw [(kj_eq w109 (by decide) : x2 = 3)]) ?_
            refine ko_callI mi_k12.1 (pc := 35) (ls := [(0, .ref 94), (1, .int x1), (2, .int x2), (3, .int x3)]) (st := [.int 0, .int x3, .int 3, .int 7, .int x1, .ref 94]) (h := ks (ku i 6019 0) a q r) (i := (.invokevirtual 35, 3, 13, 0, 9, 0, 297)) (mi_k12.2 _ _ (by rfl)) (ft_invS mi_pq13 (by rfl)) (cy := mi_c13) mi_pq13 rfl (kc13_94_l17_l23_K7 hJ1.I hJ1.R x1 x3 0 (oz1347 fi_6017.2 z3.1 z3.2) (oz1497 r7.2 w99) (oz1481 kn0) (oz1523 kn0)) (by decide) ?_
            intro vg110 ig110 ag110 qg110 rg110 kg110 hg110
            have hGg110 := kG_call hJ1 kg110 (by decide +kernel)
            exact ft_ret mi_k12 (by rfl) (hP vg110 _ _ _ _ hGg110 trivial)
          exact (oz1408 c5 c6 w100 w103 w106 w109 kn0 kn4).elim
        exact (oz1524 r7.1 r7.2 w21 w34 w47 w60 w73 w8 w86 w99).elim
      ·
        have c112 : (4 : Int32).toInt ≤ x2.toInt := kd_ltF c; clear c
        refine ft_goS mi_k12 1 23 [.int 0] (by rfl) ?_
        exact ft_ret mi_k12 (by rfl) (hP 0 _ _ _ _ hJ1 trivial)
  ·
    subst eg2
    first | refine ft_goS mi_k12 2 23 [.int 0] (by rfl) ?_
    exact ft_ret mi_k12 (by rfl) (hP 0 _ _ _ _ hJ1 trivial)
noncomputable def w111_0 : kW := ([6019], [96], [], [])
set_option maxRecDepth 100000 in
theorem kc111_0 {i : Nat → Int32} {a : Nat → List Int32} {q : Nat → List Int64} {r : Nat → Nat} (hI : kI i a q) (hr : kr r) (x1 : Int32) (x2 : Int32) (x3 : Int32) : km 21 111 [.ref 0, .int x1, .int x2, .int x3] (ks i a q r) (kVI w111_0 i a q r (fun v i1 a1 q1 r1 => True)) := by
  have hG := kG_self w111_0 hI hr
  refine km_ofI (q := (mi_h111, mi_c111)) rfl (by decide) (Nat.le_of_ble_eq_true rfl) ?_
  intro P hP
  refine fo_goL mi_k111 fz111_0_5_7 [(0, .ref 0), (1, .int x1), (2, .int x2), (3, .int x3)] [.int x3, .int x2, .int x1, .ref 94] rfl ?_
  refine ko_callI mi_k111.1 (pc := 7) (ls := [(0, .ref 0), (1, .int x1), (2, .int x2), (3, .int x3)]) (st := [.int x3, .int x2, .int x1, .ref 94]) (h := ks i a q r) (i := (.invokevirtual 292, 3, 12, 0, 9, 0, 295)) (mi_k111.2 _ _ (by rfl)) (ft_invS mi_pq12 (by rfl)) (cy := mi_c12) mi_pq12 rfl (kc12_94 hG.I hG.R x1 x2 x3) (by decide) ?_
  intro vg1 ig1 ag1 qg1 rg1 kg1 hg1
  have hGg1 := kG_call hG kg1 (by decide +kernel)
  exact ft_ret mi_k111 (by rfl) (hP vg1 _ _ _ _ hGg1 trivial)
noncomputable def w209_116 : kW := ([7457], [135], [], [])
set_option maxRecDepth 100000 in
theorem kc209_116 {i : Nat → Int32} {a : Nat → List Int32} {q : Nat → List Int64} {r : Nat → Nat} (hI : kI i a q) (hr : kr r) (x1 : Int32) (hp0 : ((0 : Int) ≤ (i 7457).toInt) ∧ ((i 7457).toInt ≤ 999)) : km 1 209 [.ref 116, .int x1] (ks i a q r) (kVN w209_116 i a q r (fun i1 a1 q1 r1 => (i1 7457).toInt = ((i 7457).toInt + 1))) := by
  have hG := kG_self w209_116 hI hr
  refine km_ofN (q := (mi_h209, mi_c209)) rfl (by decide) (Nat.le_of_ble_eq_true rfl) ?_
  intro P hP
  have fi_7457 : ((0 : Int) ≤ (i 7457).toInt) ∧ ((i 7457).toInt ≤ 1000) := hG.I.1 7457
  refine ft_goL mi_k209 3 6 [(0, .ref 116), (1, .int x1)] [.int 24, .int (i 7457)] (by rfl) ?_
  refine ft_ifS mi_k209 (decide (24 ≤ (i 7457))) 19 9 [] (by rfl) (fun c => ?_) (fun c => ?_)
  ·
    have c1 : (24 : Int32).toInt ≤ (i 7457).toInt := kd_le c; clear c
    have s2 : ((i 7457) + 1).toInt = (i 7457).toInt + (1 : Int32).toInt := kd_add (oz1332 c1 kn24 kn1) (oz951 fi_7457.2 kn1)
    have hJ3 := kG_i hG 7457 rfl (v := ((i 7457) + 1)) ⟨(oz1333 c1 s2 kn24 kn1), (oz1526 hp0.2 s2 kn1)⟩
    first | refine fo_goI mi_k209 fz209_19_6_29 [] (ku i 7457 ((i 7457) + 1)) (by rfl) ?_ | refine ft_go mi_k209 6 29 [(0, .ref 116), (1, .int x1)] [] (ku i 7457 ((i 7457) + 1)) a q r (by rfl) ?_
    exact ft_ret mi_k209 (by rfl) (hP  _ _ _ _ hJ3 (oz748 s2 kn1))
  ·
    have c4 : (i 7457).toInt < (24 : Int32).toInt := kd_leF c; clear c
    refine fo_goS mi_k209 fz209_9_5_18 [.int x1, .int (i 7457), .ref 135] rfl ?_
    refine ko_iast3 mi_k209.1 (n := 24) (c := 24) (ax := (0, 0, 0, 0, 0)) (mi_k209.2 _ _ (by rfl)) (by rfl) (ksG135 _ _ _ _) (ksA135 _ _ _ _) (hG.I.2.1 135) rfl (oz3 fi_7457.1) (oz1343 c4 kn24) ?_
    intro a5 ea5 fa5
    have hJ5 := kG_a3 hG 135 rfl ea5 fa5 (kd_bd _)
    have s6 : ((i 7457) + 1).toInt = (i 7457).toInt + (1 : Int32).toInt := kd_add (oz12 fi_7457.1 kn1) (oz951 fi_7457.2 kn1)
    have hJ7 := kG_i hJ5 7457 rfl (v := ((i 7457) + 1)) ⟨(oz14 fi_7457.1 s6 kn1), (oz1526 hp0.2 s6 kn1)⟩
    first | refine fo_goI mi_k209 fz209_19_6_29 [] (ku i 7457 ((i 7457) + 1)) (by rfl) ?_ | refine ft_go mi_k209 6 29 [(0, .ref 116), (1, .int x1)] [] (ku i 7457 ((i 7457) + 1)) a5 q r (by rfl) ?_
    exact ft_ret mi_k209 (by rfl) (hP  _ _ _ _ hJ7 (oz748 s6 kn1))
noncomputable def w210_116_l10_K0 : kW := ([7457], [135], [], [])
set_option maxRecDepth 100000 in
theorem kc210_116_l10_K0 {i : Nat → Int32} {a : Nat → List Int32} {q : Nat → List Int64} {r : Nat → Nat} (hI : kI i a q) (hr : kr r) (x1 : Int32) (x3 : Int32) (hp0 : ((0 : Int) ≤ x1.toInt) ∧ (x1.toInt ≤ 49)) (hp1 : ((a 134).getD x1.toNatClampNeg 0).toInt = 0) (hp2 : ((0 : Int) ≤ (i 7457).toInt) ∧ (((i 7457).toInt + 1) ≤ 900)) : km 3 210 [.ref 116, .int x1, .int 0, .int x3] (ks i a q r) (kVI w210_116_l10_K0 i a q r (fun v i1 a1 q1 r1 => (i1 7457).toInt = ((i 7457).toInt + 1))) := by
  have hG := kG_self w210_116_l10_K0 hI hr
  refine km_ofI (q := (mi_h210, mi_c210)) rfl (by decide) (Nat.le_of_ble_eq_true rfl) ?_
  intro P hP
  have r1 : ((0 : Int) ≤ ((a 134).getD x1.toNatClampNeg 0).toInt) ∧ (((a 134).getD x1.toNatClampNeg 0).toInt ≤ 7) := hG.I.2.2.1 134 (x1.toNatClampNeg)
  have fi_7457 : ((0 : Int) ≤ (i 7457).toInt) ∧ ((i 7457).toInt ≤ 1000) := hG.I.1 7457
  refine ft_goL mi_k210 4 38 [(0, .ref 116), (1, .int x1), (2, .int 0), (3, .int x3)] [.int 1, .ref 116] (by rfl) ?_
  refine ko_callN mi_k210.1 (pc := 38) (ls := [(0, .ref 116), (1, .int x1), (2, .int 0), (3, .int x3)]) (st := [.int 1, .ref 116]) (h := ks i a q r) (i := (.invokevirtual 351, 3, 209, 0, 9, 0, 464)) (mi_k210.2 _ _ (by rfl)) (ft_invS mi_pq209 (by rfl)) (cy := mi_c209) mi_pq209 rfl (kc209_116 hG.I hG.R 1 (oz1529 fi_7457.1 hp2.2)) (by decide) ?_
  intro ig2 ag2 qg2 rg2 kg2 hg2
  have hGg2 := kG_call hG kg2 (by decide +kernel)
  have z3 : (ig2 7457).toInt = ((i 7457).toInt + 1) := hg2
  have b4 : ((-2147483648 : Int) ≤ x3.toInt) ∧ (x3.toInt ≤ 2147483647) := kd_bd x3
  have b5 : ((-2147483648 : Int) ≤ x1.toInt) ∧ (x1.toInt ≤ 2147483647) := kd_bd x1
  refine fo_goS mi_k210 fz210_41_3_44 [.int (x3 + x1)] rfl ?_
  exact ft_ret mi_k210 (by rfl) (hP (x3 + x1) _ _ _ _ hGg2 (oz1355 z3))
noncomputable def w211_116_l10_K0 : kW := ([7457], [135], [], [])
set_option maxRecDepth 100000 in
theorem kc211_116_l10_K0 {i : Nat → Int32} {a : Nat → List Int32} {q : Nat → List Int64} {r : Nat → Nat} (hI : kI i a q) (hr : kr r) (x1 : Int32) (x3 : Int32) (hp0 : ((0 : Int) ≤ x1.toInt) ∧ (x1.toInt ≤ 49)) (hp1 : ((a 134).getD x1.toNatClampNeg 0).toInt = 0) (hp2 : ((0 : Int) ≤ (i 7457).toInt) ∧ (((i 7457).toInt + 2) ≤ 900)) : km 5 211 [.ref 116, .int x1, .int 0, .int x3] (ks i a q r) (kVI w211_116_l10_K0 i a q r (fun v i1 a1 q1 r1 => (i1 7457).toInt = ((i 7457).toInt + 2))) := by
  have hG := kG_self w211_116_l10_K0 hI hr
  refine km_ofI (q := (mi_h211, mi_c211)) rfl (by decide) (Nat.le_of_ble_eq_true rfl) ?_
  intro P hP
  have r1 : ((0 : Int) ≤ ((a 134).getD x1.toNatClampNeg 0).toInt) ∧ (((a 134).getD x1.toNatClampNeg 0).toInt ≤ 7) := hG.I.2.2.1 134 (x1.toNatClampNeg)
  have fi_7457 : ((0 : Int) ≤ (i 7457).toInt) ∧ ((i 7457).toInt ≤ 1000) := hG.I.1 7457
  refine ft_goL mi_k211 4 51 [(0, .ref 116), (1, .int x1), (2, .int 0), (3, .int x3)] [.int 10, .ref 116] (by rfl) ?_
  refine ko_callN mi_k211.1 (pc := 51) (ls := [(0, .ref 116), (1, .int x1), (2, .int 0), (3, .int x3)]) (st := [.int 10, .ref 116]) (h := ks i a q r) (i := (.invokevirtual 351, 3, 209, 0, 9, 0, 464)) (mi_k211.2 _ _ (by rfl)) (ft_invS mi_pq209 (by rfl)) (cy := mi_c209) mi_pq209 rfl (kc209_116 hG.I hG.R 10 (oz1528 fi_7457.1 hp2.2)) (by decide) ?_
  intro ig2 ag2 qg2 rg2 kg2 hg2
  have hGg2 := kG_call hG kg2 (by decide +kernel)
  have fig2_7457 : ((0 : Int) ≤ (ig2 7457).toInt) ∧ ((ig2 7457).toInt ≤ 1000) := hGg2.I.1 7457
  have z3 : (ig2 7457).toInt = ((i 7457).toInt + 1) := hg2
  refine fo_goS mi_k211 fz211_54_5_61 [.int x1, .ref 134, .int x1, .ref 116] rfl ?_
  refine ko_iald3 mi_k211.1 (n := 50) (c := 50) (ax := (0, 0, 0, 0, 0)) (mi_k211.2 _ _ (by rfl)) (by rfl) (ksG134 _ _ _ _) (hGg2.I.2.1 134) rfl (oz3 hp0.1) (oz1336 hp0.2) ?_
  have r4 : ((0 : Int) ≤ ((ag2 134).getD x1.toNatClampNeg 0).toInt) ∧ (((ag2 134).getD x1.toNatClampNeg 0).toInt ≤ 7) := hGg2.I.2.2.1 134 (x1.toNatClampNeg)
  have u5 : ((ag2 134).getD x1.toNatClampNeg 0).toInt = ((a 134).getD x1.toNatClampNeg 0).toInt := congrArg (fun z : List Int32 => (z.getD x1.toNatClampNeg 0).toInt) (kg2.fa 134 rfl)
  refine ko_top (kj_eq (oz1344 hp1 r4.1 u5) (by decide) : ((ag2 134).getD x1.toNatClampNeg 0) = 0) ?_
  refine fo_goS mi_k211 fz211_62_1_63 [.int x3, .int 0, .int x1, .ref 116] rfl ?_
  refine ko_callI mi_k211.1 (pc := 63) (ls := [(0, .ref 116), (1, .int x1), (2, .int 0), (3, .int x3)]) (st := [.int x3, .int 0, .int x1, .ref 116]) (h := ks ig2 ag2 qg2 rg2) (i := (.invokevirtual 354, 3, 210, 0, 9, 0, 463)) (mi_k211.2 _ _ (by rfl)) (ft_invS mi_pq210 (by rfl)) (cy := mi_c210) mi_pq210 rfl (kc210_116_l10_K0 hGg2.I hGg2.R x1 x3 (oz1339 hp0.1 hp0.2) (oz1344 hp1 r4.1 u5) (oz1530 fig2_7457.1 hp2.2 z3)) (by decide) ?_
  intro vg6 ig6 ag6 qg6 rg6 kg6 hg6
  have hGg6 := kG_call hGg2 kg6 (by decide +kernel)
  have z7 : (ig6 7457).toInt = ((ig2 7457).toInt + 1) := hg6
  have b8 : ((-2147483648 : Int) ≤ vg6.toInt) ∧ (vg6.toInt ≤ 2147483647) := kd_bd vg6
  refine fo_goS mi_k211 fz211_66_2_68 [.int (vg6 * 2)] rfl ?_
  exact ft_ret mi_k211 (by rfl) (hP (vg6 * 2) _ _ _ _ hGg6 (oz1531 z3 z7))
noncomputable def w212_116_l10_K0 : kW := ([7457], [135], [], [])
set_option maxRecDepth 100000 in
theorem kc212_116_l10_K0 {i : Nat → Int32} {a : Nat → List Int32} {q : Nat → List Int64} {r : Nat → Nat} (hI : kI i a q) (hr : kr r) (x1 : Int32) (x3 : Int32) (hp0 : ((0 : Int) ≤ x1.toInt) ∧ (x1.toInt ≤ 49)) (hp1 : ((a 134).getD x1.toNatClampNeg 0).toInt = 0) (hp2 : ((0 : Int) ≤ (i 7457).toInt) ∧ (((i 7457).toInt + 1) ≤ 900)) : km 3 212 [.ref 116, .int x1, .int 0, .int x3] (ks i a q r) (kVI w212_116_l10_K0 i a q r (fun v i1 a1 q1 r1 => (i1 7457).toInt = ((i 7457).toInt + 1))) := by
  have hG := kG_self w212_116_l10_K0 hI hr
  refine km_ofI (q := (mi_h212, mi_c212)) rfl (by decide) (Nat.le_of_ble_eq_true rfl) ?_
  intro P hP
  have r1 : ((0 : Int) ≤ ((a 134).getD x1.toNatClampNeg 0).toInt) ∧ (((a 134).getD x1.toNatClampNeg 0).toInt ≤ 7) := hG.I.2.2.1 134 (x1.toNatClampNeg)
  have fi_7457 : ((0 : Int) ≤ (i 7457).toInt) ∧ ((i 7457).toInt ≤ 1000) := hG.I.1 7457
  refine ft_goL mi_k212 4 39 [(0, .ref 116), (1, .int x1), (2, .int 0), (3, .int x3)] [.int 11, .ref 116] (by rfl) ?_
  refine ko_callN mi_k212.1 (pc := 39) (ls := [(0, .ref 116), (1, .int x1), (2, .int 0), (3, .int x3)]) (st := [.int 11, .ref 116]) (h := ks i a q r) (i := (.invokevirtual 351, 3, 209, 0, 9, 0, 464)) (mi_k212.2 _ _ (by rfl)) (ft_invS mi_pq209 (by rfl)) (cy := mi_c209) mi_pq209 rfl (kc209_116 hG.I hG.R 11 (oz1529 fi_7457.1 hp2.2)) (by decide) ?_
  intro ig2 ag2 qg2 rg2 kg2 hg2
  have hGg2 := kG_call hG kg2 (by decide +kernel)
  have z3 : (ig2 7457).toInt = ((i 7457).toInt + 1) := hg2
  refine fo_goS mi_k212 fz212_42_3_45 [.int (x3 ^^^ x1)] rfl ?_
  exact ft_ret mi_k212 (by rfl) (hP (x3 ^^^ x1) _ _ _ _ hGg2 (oz1355 z3))
noncomputable def w213_116_l10_K0 : kW := ([7457], [135], [], [])
set_option maxRecDepth 100000 in
theorem kc213_116_l10_K0 {i : Nat → Int32} {a : Nat → List Int32} {q : Nat → List Int64} {r : Nat → Nat} (hI : kI i a q) (hr : kr r) (x1 : Int32) (x3 : Int32) (hp0 : ((0 : Int) ≤ x1.toInt) ∧ (x1.toInt ≤ 49)) (hp1 : ((a 134).getD x1.toNatClampNeg 0).toInt = 0) (hp2 : ((0 : Int) ≤ (i 7457).toInt) ∧ (((i 7457).toInt + 4) ≤ 900)) : km 7 213 [.ref 116, .int x1, .int 0, .int x3] (ks i a q r) (kVI w213_116_l10_K0 i a q r (fun v i1 a1 q1 r1 => (i1 7457).toInt = ((i 7457).toInt + 4))) := by
  have hG := kG_self w213_116_l10_K0 hI hr
  refine km_ofI (q := (mi_h213, mi_c213)) rfl (by decide) (Nat.le_of_ble_eq_true rfl) ?_
  intro P hP
  have r1 : ((0 : Int) ≤ ((a 134).getD x1.toNatClampNeg 0).toInt) ∧ (((a 134).getD x1.toNatClampNeg 0).toInt ≤ 7) := hG.I.2.2.1 134 (x1.toNatClampNeg)
  have fi_7457 : ((0 : Int) ≤ (i 7457).toInt) ∧ ((i 7457).toInt ≤ 1000) := hG.I.1 7457
  refine ft_goL mi_k213 4 38 [(0, .ref 116), (1, .int x1), (2, .int 0), (3, .int x3)] [.int 2, .ref 116] (by rfl) ?_
  refine ko_callN mi_k213.1 (pc := 38) (ls := [(0, .ref 116), (1, .int x1), (2, .int 0), (3, .int x3)]) (st := [.int 2, .ref 116]) (h := ks i a q r) (i := (.invokevirtual 351, 3, 209, 0, 9, 0, 464)) (mi_k213.2 _ _ (by rfl)) (ft_invS mi_pq209 (by rfl)) (cy := mi_c209) mi_pq209 rfl (kc209_116 hG.I hG.R 2 (oz1527 fi_7457.1 hp2.2)) (by decide) ?_
  intro ig2 ag2 qg2 rg2 kg2 hg2
  have hGg2 := kG_call hG kg2 (by decide +kernel)
  have fig2_7457 : ((0 : Int) ≤ (ig2 7457).toInt) ∧ ((ig2 7457).toInt ≤ 1000) := hGg2.I.1 7457
  have z3 : (ig2 7457).toInt = ((i 7457).toInt + 1) := hg2
  refine fo_goS mi_k213 fz213_41_5_48 [.int x1, .ref 134, .int x1, .ref 116] rfl ?_
  refine ko_iald3 mi_k213.1 (n := 50) (c := 50) (ax := (0, 0, 0, 0, 0)) (mi_k213.2 _ _ (by rfl)) (by rfl) (ksG134 _ _ _ _) (hGg2.I.2.1 134) rfl (oz3 hp0.1) (oz1336 hp0.2) ?_
  have r4 : ((0 : Int) ≤ ((ag2 134).getD x1.toNatClampNeg 0).toInt) ∧ (((ag2 134).getD x1.toNatClampNeg 0).toInt ≤ 7) := hGg2.I.2.2.1 134 (x1.toNatClampNeg)
  have u5 : ((ag2 134).getD x1.toNatClampNeg 0).toInt = ((a 134).getD x1.toNatClampNeg 0).toInt := congrArg (fun z : List Int32 => (z.getD x1.toNatClampNeg 0).toInt) (kg2.fa 134 rfl)
  refine ko_top (kj_eq (oz1344 hp1 r4.1 u5) (by decide) : ((ag2 134).getD x1.toNatClampNeg 0) = 0) ?_
  refine fo_goS mi_k213 fz213_49_1_50 [.int x3, .int 0, .int x1, .ref 116] rfl ?_
  refine ko_callI mi_k213.1 (pc := 50) (ls := [(0, .ref 116), (1, .int x1), (2, .int 0), (3, .int x3)]) (st := [.int x3, .int 0, .int x1, .ref 116]) (h := ks ig2 ag2 qg2 rg2) (i := (.invokevirtual 360, 3, 211, 0, 9, 0, 466)) (mi_k213.2 _ _ (by rfl)) (ft_invS mi_pq211 (by rfl)) (cy := mi_c211) mi_pq211 rfl (kc211_116_l10_K0 hGg2.I hGg2.R x1 x3 (oz1339 hp0.1 hp0.2) (oz1344 hp1 r4.1 u5) (oz1532 fig2_7457.1 hp2.2 z3)) (by decide) ?_
  intro vg6 ig6 ag6 qg6 rg6 kg6 hg6
  have hGg6 := kG_call hGg2 kg6 (by decide +kernel)
  have fig6_7457 : ((0 : Int) ≤ (ig6 7457).toInt) ∧ ((ig6 7457).toInt ≤ 1000) := hGg6.I.1 7457
  have z7 : (ig6 7457).toInt = ((ig2 7457).toInt + 2) := hg6
  refine fo_goL mi_k213 fz213_53_7_64 [(4, .int vg6), (0, .ref 116), (1, .int x1), (2, .int 0), (3, .int x3)] [.int x1, .ref 134, .int x1, .ref 116, .int vg6] rfl ?_
  refine ko_iald3 mi_k213.1 (n := 50) (c := 50) (ax := (0, 0, 0, 0, 0)) (mi_k213.2 _ _ (by rfl)) (by rfl) (ksG134 _ _ _ _) (hGg6.I.2.1 134) rfl (oz3 hp0.1) (oz1336 hp0.2) ?_
  have r8 : ((0 : Int) ≤ ((ag6 134).getD x1.toNatClampNeg 0).toInt) ∧ (((ag6 134).getD x1.toNatClampNeg 0).toInt ≤ 7) := hGg6.I.2.2.1 134 (x1.toNatClampNeg)
  have u9 : ((ag6 134).getD x1.toNatClampNeg 0).toInt = ((ag2 134).getD x1.toNatClampNeg 0).toInt := congrArg (fun z : List Int32 => (z.getD x1.toNatClampNeg 0).toInt) (kg6.fa 134 rfl)
  refine ko_top (kj_eq (oz1533 hp1 r8.1 u5 u9) (by decide) : ((ag6 134).getD x1.toNatClampNeg 0) = 0) ?_
  refine fo_goS mi_k213 fz213_65_1_66 [.int 1, .int 0, .int x1, .ref 116, .int vg6] rfl ?_
  refine ko_callI mi_k213.1 (pc := 66) (ls := [(4, .int vg6), (0, .ref 116), (1, .int x1), (2, .int 0), (3, .int x3)]) (st := [.int 1, .int 0, .int x1, .ref 116, .int vg6]) (h := ks ig6 ag6 qg6 rg6) (i := (.invokevirtual 363, 3, 212, 0, 9, 0, 467)) (mi_k213.2 _ _ (by rfl)) (ft_invS mi_pq212 (by rfl)) (cy := mi_c212) mi_pq212 rfl (kc212_116_l10_K0 hGg6.I hGg6.R x1 1 (oz1339 hp0.1 hp0.2) (oz1533 hp1 r8.1 u5 u9) (oz1534 fig6_7457.1 hp2.2 z3 z7)) (by decide) ?_
  intro vg10 ig10 ag10 qg10 rg10 kg10 hg10
  have hGg10 := kG_call hGg6 kg10 (by decide +kernel)
  have z11 : (ig10 7457).toInt = ((ig6 7457).toInt + 1) := hg10
  have b12 : ((-2147483648 : Int) ≤ vg6.toInt) ∧ (vg6.toInt ≤ 2147483647) := kd_bd vg6
  have b13 : ((-2147483648 : Int) ≤ vg10.toInt) ∧ (vg10.toInt ≤ 2147483647) := kd_bd vg10
  refine fo_goS mi_k213 fz213_69_1_70 [.int (vg6 - vg10)] rfl ?_
  exact ft_ret mi_k213 (by rfl) (hP (vg6 - vg10) _ _ _ _ hGg10 (oz1535 z11 z3 z7))
set_option maxRecDepth 100000 in
theorem kc208_l01 {i : Nat → Int32} {a : Nat → List Int32} {q : Nat → List Int64} {r : Nat → Nat} (hI : kI i a q) (hr : kr r)  : km 1 208 [.int 1] (ks i a q r) (kPI (ks i a q r) (fun v => v.toInt = 0)) := by
  have hG := kG_self kW0 hI hr
  refine km_ofPI (q := (mi_h208, mi_c208)) rfl (by decide) (Nat.le_of_ble_eq_true rfl) ?_
  intro P hP
  refine ft_goL mi_k208 3 45 [(0, .int 1)] [.int 0] (by rfl) ?_
  exact ft_ret mi_k208 (by rfl) (hP 0 (oz236 kn0))
noncomputable def w210_116_l10_K1 : kW := ([7457], [135], [], [])
set_option maxRecDepth 100000 in
theorem kc210_116_l10_K1 {i : Nat → Int32} {a : Nat → List Int32} {q : Nat → List Int64} {r : Nat → Nat} (hI : kI i a q) (hr : kr r) (x1 : Int32) (x3 : Int32) (hp0 : ((0 : Int) ≤ x1.toInt) ∧ (x1.toInt ≤ 49)) (hp1 : ((a 134).getD x1.toNatClampNeg 0).toInt = 1) (hp2 : ((0 : Int) ≤ (i 7457).toInt) ∧ (((i 7457).toInt + 1) ≤ 900)) : km 3 210 [.ref 116, .int x1, .int 0, .int x3] (ks i a q r) (kVI w210_116_l10_K1 i a q r (fun v i1 a1 q1 r1 => (i1 7457).toInt = ((i 7457).toInt + 1))) := by
  have hG := kG_self w210_116_l10_K1 hI hr
  refine km_ofI (q := (mi_h210, mi_c210)) rfl (by decide) (Nat.le_of_ble_eq_true rfl) ?_
  intro P hP
  have r1 : ((0 : Int) ≤ ((a 134).getD x1.toNatClampNeg 0).toInt) ∧ (((a 134).getD x1.toNatClampNeg 0).toInt ≤ 7) := hG.I.2.2.1 134 (x1.toNatClampNeg)
  have fi_7457 : ((0 : Int) ≤ (i 7457).toInt) ∧ ((i 7457).toInt ≤ 1000) := hG.I.1 7457
  refine ft_goL mi_k210 4 38 [(0, .ref 116), (1, .int x1), (2, .int 0), (3, .int x3)] [.int 1, .ref 116] (by rfl) ?_
  refine ko_callN mi_k210.1 (pc := 38) (ls := [(0, .ref 116), (1, .int x1), (2, .int 0), (3, .int x3)]) (st := [.int 1, .ref 116]) (h := ks i a q r) (i := (.invokevirtual 351, 3, 209, 0, 9, 0, 464)) (mi_k210.2 _ _ (by rfl)) (ft_invS mi_pq209 (by rfl)) (cy := mi_c209) mi_pq209 rfl (kc209_116 hG.I hG.R 1 (oz1529 fi_7457.1 hp2.2)) (by decide) ?_
  intro ig2 ag2 qg2 rg2 kg2 hg2
  have hGg2 := kG_call hG kg2 (by decide +kernel)
  have z3 : (ig2 7457).toInt = ((i 7457).toInt + 1) := hg2
  have b4 : ((-2147483648 : Int) ≤ x3.toInt) ∧ (x3.toInt ≤ 2147483647) := kd_bd x3
  have b5 : ((-2147483648 : Int) ≤ x1.toInt) ∧ (x1.toInt ≤ 2147483647) := kd_bd x1
  refine fo_goS mi_k210 fz210_41_3_44 [.int (x3 + x1)] rfl ?_
  exact ft_ret mi_k210 (by rfl) (hP (x3 + x1) _ _ _ _ hGg2 (oz1355 z3))
noncomputable def w210_116_l11_K1 : kW := ([7457], [135], [], [])
set_option maxRecDepth 100000 in
theorem kc210_116_l11_K1 {i : Nat → Int32} {a : Nat → List Int32} {q : Nat → List Int64} {r : Nat → Nat} (hI : kI i a q) (hr : kr r) (x1 : Int32) (x3 : Int32) (hp0 : ((0 : Int) ≤ x1.toInt) ∧ (x1.toInt ≤ 49)) (hp1 : ((a 134).getD x1.toNatClampNeg 0).toInt = 1) (hp2 : ((0 : Int) ≤ (i 7457).toInt) ∧ (((i 7457).toInt + 2) ≤ 900)) : km 5 210 [.ref 116, .int x1, .int 1, .int x3] (ks i a q r) (kVI w210_116_l11_K1 i a q r (fun v i1 a1 q1 r1 => (i1 7457).toInt = ((i 7457).toInt + 2))) := by
  have hG := kG_self w210_116_l11_K1 hI hr
  refine km_ofI (q := (mi_h210, mi_c210)) rfl (by decide) (Nat.le_of_ble_eq_true rfl) ?_
  intro P hP
  have r1 : ((0 : Int) ≤ ((a 134).getD x1.toNatClampNeg 0).toInt) ∧ (((a 134).getD x1.toNatClampNeg 0).toInt ≤ 7) := hG.I.2.2.1 134 (x1.toNatClampNeg)
  have fi_7457 : ((0 : Int) ≤ (i 7457).toInt) ∧ ((i 7457).toInt ≤ 1000) := hG.I.1 7457
  refine ft_goL mi_k210 4 48 [(0, .ref 116), (1, .int x1), (2, .int 1), (3, .int x3)] [.int 20, .ref 116] (by rfl) ?_
  refine ko_callN mi_k210.1 (pc := 48) (ls := [(0, .ref 116), (1, .int x1), (2, .int 1), (3, .int x3)]) (st := [.int 20, .ref 116]) (h := ks i a q r) (i := (.invokevirtual 351, 3, 209, 0, 9, 0, 464)) (mi_k210.2 _ _ (by rfl)) (ft_invS mi_pq209 (by rfl)) (cy := mi_c209) mi_pq209 rfl (kc209_116 hG.I hG.R 20 (oz1528 fi_7457.1 hp2.2)) (by decide) ?_
  intro ig2 ag2 qg2 rg2 kg2 hg2
  have hGg2 := kG_call hG kg2 (by decide +kernel)
  have fig2_7457 : ((0 : Int) ≤ (ig2 7457).toInt) ∧ ((ig2 7457).toInt ≤ 1000) := hGg2.I.1 7457
  have z3 : (ig2 7457).toInt = ((i 7457).toInt + 1) := hg2
  refine fo_goS mi_k210 fz210_51_4_55 [.int x3, .int 0, .int x1, .ref 116] rfl ?_
  have r4 : ((0 : Int) ≤ ((ag2 134).getD x1.toNatClampNeg 0).toInt) ∧ (((ag2 134).getD x1.toNatClampNeg 0).toInt ≤ 7) := hGg2.I.2.2.1 134 (x1.toNatClampNeg)
  have u5 : ((ag2 134).getD x1.toNatClampNeg 0).toInt = ((a 134).getD x1.toNatClampNeg 0).toInt := congrArg (fun z : List Int32 => (z.getD x1.toNatClampNeg 0).toInt) (kg2.fa 134 rfl)
  refine ko_callI mi_k210.1 (pc := 55) (ls := [(0, .ref 116), (1, .int x1), (2, .int 1), (3, .int x3)]) (st := [.int x3, .int 0, .int x1, .ref 116]) (h := ks ig2 ag2 qg2 rg2) (i := (.invokevirtual 354, 3, 210, 0, 9, 0, 463)) (mi_k210.2 _ _ (by rfl)) (ft_invS mi_pq210 (by rfl)) (cy := mi_c210) mi_pq210 rfl (kc210_116_l10_K1 hGg2.I hGg2.R x1 x3 (oz1339 hp0.1 hp0.2) (oz1383 hp1 u5) (oz1530 fig2_7457.1 hp2.2 z3)) (by decide) ?_
  intro vg6 ig6 ag6 qg6 rg6 kg6 hg6
  have hGg6 := kG_call hGg2 kg6 (by decide +kernel)
  have z7 : (ig6 7457).toInt = ((ig2 7457).toInt + 1) := hg6
  have b8 : ((-2147483648 : Int) ≤ vg6.toInt) ∧ (vg6.toInt ≤ 2147483647) := kd_bd vg6
  refine fo_goS mi_k210 fz210_58_2_60 [.int (vg6 + 3)] rfl ?_
  exact ft_ret mi_k210 (by rfl) (hP (vg6 + 3) _ _ _ _ hGg6 (oz1531 z3 z7))
noncomputable def w211_116_l10_K1 : kW := ([7457], [135], [], [])
set_option maxRecDepth 100000 in
theorem kc211_116_l10_K1 {i : Nat → Int32} {a : Nat → List Int32} {q : Nat → List Int64} {r : Nat → Nat} (hI : kI i a q) (hr : kr r) (x1 : Int32) (x3 : Int32) (hp0 : ((0 : Int) ≤ x1.toInt) ∧ (x1.toInt ≤ 49)) (hp1 : ((a 134).getD x1.toNatClampNeg 0).toInt = 1) (hp2 : ((0 : Int) ≤ (i 7457).toInt) ∧ (((i 7457).toInt + 3) ≤ 900)) : km 7 211 [.ref 116, .int x1, .int 0, .int x3] (ks i a q r) (kVI w211_116_l10_K1 i a q r (fun v i1 a1 q1 r1 => (i1 7457).toInt = ((i 7457).toInt + 3))) := by
  have hG := kG_self w211_116_l10_K1 hI hr
  refine km_ofI (q := (mi_h211, mi_c211)) rfl (by decide) (Nat.le_of_ble_eq_true rfl) ?_
  intro P hP
  have r1 : ((0 : Int) ≤ ((a 134).getD x1.toNatClampNeg 0).toInt) ∧ (((a 134).getD x1.toNatClampNeg 0).toInt ≤ 7) := hG.I.2.2.1 134 (x1.toNatClampNeg)
  have fi_7457 : ((0 : Int) ≤ (i 7457).toInt) ∧ ((i 7457).toInt ≤ 1000) := hG.I.1 7457
  refine ft_goL mi_k211 4 51 [(0, .ref 116), (1, .int x1), (2, .int 0), (3, .int x3)] [.int 10, .ref 116] (by rfl) ?_
  refine ko_callN mi_k211.1 (pc := 51) (ls := [(0, .ref 116), (1, .int x1), (2, .int 0), (3, .int x3)]) (st := [.int 10, .ref 116]) (h := ks i a q r) (i := (.invokevirtual 351, 3, 209, 0, 9, 0, 464)) (mi_k211.2 _ _ (by rfl)) (ft_invS mi_pq209 (by rfl)) (cy := mi_c209) mi_pq209 rfl (kc209_116 hG.I hG.R 10 (oz1538 fi_7457.1 hp2.2)) (by decide) ?_
  intro ig2 ag2 qg2 rg2 kg2 hg2
  have hGg2 := kG_call hG kg2 (by decide +kernel)
  have fig2_7457 : ((0 : Int) ≤ (ig2 7457).toInt) ∧ ((ig2 7457).toInt ≤ 1000) := hGg2.I.1 7457
  have z3 : (ig2 7457).toInt = ((i 7457).toInt + 1) := hg2
  refine fo_goS mi_k211 fz211_54_5_61 [.int x1, .ref 134, .int x1, .ref 116] rfl ?_
  refine ko_iald3 mi_k211.1 (n := 50) (c := 50) (ax := (0, 0, 0, 0, 0)) (mi_k211.2 _ _ (by rfl)) (by rfl) (ksG134 _ _ _ _) (hGg2.I.2.1 134) rfl (oz3 hp0.1) (oz1336 hp0.2) ?_
  have r4 : ((0 : Int) ≤ ((ag2 134).getD x1.toNatClampNeg 0).toInt) ∧ (((ag2 134).getD x1.toNatClampNeg 0).toInt ≤ 7) := hGg2.I.2.2.1 134 (x1.toNatClampNeg)
  have u5 : ((ag2 134).getD x1.toNatClampNeg 0).toInt = ((a 134).getD x1.toNatClampNeg 0).toInt := congrArg (fun z : List Int32 => (z.getD x1.toNatClampNeg 0).toInt) (kg2.fa 134 rfl)
  refine ko_top (kj_eq (oz1383 hp1 u5) (by decide) : ((ag2 134).getD x1.toNatClampNeg 0) = 1) ?_
  refine fo_goS mi_k211 fz211_62_1_63 [.int x3, .int 1, .int x1, .ref 116] rfl ?_
  refine ko_callI mi_k211.1 (pc := 63) (ls := [(0, .ref 116), (1, .int x1), (2, .int 0), (3, .int x3)]) (st := [.int x3, .int 1, .int x1, .ref 116]) (h := ks ig2 ag2 qg2 rg2) (i := (.invokevirtual 354, 3, 210, 0, 9, 0, 463)) (mi_k211.2 _ _ (by rfl)) (ft_invS mi_pq210 (by rfl)) (cy := mi_c210) mi_pq210 rfl (kc210_116_l11_K1 hGg2.I hGg2.R x1 x3 (oz1339 hp0.1 hp0.2) (oz1383 hp1 u5) (oz1539 fig2_7457.1 hp2.2 z3)) (by decide) ?_
  intro vg6 ig6 ag6 qg6 rg6 kg6 hg6
  have hGg6 := kG_call hGg2 kg6 (by decide +kernel)
  have z7 : (ig6 7457).toInt = ((ig2 7457).toInt + 2) := hg6
  have b8 : ((-2147483648 : Int) ≤ vg6.toInt) ∧ (vg6.toInt ≤ 2147483647) := kd_bd vg6
  refine fo_goS mi_k211 fz211_66_2_68 [.int (vg6 * 2)] rfl ?_
  exact ft_ret mi_k211 (by rfl) (hP (vg6 * 2) _ _ _ _ hGg6 (oz1540 z3 z7))
noncomputable def w211_116_l11_K1 : kW := ([7457], [135], [], [])
set_option maxRecDepth 100000 in
theorem kc211_116_l11_K1 {i : Nat → Int32} {a : Nat → List Int32} {q : Nat → List Int64} {r : Nat → Nat} (hI : kI i a q) (hr : kr r) (x1 : Int32) (x3 : Int32) (hp0 : ((0 : Int) ≤ x1.toInt) ∧ (x1.toInt ≤ 49)) (hp1 : ((a 134).getD x1.toNatClampNeg 0).toInt = 1) (hp2 : ((0 : Int) ≤ (i 7457).toInt) ∧ (((i 7457).toInt + 3) ≤ 900)) : km 9 211 [.ref 116, .int x1, .int 1, .int x3] (ks i a q r) (kVI w211_116_l11_K1 i a q r (fun v i1 a1 q1 r1 => (i1 7457).toInt = ((i 7457).toInt + 3))) := by
  have hG := kG_self w211_116_l11_K1 hI hr
  refine km_ofI (q := (mi_h211, mi_c211)) rfl (by decide) (Nat.le_of_ble_eq_true rfl) ?_
  intro P hP
  have r1 : ((0 : Int) ≤ ((a 134).getD x1.toNatClampNeg 0).toInt) ∧ (((a 134).getD x1.toNatClampNeg 0).toInt ≤ 7) := hG.I.2.2.1 134 (x1.toNatClampNeg)
  have fi_7457 : ((0 : Int) ≤ (i 7457).toInt) ∧ ((i 7457).toInt ≤ 1000) := hG.I.1 7457
  refine ft_goL mi_k211 5 134 [(0, .ref 116), (1, .int x1), (2, .int 1), (3, .int x3)] [.int 1, .int x1, .ref 116] (by rfl) ?_
  refine ko_callPI mi_k211.1 (pc := 134) (ls := [(0, .ref 116), (1, .int x1), (2, .int 1), (3, .int x3)]) (st := [.int 1, .int x1, .ref 116]) (h := ks i a q r) (i := (.invokestatic 357, 3, 208, 0, 9, 0, 465)) (mi_k211.2 _ _ (by rfl)) (ft_invS mi_pq208 (by rfl)) (cy := mi_c208) mi_pq208 rfl (kc208_l01 hG.I hG.R ) (by decide) ?_
  intro vg2 hg2
  have z3 : vg2.toInt = 0 := hg2
  have evvg2 := kj_eq (oz236 z3) (by decide : (0 : Int32).toInt = 0)
  subst evvg2
  refine fo_goS mi_k211 fz211_137_1_138 [.int x3, .int 0, .int x1, .ref 116] rfl ?_
  refine ko_callI mi_k211.1 (pc := 138) (ls := [(0, .ref 116), (1, .int x1), (2, .int 1), (3, .int x3)]) (st := [.int x3, .int 0, .int x1, .ref 116]) (h := ks i a q r) (i := (.invokevirtual 360, 3, 211, 0, 9, 0, 466)) (mi_k211.2 _ _ (by rfl)) (ft_invS mi_pq211 (by rfl)) (cy := mi_c211) mi_pq211 rfl (kc211_116_l10_K1 hG.I hG.R x1 x3 (oz1339 hp0.1 hp0.2) (oz1381 hp1) (oz1541 fi_7457.1 hp2.2)) (by decide) ?_
  intro vg4 ig4 ag4 qg4 rg4 kg4 hg4
  have hGg4 := kG_call hG kg4 (by decide +kernel)
  have z5 : (ig4 7457).toInt = ((i 7457).toInt + 3) := hg4
  exact ft_ret mi_k211 (by rfl) (hP vg4 _ _ _ _ hGg4 (oz1542 z5))
noncomputable def w212_116_l10_K1 : kW := ([7457], [135], [], [])
set_option maxRecDepth 100000 in
theorem kc212_116_l10_K1 {i : Nat → Int32} {a : Nat → List Int32} {q : Nat → List Int64} {r : Nat → Nat} (hI : kI i a q) (hr : kr r) (x1 : Int32) (x3 : Int32) (hp0 : ((0 : Int) ≤ x1.toInt) ∧ (x1.toInt ≤ 49)) (hp1 : ((a 134).getD x1.toNatClampNeg 0).toInt = 1) (hp2 : ((0 : Int) ≤ (i 7457).toInt) ∧ (((i 7457).toInt + 1) ≤ 900)) : km 3 212 [.ref 116, .int x1, .int 0, .int x3] (ks i a q r) (kVI w212_116_l10_K1 i a q r (fun v i1 a1 q1 r1 => (i1 7457).toInt = ((i 7457).toInt + 1))) := by
  have hG := kG_self w212_116_l10_K1 hI hr
  refine km_ofI (q := (mi_h212, mi_c212)) rfl (by decide) (Nat.le_of_ble_eq_true rfl) ?_
  intro P hP
  have r1 : ((0 : Int) ≤ ((a 134).getD x1.toNatClampNeg 0).toInt) ∧ (((a 134).getD x1.toNatClampNeg 0).toInt ≤ 7) := hG.I.2.2.1 134 (x1.toNatClampNeg)
  have fi_7457 : ((0 : Int) ≤ (i 7457).toInt) ∧ ((i 7457).toInt ≤ 1000) := hG.I.1 7457
  refine ft_goL mi_k212 4 39 [(0, .ref 116), (1, .int x1), (2, .int 0), (3, .int x3)] [.int 11, .ref 116] (by rfl) ?_
  refine ko_callN mi_k212.1 (pc := 39) (ls := [(0, .ref 116), (1, .int x1), (2, .int 0), (3, .int x3)]) (st := [.int 11, .ref 116]) (h := ks i a q r) (i := (.invokevirtual 351, 3, 209, 0, 9, 0, 464)) (mi_k212.2 _ _ (by rfl)) (ft_invS mi_pq209 (by rfl)) (cy := mi_c209) mi_pq209 rfl (kc209_116 hG.I hG.R 11 (oz1529 fi_7457.1 hp2.2)) (by decide) ?_
  intro ig2 ag2 qg2 rg2 kg2 hg2
  have hGg2 := kG_call hG kg2 (by decide +kernel)
  have z3 : (ig2 7457).toInt = ((i 7457).toInt + 1) := hg2
  refine fo_goS mi_k212 fz212_42_3_45 [.int (x3 ^^^ x1)] rfl ?_
  exact ft_ret mi_k212 (by rfl) (hP (x3 ^^^ x1) _ _ _ _ hGg2 (oz1355 z3))
noncomputable def w212_116_l11_K1 : kW := ([7457], [135], [], [])
set_option maxRecDepth 100000 in
theorem kc212_116_l11_K1 {i : Nat → Int32} {a : Nat → List Int32} {q : Nat → List Int64} {r : Nat → Nat} (hI : kI i a q) (hr : kr r) (x1 : Int32) (x3 : Int32) (hp0 : ((0 : Int) ≤ x1.toInt) ∧ (x1.toInt ≤ 49)) (hp1 : ((a 134).getD x1.toNatClampNeg 0).toInt = 1) (hp2 : ((0 : Int) ≤ (i 7457).toInt) ∧ (((i 7457).toInt + 1) ≤ 900)) : km 5 212 [.ref 116, .int x1, .int 1, .int x3] (ks i a q r) (kVI w212_116_l11_K1 i a q r (fun v i1 a1 q1 r1 => (i1 7457).toInt = ((i 7457).toInt + 1))) := by
  have hG := kG_self w212_116_l11_K1 hI hr
  refine km_ofI (q := (mi_h212, mi_c212)) rfl (by decide) (Nat.le_of_ble_eq_true rfl) ?_
  intro P hP
  have r1 : ((0 : Int) ≤ ((a 134).getD x1.toNatClampNeg 0).toInt) ∧ (((a 134).getD x1.toNatClampNeg 0).toInt ≤ 7) := hG.I.2.2.1 134 (x1.toNatClampNeg)
  have fi_7457 : ((0 : Int) ≤ (i 7457).toInt) ∧ ((i 7457).toInt ≤ 1000) := hG.I.1 7457
  refine ft_goL mi_k212 5 96 [(0, .ref 116), (1, .int x1), (2, .int 1), (3, .int x3)] [.int 1, .int x1, .ref 116] (by rfl) ?_
  refine ko_callPI mi_k212.1 (pc := 96) (ls := [(0, .ref 116), (1, .int x1), (2, .int 1), (3, .int x3)]) (st := [.int 1, .int x1, .ref 116]) (h := ks i a q r) (i := (.invokestatic 357, 3, 208, 0, 9, 0, 465)) (mi_k212.2 _ _ (by rfl)) (ft_invS mi_pq208 (by rfl)) (cy := mi_c208) mi_pq208 rfl (kc208_l01 hG.I hG.R ) (by decide) ?_
  intro vg2 hg2
  have z3 : vg2.toInt = 0 := hg2
  have evvg2 := kj_eq (oz236 z3) (by decide : (0 : Int32).toInt = 0)
  subst evvg2
  refine fo_goS mi_k212 fz212_99_1_100 [.int x3, .int 0, .int x1, .ref 116] rfl ?_
  refine ko_callI mi_k212.1 (pc := 100) (ls := [(0, .ref 116), (1, .int x1), (2, .int 1), (3, .int x3)]) (st := [.int x3, .int 0, .int x1, .ref 116]) (h := ks i a q r) (i := (.invokevirtual 363, 3, 212, 0, 9, 0, 467)) (mi_k212.2 _ _ (by rfl)) (ft_invS mi_pq212 (by rfl)) (cy := mi_c212) mi_pq212 rfl (kc212_116_l10_K1 hG.I hG.R x1 x3 (oz1339 hp0.1 hp0.2) (oz1381 hp1) (oz1354 fi_7457.1 hp2.2)) (by decide) ?_
  intro vg4 ig4 ag4 qg4 rg4 kg4 hg4
  have hGg4 := kG_call hG kg4 (by decide +kernel)
  have z5 : (ig4 7457).toInt = ((i 7457).toInt + 1) := hg4
  exact ft_ret mi_k212 (by rfl) (hP vg4 _ _ _ _ hGg4 (oz1355 z5))
noncomputable def w213_116_l10_K1 : kW := ([7457], [135], [], [])
set_option maxRecDepth 100000 in
theorem kc213_116_l10_K1 {i : Nat → Int32} {a : Nat → List Int32} {q : Nat → List Int64} {r : Nat → Nat} (hI : kI i a q) (hr : kr r) (x1 : Int32) (x3 : Int32) (hp0 : ((0 : Int) ≤ x1.toInt) ∧ (x1.toInt ≤ 49)) (hp1 : ((a 134).getD x1.toNatClampNeg 0).toInt = 1) (hp2 : ((0 : Int) ≤ (i 7457).toInt) ∧ (((i 7457).toInt + 5) ≤ 900)) : km 11 213 [.ref 116, .int x1, .int 0, .int x3] (ks i a q r) (kVI w213_116_l10_K1 i a q r (fun v i1 a1 q1 r1 => (i1 7457).toInt = ((i 7457).toInt + 5))) := by
  have hG := kG_self w213_116_l10_K1 hI hr
  refine km_ofI (q := (mi_h213, mi_c213)) rfl (by decide) (Nat.le_of_ble_eq_true rfl) ?_
  intro P hP
  have r1 : ((0 : Int) ≤ ((a 134).getD x1.toNatClampNeg 0).toInt) ∧ (((a 134).getD x1.toNatClampNeg 0).toInt ≤ 7) := hG.I.2.2.1 134 (x1.toNatClampNeg)
  have fi_7457 : ((0 : Int) ≤ (i 7457).toInt) ∧ ((i 7457).toInt ≤ 1000) := hG.I.1 7457
  refine ft_goL mi_k213 4 38 [(0, .ref 116), (1, .int x1), (2, .int 0), (3, .int x3)] [.int 2, .ref 116] (by rfl) ?_
  refine ko_callN mi_k213.1 (pc := 38) (ls := [(0, .ref 116), (1, .int x1), (2, .int 0), (3, .int x3)]) (st := [.int 2, .ref 116]) (h := ks i a q r) (i := (.invokevirtual 351, 3, 209, 0, 9, 0, 464)) (mi_k213.2 _ _ (by rfl)) (ft_invS mi_pq209 (by rfl)) (cy := mi_c209) mi_pq209 rfl (kc209_116 hG.I hG.R 2 (oz1537 fi_7457.1 hp2.2)) (by decide) ?_
  intro ig2 ag2 qg2 rg2 kg2 hg2
  have hGg2 := kG_call hG kg2 (by decide +kernel)
  have fig2_7457 : ((0 : Int) ≤ (ig2 7457).toInt) ∧ ((ig2 7457).toInt ≤ 1000) := hGg2.I.1 7457
  have z3 : (ig2 7457).toInt = ((i 7457).toInt + 1) := hg2
  refine fo_goS mi_k213 fz213_41_5_48 [.int x1, .ref 134, .int x1, .ref 116] rfl ?_
  refine ko_iald3 mi_k213.1 (n := 50) (c := 50) (ax := (0, 0, 0, 0, 0)) (mi_k213.2 _ _ (by rfl)) (by rfl) (ksG134 _ _ _ _) (hGg2.I.2.1 134) rfl (oz3 hp0.1) (oz1336 hp0.2) ?_
  have r4 : ((0 : Int) ≤ ((ag2 134).getD x1.toNatClampNeg 0).toInt) ∧ (((ag2 134).getD x1.toNatClampNeg 0).toInt ≤ 7) := hGg2.I.2.2.1 134 (x1.toNatClampNeg)
  have u5 : ((ag2 134).getD x1.toNatClampNeg 0).toInt = ((a 134).getD x1.toNatClampNeg 0).toInt := congrArg (fun z : List Int32 => (z.getD x1.toNatClampNeg 0).toInt) (kg2.fa 134 rfl)
  refine ko_top (kj_eq (oz1383 hp1 u5) (by decide) : ((ag2 134).getD x1.toNatClampNeg 0) = 1) ?_
  refine fo_goS mi_k213 fz213_49_1_50 [.int x3, .int 1, .int x1, .ref 116] rfl ?_
  refine ko_callI mi_k213.1 (pc := 50) (ls := [(0, .ref 116), (1, .int x1), (2, .int 0), (3, .int x3)]) (st := [.int x3, .int 1, .int x1, .ref 116]) (h := ks ig2 ag2 qg2 rg2) (i := (.invokevirtual 360, 3, 211, 0, 9, 0, 466)) (mi_k213.2 _ _ (by rfl)) (ft_invS mi_pq211 (by rfl)) (cy := mi_c211) mi_pq211 rfl (kc211_116_l11_K1 hGg2.I hGg2.R x1 x3 (oz1339 hp0.1 hp0.2) (oz1383 hp1 u5) (oz1543 fig2_7457.1 hp2.2 z3)) (by decide) ?_
  intro vg6 ig6 ag6 qg6 rg6 kg6 hg6
  have hGg6 := kG_call hGg2 kg6 (by decide +kernel)
  have fig6_7457 : ((0 : Int) ≤ (ig6 7457).toInt) ∧ ((ig6 7457).toInt ≤ 1000) := hGg6.I.1 7457
  have z7 : (ig6 7457).toInt = ((ig2 7457).toInt + 3) := hg6
  refine fo_goL mi_k213 fz213_53_7_64 [(4, .int vg6), (0, .ref 116), (1, .int x1), (2, .int 0), (3, .int x3)] [.int x1, .ref 134, .int x1, .ref 116, .int vg6] rfl ?_
  refine ko_iald3 mi_k213.1 (n := 50) (c := 50) (ax := (0, 0, 0, 0, 0)) (mi_k213.2 _ _ (by rfl)) (by rfl) (ksG134 _ _ _ _) (hGg6.I.2.1 134) rfl (oz3 hp0.1) (oz1336 hp0.2) ?_
  have r8 : ((0 : Int) ≤ ((ag6 134).getD x1.toNatClampNeg 0).toInt) ∧ (((ag6 134).getD x1.toNatClampNeg 0).toInt ≤ 7) := hGg6.I.2.2.1 134 (x1.toNatClampNeg)
  have u9 : ((ag6 134).getD x1.toNatClampNeg 0).toInt = ((ag2 134).getD x1.toNatClampNeg 0).toInt := congrArg (fun z : List Int32 => (z.getD x1.toNatClampNeg 0).toInt) (kg6.fa 134 rfl)
  refine ko_top (kj_eq (oz1544 hp1 u5 u9) (by decide) : ((ag6 134).getD x1.toNatClampNeg 0) = 1) ?_
  refine fo_goS mi_k213 fz213_65_1_66 [.int 1, .int 1, .int x1, .ref 116, .int vg6] rfl ?_
  refine ko_callI mi_k213.1 (pc := 66) (ls := [(4, .int vg6), (0, .ref 116), (1, .int x1), (2, .int 0), (3, .int x3)]) (st := [.int 1, .int 1, .int x1, .ref 116, .int vg6]) (h := ks ig6 ag6 qg6 rg6) (i := (.invokevirtual 363, 3, 212, 0, 9, 0, 467)) (mi_k213.2 _ _ (by rfl)) (ft_invS mi_pq212 (by rfl)) (cy := mi_c212) mi_pq212 rfl (kc212_116_l11_K1 hGg6.I hGg6.R x1 1 (oz1339 hp0.1 hp0.2) (oz1544 hp1 u5 u9) (oz1545 fig6_7457.1 hp2.2 z3 z7)) (by decide) ?_
  intro vg10 ig10 ag10 qg10 rg10 kg10 hg10
  have hGg10 := kG_call hGg6 kg10 (by decide +kernel)
  have z11 : (ig10 7457).toInt = ((ig6 7457).toInt + 1) := hg10
  have b12 : ((-2147483648 : Int) ≤ vg6.toInt) ∧ (vg6.toInt ≤ 2147483647) := kd_bd vg6
  have b13 : ((-2147483648 : Int) ≤ vg10.toInt) ∧ (vg10.toInt ≤ 2147483647) := kd_bd vg10
  refine fo_goS mi_k213 fz213_69_1_70 [.int (vg6 - vg10)] rfl ?_
  exact ft_ret mi_k213 (by rfl) (hP (vg6 - vg10) _ _ _ _ hGg10 (oz1546 z11 z3 z7))
noncomputable def w213_116_l11_K1 : kW := ([7457], [135], [], [])
set_option maxRecDepth 100000 in
theorem kc213_116_l11_K1 {i : Nat → Int32} {a : Nat → List Int32} {q : Nat → List Int64} {r : Nat → Nat} (hI : kI i a q) (hr : kr r) (x1 : Int32) (x3 : Int32) (hp0 : ((0 : Int) ≤ x1.toInt) ∧ (x1.toInt ≤ 49)) (hp1 : ((a 134).getD x1.toNatClampNeg 0).toInt = 1) (hp2 : ((0 : Int) ≤ (i 7457).toInt) ∧ (((i 7457).toInt + 5) ≤ 900)) : km 13 213 [.ref 116, .int x1, .int 1, .int x3] (ks i a q r) (kVI w213_116_l11_K1 i a q r (fun v i1 a1 q1 r1 => (i1 7457).toInt = ((i 7457).toInt + 5))) := by
  have hG := kG_self w213_116_l11_K1 hI hr
  refine km_ofI (q := (mi_h213, mi_c213)) rfl (by decide) (Nat.le_of_ble_eq_true rfl) ?_
  intro P hP
  have r1 : ((0 : Int) ≤ ((a 134).getD x1.toNatClampNeg 0).toInt) ∧ (((a 134).getD x1.toNatClampNeg 0).toInt ≤ 7) := hG.I.2.2.1 134 (x1.toNatClampNeg)
  have fi_7457 : ((0 : Int) ≤ (i 7457).toInt) ∧ ((i 7457).toInt ≤ 1000) := hG.I.1 7457
  refine ft_goL mi_k213 5 106 [(0, .ref 116), (1, .int x1), (2, .int 1), (3, .int x3)] [.int 1, .int x1, .ref 116] (by rfl) ?_
  refine ko_callPI mi_k213.1 (pc := 106) (ls := [(0, .ref 116), (1, .int x1), (2, .int 1), (3, .int x3)]) (st := [.int 1, .int x1, .ref 116]) (h := ks i a q r) (i := (.invokestatic 357, 3, 208, 0, 9, 0, 465)) (mi_k213.2 _ _ (by rfl)) (ft_invS mi_pq208 (by rfl)) (cy := mi_c208) mi_pq208 rfl (kc208_l01 hG.I hG.R ) (by decide) ?_
  intro vg2 hg2
  have z3 : vg2.toInt = 0 := hg2
  have evvg2 := kj_eq (oz236 z3) (by decide : (0 : Int32).toInt = 0)
  subst evvg2
  refine fo_goS mi_k213 fz213_109_1_110 [.int x3, .int 0, .int x1, .ref 116] rfl ?_
  refine ko_callI mi_k213.1 (pc := 110) (ls := [(0, .ref 116), (1, .int x1), (2, .int 1), (3, .int x3)]) (st := [.int x3, .int 0, .int x1, .ref 116]) (h := ks i a q r) (i := (.invokevirtual 366, 3, 213, 0, 9, 0, 468)) (mi_k213.2 _ _ (by rfl)) (ft_invS mi_pq213 (by rfl)) (cy := mi_c213) mi_pq213 rfl (kc213_116_l10_K1 hG.I hG.R x1 x3 (oz1339 hp0.1 hp0.2) (oz1381 hp1) (oz1547 fi_7457.1 hp2.2)) (by decide) ?_
  intro vg4 ig4 ag4 qg4 rg4 kg4 hg4
  have hGg4 := kG_call hG kg4 (by decide +kernel)
  have z5 : (ig4 7457).toInt = ((i 7457).toInt + 5) := hg4
  exact ft_ret mi_k213 (by rfl) (hP vg4 _ _ _ _ hGg4 (oz1548 z5))
set_option maxRecDepth 100000 in
theorem kc208_l02 {i : Nat → Int32} {a : Nat → List Int32} {q : Nat → List Int64} {r : Nat → Nat} (hI : kI i a q) (hr : kr r)  : km 1 208 [.int 2] (ks i a q r) (kPI (ks i a q r) (fun v => v.toInt = 0)) := by
  have hG := kG_self kW0 hI hr
  refine km_ofPI (q := (mi_h208, mi_c208)) rfl (by decide) (Nat.le_of_ble_eq_true rfl) ?_
  intro P hP
  refine ft_goL mi_k208 3 45 [(0, .int 2)] [.int 0] (by rfl) ?_
  exact ft_ret mi_k208 (by rfl) (hP 0 (oz236 kn0))
noncomputable def w210_116_l10_K2 : kW := ([7457], [135], [], [])
set_option maxRecDepth 100000 in
theorem kc210_116_l10_K2 {i : Nat → Int32} {a : Nat → List Int32} {q : Nat → List Int64} {r : Nat → Nat} (hI : kI i a q) (hr : kr r) (x1 : Int32) (x3 : Int32) (hp0 : ((0 : Int) ≤ x1.toInt) ∧ (x1.toInt ≤ 49)) (hp1 : ((a 134).getD x1.toNatClampNeg 0).toInt = 2) (hp2 : ((0 : Int) ≤ (i 7457).toInt) ∧ (((i 7457).toInt + 1) ≤ 900)) : km 3 210 [.ref 116, .int x1, .int 0, .int x3] (ks i a q r) (kVI w210_116_l10_K2 i a q r (fun v i1 a1 q1 r1 => (i1 7457).toInt = ((i 7457).toInt + 1))) := by
  have hG := kG_self w210_116_l10_K2 hI hr
  refine km_ofI (q := (mi_h210, mi_c210)) rfl (by decide) (Nat.le_of_ble_eq_true rfl) ?_
  intro P hP
  have r1 : ((0 : Int) ≤ ((a 134).getD x1.toNatClampNeg 0).toInt) ∧ (((a 134).getD x1.toNatClampNeg 0).toInt ≤ 7) := hG.I.2.2.1 134 (x1.toNatClampNeg)
  have fi_7457 : ((0 : Int) ≤ (i 7457).toInt) ∧ ((i 7457).toInt ≤ 1000) := hG.I.1 7457
  refine ft_goL mi_k210 4 38 [(0, .ref 116), (1, .int x1), (2, .int 0), (3, .int x3)] [.int 1, .ref 116] (by rfl) ?_
  refine ko_callN mi_k210.1 (pc := 38) (ls := [(0, .ref 116), (1, .int x1), (2, .int 0), (3, .int x3)]) (st := [.int 1, .ref 116]) (h := ks i a q r) (i := (.invokevirtual 351, 3, 209, 0, 9, 0, 464)) (mi_k210.2 _ _ (by rfl)) (ft_invS mi_pq209 (by rfl)) (cy := mi_c209) mi_pq209 rfl (kc209_116 hG.I hG.R 1 (oz1529 fi_7457.1 hp2.2)) (by decide) ?_
  intro ig2 ag2 qg2 rg2 kg2 hg2
  have hGg2 := kG_call hG kg2 (by decide +kernel)
  have z3 : (ig2 7457).toInt = ((i 7457).toInt + 1) := hg2
  have b4 : ((-2147483648 : Int) ≤ x3.toInt) ∧ (x3.toInt ≤ 2147483647) := kd_bd x3
  have b5 : ((-2147483648 : Int) ≤ x1.toInt) ∧ (x1.toInt ≤ 2147483647) := kd_bd x1
  refine fo_goS mi_k210 fz210_41_3_44 [.int (x3 + x1)] rfl ?_
  exact ft_ret mi_k210 (by rfl) (hP (x3 + x1) _ _ _ _ hGg2 (oz1355 z3))
noncomputable def w210_116_l12_K2 : kW := ([7457], [135], [], [])
set_option maxRecDepth 100000 in
theorem kc210_116_l12_K2 {i : Nat → Int32} {a : Nat → List Int32} {q : Nat → List Int64} {r : Nat → Nat} (hI : kI i a q) (hr : kr r) (x1 : Int32) (x3 : Int32) (hp0 : ((0 : Int) ≤ x1.toInt) ∧ (x1.toInt ≤ 49)) (hp1 : ((a 134).getD x1.toNatClampNeg 0).toInt = 2) (hp2 : ((0 : Int) ≤ (i 7457).toInt) ∧ (((i 7457).toInt + 1) ≤ 900)) : km 5 210 [.ref 116, .int x1, .int 2, .int x3] (ks i a q r) (kVI w210_116_l12_K2 i a q r (fun v i1 a1 q1 r1 => (i1 7457).toInt = ((i 7457).toInt + 1))) := by
  have hG := kG_self w210_116_l12_K2 hI hr
  refine km_ofI (q := (mi_h210, mi_c210)) rfl (by decide) (Nat.le_of_ble_eq_true rfl) ?_
  intro P hP
  have r1 : ((0 : Int) ≤ ((a 134).getD x1.toNatClampNeg 0).toInt) ∧ (((a 134).getD x1.toNatClampNeg 0).toInt ≤ 7) := hG.I.2.2.1 134 (x1.toNatClampNeg)
  have fi_7457 : ((0 : Int) ≤ (i 7457).toInt) ∧ ((i 7457).toInt ≤ 1000) := hG.I.1 7457
  refine ft_goL mi_k210 5 80 [(0, .ref 116), (1, .int x1), (2, .int 2), (3, .int x3)] [.int 2, .int x1, .ref 116] (by rfl) ?_
  refine ko_callPI mi_k210.1 (pc := 80) (ls := [(0, .ref 116), (1, .int x1), (2, .int 2), (3, .int x3)]) (st := [.int 2, .int x1, .ref 116]) (h := ks i a q r) (i := (.invokestatic 357, 3, 208, 0, 9, 0, 465)) (mi_k210.2 _ _ (by rfl)) (ft_invS mi_pq208 (by rfl)) (cy := mi_c208) mi_pq208 rfl (kc208_l02 hG.I hG.R ) (by decide) ?_
  intro vg2 hg2
  have z3 : vg2.toInt = 0 := hg2
  have evvg2 := kj_eq (oz236 z3) (by decide : (0 : Int32).toInt = 0)
  subst evvg2
  refine fo_goS mi_k210 fz210_83_1_84 [.int x3, .int 0, .int x1, .ref 116] rfl ?_
  refine ko_callI mi_k210.1 (pc := 84) (ls := [(0, .ref 116), (1, .int x1), (2, .int 2), (3, .int x3)]) (st := [.int x3, .int 0, .int x1, .ref 116]) (h := ks i a q r) (i := (.invokevirtual 354, 3, 210, 0, 9, 0, 463)) (mi_k210.2 _ _ (by rfl)) (ft_invS mi_pq210 (by rfl)) (cy := mi_c210) mi_pq210 rfl (kc210_116_l10_K2 hG.I hG.R x1 x3 (oz1339 hp0.1 hp0.2) (oz1411 hp1) (oz1354 fi_7457.1 hp2.2)) (by decide) ?_
  intro vg4 ig4 ag4 qg4 rg4 kg4 hg4
  have hGg4 := kG_call hG kg4 (by decide +kernel)
  have z5 : (ig4 7457).toInt = ((i 7457).toInt + 1) := hg4
  exact ft_ret mi_k210 (by rfl) (hP vg4 _ _ _ _ hGg4 (oz1355 z5))
noncomputable def w211_116_l10_K2 : kW := ([7457], [135], [], [])
set_option maxRecDepth 100000 in
theorem kc211_116_l10_K2 {i : Nat → Int32} {a : Nat → List Int32} {q : Nat → List Int64} {r : Nat → Nat} (hI : kI i a q) (hr : kr r) (x1 : Int32) (x3 : Int32) (hp0 : ((0 : Int) ≤ x1.toInt) ∧ (x1.toInt ≤ 49)) (hp1 : ((a 134).getD x1.toNatClampNeg 0).toInt = 2) (hp2 : ((0 : Int) ≤ (i 7457).toInt) ∧ (((i 7457).toInt + 2) ≤ 900)) : km 7 211 [.ref 116, .int x1, .int 0, .int x3] (ks i a q r) (kVI w211_116_l10_K2 i a q r (fun v i1 a1 q1 r1 => (i1 7457).toInt = ((i 7457).toInt + 2))) := by
  have hG := kG_self w211_116_l10_K2 hI hr
  refine km_ofI (q := (mi_h211, mi_c211)) rfl (by decide) (Nat.le_of_ble_eq_true rfl) ?_
  intro P hP
  have r1 : ((0 : Int) ≤ ((a 134).getD x1.toNatClampNeg 0).toInt) ∧ (((a 134).getD x1.toNatClampNeg 0).toInt ≤ 7) := hG.I.2.2.1 134 (x1.toNatClampNeg)
  have fi_7457 : ((0 : Int) ≤ (i 7457).toInt) ∧ ((i 7457).toInt ≤ 1000) := hG.I.1 7457
  refine ft_goL mi_k211 4 51 [(0, .ref 116), (1, .int x1), (2, .int 0), (3, .int x3)] [.int 10, .ref 116] (by rfl) ?_
  refine ko_callN mi_k211.1 (pc := 51) (ls := [(0, .ref 116), (1, .int x1), (2, .int 0), (3, .int x3)]) (st := [.int 10, .ref 116]) (h := ks i a q r) (i := (.invokevirtual 351, 3, 209, 0, 9, 0, 464)) (mi_k211.2 _ _ (by rfl)) (ft_invS mi_pq209 (by rfl)) (cy := mi_c209) mi_pq209 rfl (kc209_116 hG.I hG.R 10 (oz1528 fi_7457.1 hp2.2)) (by decide) ?_
  intro ig2 ag2 qg2 rg2 kg2 hg2
  have hGg2 := kG_call hG kg2 (by decide +kernel)
  have fig2_7457 : ((0 : Int) ≤ (ig2 7457).toInt) ∧ ((ig2 7457).toInt ≤ 1000) := hGg2.I.1 7457
  have z3 : (ig2 7457).toInt = ((i 7457).toInt + 1) := hg2
  refine fo_goS mi_k211 fz211_54_5_61 [.int x1, .ref 134, .int x1, .ref 116] rfl ?_
  refine ko_iald3 mi_k211.1 (n := 50) (c := 50) (ax := (0, 0, 0, 0, 0)) (mi_k211.2 _ _ (by rfl)) (by rfl) (ksG134 _ _ _ _) (hGg2.I.2.1 134) rfl (oz3 hp0.1) (oz1336 hp0.2) ?_
  have r4 : ((0 : Int) ≤ ((ag2 134).getD x1.toNatClampNeg 0).toInt) ∧ (((ag2 134).getD x1.toNatClampNeg 0).toInt ≤ 7) := hGg2.I.2.2.1 134 (x1.toNatClampNeg)
  have u5 : ((ag2 134).getD x1.toNatClampNeg 0).toInt = ((a 134).getD x1.toNatClampNeg 0).toInt := congrArg (fun z : List Int32 => (z.getD x1.toNatClampNeg 0).toInt) (kg2.fa 134 rfl)
  refine ko_top (kj_eq (oz1412 hp1 u5) (by decide) : ((ag2 134).getD x1.toNatClampNeg 0) = 2) ?_
  refine fo_goS mi_k211 fz211_62_1_63 [.int x3, .int 2, .int x1, .ref 116] rfl ?_
  refine ko_callI mi_k211.1 (pc := 63) (ls := [(0, .ref 116), (1, .int x1), (2, .int 0), (3, .int x3)]) (st := [.int x3, .int 2, .int x1, .ref 116]) (h := ks ig2 ag2 qg2 rg2) (i := (.invokevirtual 354, 3, 210, 0, 9, 0, 463)) (mi_k211.2 _ _ (by rfl)) (ft_invS mi_pq210 (by rfl)) (cy := mi_c210) mi_pq210 rfl (kc210_116_l12_K2 hGg2.I hGg2.R x1 x3 (oz1339 hp0.1 hp0.2) (oz1412 hp1 u5) (oz1530 fig2_7457.1 hp2.2 z3)) (by decide) ?_
  intro vg6 ig6 ag6 qg6 rg6 kg6 hg6
  have hGg6 := kG_call hGg2 kg6 (by decide +kernel)
  have z7 : (ig6 7457).toInt = ((ig2 7457).toInt + 1) := hg6
  have b8 : ((-2147483648 : Int) ≤ vg6.toInt) ∧ (vg6.toInt ≤ 2147483647) := kd_bd vg6
  refine fo_goS mi_k211 fz211_66_2_68 [.int (vg6 * 2)] rfl ?_
  exact ft_ret mi_k211 (by rfl) (hP (vg6 * 2) _ _ _ _ hGg6 (oz1531 z3 z7))
noncomputable def w211_116_l12_K2 : kW := ([7457], [135], [], [])
set_option maxRecDepth 100000 in
theorem kc211_116_l12_K2 {i : Nat → Int32} {a : Nat → List Int32} {q : Nat → List Int64} {r : Nat → Nat} (hI : kI i a q) (hr : kr r) (x1 : Int32) (x3 : Int32) (hp0 : ((0 : Int) ≤ x1.toInt) ∧ (x1.toInt ≤ 49)) (hp1 : ((a 134).getD x1.toNatClampNeg 0).toInt = 2) (hp2 : ((0 : Int) ≤ (i 7457).toInt) ∧ (((i 7457).toInt + 3) ≤ 900)) : km 9 211 [.ref 116, .int x1, .int 2, .int x3] (ks i a q r) (kVI w211_116_l12_K2 i a q r (fun v i1 a1 q1 r1 => (i1 7457).toInt = ((i 7457).toInt + 3))) := by
  have hG := kG_self w211_116_l12_K2 hI hr
  refine km_ofI (q := (mi_h211, mi_c211)) rfl (by decide) (Nat.le_of_ble_eq_true rfl) ?_
  intro P hP
  have r1 : ((0 : Int) ≤ ((a 134).getD x1.toNatClampNeg 0).toInt) ∧ (((a 134).getD x1.toNatClampNeg 0).toInt ≤ 7) := hG.I.2.2.1 134 (x1.toNatClampNeg)
  have fi_7457 : ((0 : Int) ≤ (i 7457).toInt) ∧ ((i 7457).toInt ≤ 1000) := hG.I.1 7457
  refine ft_goL mi_k211 4 72 [(0, .ref 116), (1, .int x1), (2, .int 2), (3, .int x3)] [.int 30, .ref 116] (by rfl) ?_
  refine ko_callN mi_k211.1 (pc := 72) (ls := [(0, .ref 116), (1, .int x1), (2, .int 2), (3, .int x3)]) (st := [.int 30, .ref 116]) (h := ks i a q r) (i := (.invokevirtual 351, 3, 209, 0, 9, 0, 464)) (mi_k211.2 _ _ (by rfl)) (ft_invS mi_pq209 (by rfl)) (cy := mi_c209) mi_pq209 rfl (kc209_116 hG.I hG.R 30 (oz1538 fi_7457.1 hp2.2)) (by decide) ?_
  intro ig2 ag2 qg2 rg2 kg2 hg2
  have hGg2 := kG_call hG kg2 (by decide +kernel)
  have fig2_7457 : ((0 : Int) ≤ (ig2 7457).toInt) ∧ ((ig2 7457).toInt ≤ 1000) := hGg2.I.1 7457
  have z3 : (ig2 7457).toInt = ((i 7457).toInt + 1) := hg2
  refine fo_goS mi_k211 fz211_75_4_79 [.int x3, .int 0, .int x1, .ref 116] rfl ?_
  have r4 : ((0 : Int) ≤ ((ag2 134).getD x1.toNatClampNeg 0).toInt) ∧ (((ag2 134).getD x1.toNatClampNeg 0).toInt ≤ 7) := hGg2.I.2.2.1 134 (x1.toNatClampNeg)
  have u5 : ((ag2 134).getD x1.toNatClampNeg 0).toInt = ((a 134).getD x1.toNatClampNeg 0).toInt := congrArg (fun z : List Int32 => (z.getD x1.toNatClampNeg 0).toInt) (kg2.fa 134 rfl)
  refine ko_callI mi_k211.1 (pc := 79) (ls := [(0, .ref 116), (1, .int x1), (2, .int 2), (3, .int x3)]) (st := [.int x3, .int 0, .int x1, .ref 116]) (h := ks ig2 ag2 qg2 rg2) (i := (.invokevirtual 360, 3, 211, 0, 9, 0, 466)) (mi_k211.2 _ _ (by rfl)) (ft_invS mi_pq211 (by rfl)) (cy := mi_c211) mi_pq211 rfl (kc211_116_l10_K2 hGg2.I hGg2.R x1 x3 (oz1339 hp0.1 hp0.2) (oz1412 hp1 u5) (oz1539 fig2_7457.1 hp2.2 z3)) (by decide) ?_
  intro vg6 ig6 ag6 qg6 rg6 kg6 hg6
  have hGg6 := kG_call hGg2 kg6 (by decide +kernel)
  have z7 : (ig6 7457).toInt = ((ig2 7457).toInt + 2) := hg6
  refine ft_goS mi_k211 1 83 [.int (-vg6)] (by rfl) ?_
  exact ft_ret mi_k211 (by rfl) (hP (-vg6) _ _ _ _ hGg6 (oz1540 z3 z7))
end
