theorem kn21 : (21 : Int32).toInt = 21 := by decide
theorem kn22 : (22 : Int32).toInt = 22 := by decide
theorem kn23 : (23 : Int32).toInt = 23 := by decide
theorem oz1414 {a0 : Int} (h0 : a0 = 10) : (0 : Int) ≤ a0 := by omega
theorem oz1415 {a0 : Int} (h0 : a0 = 10) : a0 < 32 := by omega
theorem oz1416 {a0 : Int} (h0 : a0 = 11) : (0 : Int) ≤ a0 := by omega
theorem oz1417 {a0 : Int} (h0 : a0 = 11) : a0 < 32 := by omega
theorem oz1418 {a0 : Int} (h0 : a0 = 12) : (0 : Int) ≤ a0 := by omega
theorem oz1419 {a0 : Int} (h0 : a0 = 12) : a0 < 32 := by omega
theorem oz1420 {a0 : Int} (h0 : a0 = 3) : a0 < 8 := by omega
theorem oz1421 {a0 : Int} (h0 : a0 = 3) : a0 = 3 := by omega
theorem oz1422 {a0 a1 : Int} (h0 : a0 = 3) (h1 : a1 = a0) : a1 = 3 := by omega
theorem oz1423 {a0 : Int} (h0 : a0 = 13) : (0 : Int) ≤ a0 := by omega
theorem oz1424 {a0 : Int} (h0 : a0 = 13) : a0 < 32 := by omega
theorem oz1425 {a0 : Int} (h0 : a0 = 14) : (0 : Int) ≤ a0 := by omega
theorem oz1426 {a0 : Int} (h0 : a0 = 14) : a0 < 32 := by omega
theorem oz1427 {a0 : Int} (h0 : a0 = 15) : (0 : Int) ≤ a0 := by omega
theorem oz1428 {a0 : Int} (h0 : a0 = 15) : a0 < 32 := by omega
theorem oz1429 {a0 a1 a2 : Int} (h0 : (a0 + 7) ≤ 900) (h1 : a1 = a0 + a2) (h2 : a2 = 1) : a1 ≤ 1000 := by omega
theorem oz1430 {a0 a1 : Int} (h0 : (a0 + 5) ≤ 39) (h1 : a1 = 1) : a0 + a1 ≤ 2147483647 := by omega
theorem oz1431 {a0 : Int} (h0 : (0 : Int) ≤ a0) (h1 : (a0 + 4) ≤ 39) : ((0 : Int) ≤ a0) ∧ ((a0 + 4) ≤ 39) := by omega
theorem oz1432 {a0 : Int} (h0 : (0 : Int) ≤ a0) (h1 : (a0 + 6) ≤ 900) : ((0 : Int) ≤ a0) ∧ ((a0 + 4) ≤ 900) := by omega
theorem oz1433 {a0 : Int} (h0 : (0 : Int) ≤ a0) (h1 : (a0 + 4) ≤ 39) : ((0 : Int) ≤ a0) ∧ ((a0 + 2) ≤ 39) := by omega
theorem oz1434 {a0 a1 : Int} (h0 : (0 : Int) ≤ a0) (h1 : (a1 + 6) ≤ 900) (h2 : a0 = (a1 + 4)) : ((0 : Int) ≤ a0) ∧ ((a0 + 2) ≤ 900) := by omega
theorem oz1435 {a0 a1 a2 : Int} (h0 : a0 = (a1 + 4)) (h1 : a2 = (a0 + 2)) : a2 = (a1 + 6) := by omega
theorem oz1436 {a0 a1 a2 : Int} (h0 : (0 : Int) ≤ a0) (h1 : (a0 + 5) ≤ 39) (h2 : a1 = a0 + a2) (h3 : a2 = 1) : ((0 : Int) ≤ a1) ∧ ((a1 + 4) ≤ 39) := by omega
theorem oz1437 {a0 a1 a2 a3 : Int} (h0 : a0 ≤ a1) (h1 : (a1 + 7) ≤ 900) (h2 : a2 = a1 + a3) (h3 : a0 = 24) (h4 : a3 = 1) : ((0 : Int) ≤ a2) ∧ ((a2 + 6) ≤ 900) := by omega
theorem oz1438 {a0 a1 a2 a3 : Int} (h0 : a0 = a1 + a2) (h1 : a3 = (a0 + 6)) (h2 : a2 = 1) : a3 = (a1 + 7) := by omega
theorem oz1439 {a0 a1 a2 : Int} (h0 : (0 : Int) ≤ a0) (h1 : (a0 + 7) ≤ 900) (h2 : a1 = a0 + a2) (h3 : a2 = 1) : ((0 : Int) ≤ a1) ∧ ((a1 + 6) ≤ 900) := by omega
theorem oz1440 {a0 a1 : Int} (h0 : a0 ≤ a1) (h1 : (a1 + 5) ≤ 39) (h2 : a0 = 40) : False := by omega
theorem oz1441 {a0 : Int} (h0 : a0 = 0) : ((0 : Int) ≤ a0) ∧ ((a0 + 5) ≤ 39) := by omega
theorem oz1442 {a0 : Int} (h0 : a0 = 0) : ((0 : Int) ≤ a0) ∧ ((a0 + 7) ≤ 900) := by omega
theorem oz1443 {a0 : Int} (h0 : a0 = 16) : (0 : Int) ≤ a0 := by omega
theorem oz1444 {a0 : Int} (h0 : a0 = 16) : a0 < 32 := by omega
theorem oz1445 {a0 : Int} (h0 : a0 = 4) : a0 < 8 := by omega
theorem oz1446 {a0 : Int} (h0 : a0 = 4) : a0 = 4 := by omega
theorem oz1447 {a0 a1 : Int} (h0 : a0 = 4) (h1 : a1 = a0) : a1 = 4 := by omega
theorem oz1448 {a0 : Int} (h0 : a0 = 17) : (0 : Int) ≤ a0 := by omega
theorem oz1449 {a0 : Int} (h0 : a0 = 17) : a0 < 32 := by omega
theorem oz1450 {a0 : Int} (h0 : a0 = 18) : a0 < 32 := by omega
theorem oz1451 {a0 a1 a2 : Int} (h0 : (0 : Int) ≤ a0) (h1 : (a0 + 3) ≤ 39) (h2 : a1 = a0 + a2) (h3 : a2 = 1) : ((0 : Int) ≤ a1) ∧ ((a1 + 1) ≤ 39) := by omega
theorem oz1452 {a0 a1 a2 a3 : Int} (h0 : a0 ≤ a1) (h1 : (a1 + 4) ≤ 900) (h2 : a2 = a1 + a3) (h3 : a0 = 24) (h4 : a3 = 1) : ((0 : Int) ≤ a2) ∧ ((a2 + 1) ≤ 900) := by omega
theorem oz1453 {a0 a1 a2 a3 a4 : Int} (h0 : a0 ≤ a1) (h1 : (a1 + 4) ≤ 900) (h2 : a2 = a1 + a3) (h3 : a4 = (a2 + 1)) (h4 : a0 = 24) (h5 : a3 = 1) : ((0 : Int) ≤ a4) ∧ ((a4 + 2) ≤ 900) := by omega
theorem oz1454 {a0 a1 a2 a3 a4 : Int} (h0 : a0 = a1 + a2) (h1 : a3 = (a0 + 1)) (h2 : a4 = (a3 + 2)) (h3 : a2 = 1) : a4 = (a1 + 4) := by omega
theorem oz1455 {a0 a1 a2 : Int} (h0 : (0 : Int) ≤ a0) (h1 : (a0 + 4) ≤ 900) (h2 : a1 = a0 + a2) (h3 : a2 = 1) : ((0 : Int) ≤ a1) ∧ ((a1 + 1) ≤ 900) := by omega
theorem oz1456 {a0 a1 a2 : Int} (h0 : a0 = 4) (h1 : a1 = a0) (h2 : a2 = a1) : a2 = 4 := by omega
theorem oz1457 {a0 a1 a2 a3 : Int} (h0 : (0 : Int) ≤ a0) (h1 : (a1 + 4) ≤ 900) (h2 : a2 = a1 + a3) (h3 : a0 = (a2 + 1)) (h4 : a3 = 1) : ((0 : Int) ≤ a0) ∧ ((a0 + 2) ≤ 900) := by omega
theorem oz1458 {a0 : Int} (h0 : a0 = 19) : a0 < 32 := by omega
theorem oz1459 {a0 a1 a2 : Int} (h0 : (a0 + 8) ≤ 900) (h1 : a1 = a0 + a2) (h2 : a2 = 1) : a1 ≤ 1000 := by omega
theorem oz1460 {a0 : Int} (h0 : (0 : Int) ≤ a0) (h1 : (a0 + 7) ≤ 900) : ((0 : Int) ≤ a0) ∧ ((a0 + 3) ≤ 900) := by omega
theorem oz1461 {a0 a1 : Int} (h0 : (0 : Int) ≤ a0) (h1 : (a1 + 7) ≤ 900) (h2 : a0 = (a1 + 3)) : ((0 : Int) ≤ a0) ∧ ((a0 + 4) ≤ 900) := by omega
theorem oz1462 {a0 a1 a2 : Int} (h0 : a0 = (a1 + 3)) (h1 : a2 = (a0 + 4)) : a2 = (a1 + 7) := by omega
theorem oz1463 {a0 a1 a2 a3 : Int} (h0 : a0 ≤ a1) (h1 : (a1 + 8) ≤ 900) (h2 : a2 = a1 + a3) (h3 : a0 = 24) (h4 : a3 = 1) : ((0 : Int) ≤ a2) ∧ ((a2 + 7) ≤ 900) := by omega
theorem oz1464 {a0 a1 a2 a3 : Int} (h0 : a0 = a1 + a2) (h1 : a3 = (a0 + 7)) (h2 : a2 = 1) : a3 = (a1 + 8) := by omega
theorem oz1465 {a0 a1 a2 : Int} (h0 : (0 : Int) ≤ a0) (h1 : (a0 + 8) ≤ 900) (h2 : a1 = a0 + a2) (h3 : a2 = 1) : ((0 : Int) ≤ a1) ∧ ((a1 + 7) ≤ 900) := by omega
theorem oz1466 {a0 : Int} (h0 : a0 = 0) : ((0 : Int) ≤ a0) ∧ ((a0 + 8) ≤ 900) := by omega
theorem oz1467 {a0 : Int} (h0 : a0 = 20) : (0 : Int) ≤ a0 := by omega
theorem oz1468 {a0 : Int} (h0 : a0 = 20) : a0 < 32 := by omega
theorem oz1469 {a0 : Int} (h0 : a0 = 5) : a0 < 8 := by omega
theorem oz1470 {a0 : Int} (h0 : a0 = 5) : a0 = 5 := by omega
theorem oz1471 {a0 a1 : Int} (h0 : a0 = 5) (h1 : a1 = a0) : a1 = 5 := by omega
theorem oz1472 {a0 : Int} (h0 : a0 = 21) : (0 : Int) ≤ a0 := by omega
theorem oz1473 {a0 : Int} (h0 : a0 = 21) : a0 < 32 := by omega
theorem oz1474 {a0 : Int} (h0 : a0 = 22) : (0 : Int) ≤ a0 := by omega
theorem oz1475 {a0 : Int} (h0 : a0 = 22) : a0 < 32 := by omega
theorem oz1476 {a0 : Int} (h0 : a0 = 23) : (0 : Int) ≤ a0 := by omega
theorem oz1477 {a0 : Int} (h0 : a0 = 23) : a0 < 32 := by omega
