theorem kn27 : (27 : Int32).toInt = 27 := by decide
theorem kn28 : (28 : Int32).toInt = 28 := by decide
theorem kn29 : (29 : Int32).toInt = 29 := by decide
theorem oz1478 {a0 a1 : Int} (h0 : (a0 + 6) ≤ 39) (h1 : a1 = 1) : a0 + a1 ≤ 2147483647 := by omega
theorem oz1479 {a0 a1 a2 : Int} (h0 : (0 : Int) ≤ a0) (h1 : (a0 + 6) ≤ 39) (h2 : a1 = a0 + a2) (h3 : a2 = 1) : ((0 : Int) ≤ a1) ∧ ((a1 + 5) ≤ 39) := by omega
theorem oz1480 {a0 a1 : Int} (h0 : a0 ≤ a1) (h1 : (a1 + 6) ≤ 39) (h2 : a0 = 40) : False := by omega
theorem oz1481 {a0 : Int} (h0 : a0 = 0) : ((0 : Int) ≤ a0) ∧ ((a0 + 6) ≤ 39) := by omega
theorem oz1482 {a0 : Int} (h0 : a0 = 24) : (0 : Int) ≤ a0 := by omega
theorem oz1483 {a0 : Int} (h0 : a0 = 24) : a0 < 32 := by omega
theorem oz1484 {a0 : Int} (h0 : a0 = 6) : a0 = 6 := by omega
theorem oz1485 {a0 : Int} (h0 : a0 = 6) : a0 < 8 := by omega
theorem oz1486 {a0 a1 : Int} (h0 : a0 = 6) (h1 : a1 = a0) : a1 = 6 := by omega
theorem oz1487 {a0 : Int} (h0 : a0 = 25) : a0 < 32 := by omega
theorem oz1488 {a0 : Int} (h0 : a0 = 26) : (0 : Int) ≤ a0 := by omega
theorem oz1489 {a0 : Int} (h0 : a0 = 26) : a0 < 32 := by omega
theorem oz1490 {a0 : Int} (h0 : a0 = 27) : (0 : Int) ≤ a0 := by omega
theorem oz1491 {a0 : Int} (h0 : a0 = 27) : a0 < 32 := by omega
theorem oz1492 {a0 : Int} (h0 : a0 = 28) : (0 : Int) ≤ a0 := by omega
theorem oz1493 {a0 : Int} (h0 : a0 = 28) : a0 < 32 := by omega
theorem oz1494 {a0 : Int} (h0 : a0 = 7) : a0 < 8 := by omega
theorem oz1495 {a0 : Int} (h0 : a0 = 7) (h1 : a0 ≤ 7) : a0 = 7 := by omega
theorem oz1496 {a0 a1 : Int} (h0 : a0 = 7) (h1 : a1 ≤ 7) (h2 : a1 = a0) : a1 = 7 := by omega
theorem oz1497 {a0 : Int} (h0 : a0 ≤ 7) (h1 : a0 = 7) : a0 = 7 := by omega
theorem oz1498 {a0 : Int} (h0 : a0 = 29) : (0 : Int) ≤ a0 := by omega
theorem oz1499 {a0 : Int} (h0 : a0 = 29) : a0 < 32 := by omega
theorem oz1500 {a0 : Int} (h0 : a0 = 7) : a0 = 7 := by omega
theorem oz1501 {a0 a1 a2 a3 : Int} (h0 : a0 ≤ a1) (h1 : (a1 + 8) ≤ 900) (h2 : a2 = a1 + a3) (h3 : a0 = 24) (h4 : a3 = 1) : ((0 : Int) ≤ a2) ∧ ((a2 + 3) ≤ 900) := by omega
theorem oz1502 {a0 : Int} (h0 : a0 = 30) : (0 : Int) ≤ a0 := by omega
theorem oz1503 {a0 : Int} (h0 : a0 = 30) : a0 < 32 := by omega
theorem oz1504 {a0 a1 a2 : Int} (h0 : a0 = 7) (h1 : a1 ≤ 7) (h2 : a2 = a0) (h3 : a1 = a2) : a1 = 7 := by omega
theorem oz1505 {a0 a1 a2 a3 a4 : Int} (h0 : a0 ≤ a1) (h1 : (a1 + 8) ≤ 900) (h2 : a2 = a1 + a3) (h3 : a4 = (a2 + 3)) (h4 : a0 = 24) (h5 : a3 = 1) : ((0 : Int) ≤ a4) ∧ ((a4 + 4) ≤ 900) := by omega
theorem oz1506 {a0 a1 a2 a3 a4 : Int} (h0 : a0 = a1 + a2) (h1 : a3 = (a0 + 3)) (h2 : a4 = (a3 + 4)) (h3 : a2 = 1) : a4 = (a1 + 8) := by omega
theorem oz1507 {a0 a1 a2 : Int} (h0 : (0 : Int) ≤ a0) (h1 : (a0 + 8) ≤ 900) (h2 : a1 = a0 + a2) (h3 : a2 = 1) : ((0 : Int) ≤ a1) ∧ ((a1 + 3) ≤ 900) := by omega
theorem oz1508 {a0 a1 a2 a3 : Int} (h0 : (0 : Int) ≤ a0) (h1 : (a1 + 8) ≤ 900) (h2 : a2 = a1 + a3) (h3 : a0 = (a2 + 3)) (h4 : a3 = 1) : ((0 : Int) ≤ a0) ∧ ((a0 + 4) ≤ 900) := by omega
theorem oz1509 {a0 : Int} (h0 : a0 = 31) : (0 : Int) ≤ a0 := by omega
theorem oz1510 {a0 : Int} (h0 : a0 = 31) : a0 < 32 := by omega
theorem oz1511 {a0 a1 a2 : Int} (h0 : (a0 + 14) ≤ 900) (h1 : a1 = a0 + a2) (h2 : a2 = 1) : a1 ≤ 1000 := by omega
theorem oz1512 {a0 a1 a2 : Int} (h0 : (a0 + 13) ≤ 900) (h1 : a1 = a0 + a2) (h2 : a2 = 1) : a1 ≤ 1000 := by omega
theorem oz1513 {a0 : Int} (h0 : (0 : Int) ≤ a0) (h1 : (a0 + 12) ≤ 900) : ((0 : Int) ≤ a0) ∧ ((a0 + 8) ≤ 900) := by omega
theorem oz1514 {a0 : Int} (h0 : (0 : Int) ≤ a0) (h1 : (a0 + 4) ≤ 39) : ((0 : Int) ≤ a0) ∧ ((a0 + 3) ≤ 39) := by omega
theorem oz1515 {a0 a1 : Int} (h0 : (0 : Int) ≤ a0) (h1 : (a1 + 12) ≤ 900) (h2 : a0 = (a1 + 8)) : ((0 : Int) ≤ a0) ∧ ((a0 + 4) ≤ 900) := by omega
theorem oz1516 {a0 a1 a2 : Int} (h0 : a0 = (a1 + 8)) (h1 : a2 = (a0 + 4)) : a2 = (a1 + 12) := by omega
theorem oz1517 {a0 a1 a2 a3 : Int} (h0 : a0 ≤ a1) (h1 : (a1 + 13) ≤ 900) (h2 : a2 = a1 + a3) (h3 : a0 = 24) (h4 : a3 = 1) : ((0 : Int) ≤ a2) ∧ ((a2 + 12) ≤ 900) := by omega
theorem oz1518 {a0 a1 a2 a3 : Int} (h0 : a0 = a1 + a2) (h1 : a3 = (a0 + 12)) (h2 : a2 = 1) : a3 = (a1 + 13) := by omega
theorem oz1519 {a0 a1 a2 : Int} (h0 : (0 : Int) ≤ a0) (h1 : (a0 + 13) ≤ 900) (h2 : a1 = a0 + a2) (h3 : a2 = 1) : ((0 : Int) ≤ a1) ∧ ((a1 + 12) ≤ 900) := by omega
theorem oz1520 {a0 a1 a2 a3 : Int} (h0 : a0 ≤ a1) (h1 : (a1 + 14) ≤ 900) (h2 : a2 = a1 + a3) (h3 : a0 = 24) (h4 : a3 = 1) : ((0 : Int) ≤ a2) ∧ ((a2 + 13) ≤ 900) := by omega
theorem oz1521 {a0 a1 a2 a3 : Int} (h0 : a0 = a1 + a2) (h1 : a3 = (a0 + 13)) (h2 : a2 = 1) : a3 = (a1 + 14) := by omega
theorem oz1522 {a0 a1 a2 : Int} (h0 : (0 : Int) ≤ a0) (h1 : (a0 + 14) ≤ 900) (h2 : a1 = a0 + a2) (h3 : a2 = 1) : ((0 : Int) ≤ a1) ∧ ((a1 + 13) ≤ 900) := by omega
theorem oz1523 {a0 : Int} (h0 : a0 = 0) : ((0 : Int) ≤ a0) ∧ ((a0 + 14) ≤ 900) := by omega
theorem oz1525 {a0 a1 a2 a3 : Int} (h0 : a0 ≤ 50) (h1 : a1 = a0 - a2) (h2 : a3 ≤ a1) (h3 : a2 = 1) : a3 < 50 := by omega
theorem oz1526 {a0 a1 a2 : Int} (h0 : a0 ≤ 999) (h1 : a1 = a0 + a2) (h2 : a2 = 1) : a1 ≤ 1000 := by omega
theorem oz1527 {a0 : Int} (h0 : (0 : Int) ≤ a0) (h1 : (a0 + 4) ≤ 900) : ((0 : Int) ≤ a0) ∧ (a0 ≤ 999) := by omega
theorem oz1528 {a0 : Int} (h0 : (0 : Int) ≤ a0) (h1 : (a0 + 2) ≤ 900) : ((0 : Int) ≤ a0) ∧ (a0 ≤ 999) := by omega
theorem oz1529 {a0 : Int} (h0 : (0 : Int) ≤ a0) (h1 : (a0 + 1) ≤ 900) : ((0 : Int) ≤ a0) ∧ (a0 ≤ 999) := by omega
theorem oz1530 {a0 a1 : Int} (h0 : (0 : Int) ≤ a0) (h1 : (a1 + 2) ≤ 900) (h2 : a0 = (a1 + 1)) : ((0 : Int) ≤ a0) ∧ ((a0 + 1) ≤ 900) := by omega
theorem oz1531 {a0 a1 a2 : Int} (h0 : a0 = (a1 + 1)) (h1 : a2 = (a0 + 1)) : a2 = (a1 + 2) := by omega
theorem oz1532 {a0 a1 : Int} (h0 : (0 : Int) ≤ a0) (h1 : (a1 + 4) ≤ 900) (h2 : a0 = (a1 + 1)) : ((0 : Int) ≤ a0) ∧ ((a0 + 2) ≤ 900) := by omega
theorem oz1534 {a0 a1 a2 : Int} (h0 : (0 : Int) ≤ a0) (h1 : (a1 + 4) ≤ 900) (h2 : a2 = (a1 + 1)) (h3 : a0 = (a2 + 2)) : ((0 : Int) ≤ a0) ∧ ((a0 + 1) ≤ 900) := by omega
theorem oz1535 {a0 a1 a2 a3 : Int} (h0 : a0 = (a1 + 1)) (h1 : a2 = (a3 + 1)) (h2 : a1 = (a2 + 2)) : a0 = (a3 + 4) := by omega
theorem oz1536 {a0 a1 a2 a3 a4 : Int} (h0 : a0 ≤ 50) (h1 : a1 = a0 - a2) (h2 : a3 ≤ a4) (h3 : a4 ≤ a1) (h4 : a2 = 1) (h5 : a3 = 0) : ((0 : Int) ≤ a4) ∧ (a4 ≤ 49) := by omega
theorem oz1537 {a0 : Int} (h0 : (0 : Int) ≤ a0) (h1 : (a0 + 5) ≤ 900) : ((0 : Int) ≤ a0) ∧ (a0 ≤ 999) := by omega
theorem oz1538 {a0 : Int} (h0 : (0 : Int) ≤ a0) (h1 : (a0 + 3) ≤ 900) : ((0 : Int) ≤ a0) ∧ (a0 ≤ 999) := by omega
theorem oz1539 {a0 a1 : Int} (h0 : (0 : Int) ≤ a0) (h1 : (a1 + 3) ≤ 900) (h2 : a0 = (a1 + 1)) : ((0 : Int) ≤ a0) ∧ ((a0 + 2) ≤ 900) := by omega
theorem oz1540 {a0 a1 a2 : Int} (h0 : a0 = (a1 + 1)) (h1 : a2 = (a0 + 2)) : a2 = (a1 + 3) := by omega
theorem oz1541 {a0 : Int} (h0 : (0 : Int) ≤ a0) (h1 : (a0 + 3) ≤ 900) : ((0 : Int) ≤ a0) ∧ ((a0 + 3) ≤ 900) := by omega
theorem oz1542 {a0 a1 : Int} (h0 : a0 = (a1 + 3)) : a0 = (a1 + 3) := by omega
theorem oz1543 {a0 a1 : Int} (h0 : (0 : Int) ≤ a0) (h1 : (a1 + 5) ≤ 900) (h2 : a0 = (a1 + 1)) : ((0 : Int) ≤ a0) ∧ ((a0 + 3) ≤ 900) := by omega
theorem oz1545 {a0 a1 a2 : Int} (h0 : (0 : Int) ≤ a0) (h1 : (a1 + 5) ≤ 900) (h2 : a2 = (a1 + 1)) (h3 : a0 = (a2 + 3)) : ((0 : Int) ≤ a0) ∧ ((a0 + 1) ≤ 900) := by omega
theorem oz1546 {a0 a1 a2 a3 : Int} (h0 : a0 = (a1 + 1)) (h1 : a2 = (a3 + 1)) (h2 : a1 = (a2 + 3)) : a0 = (a3 + 5) := by omega
theorem oz1547 {a0 : Int} (h0 : (0 : Int) ≤ a0) (h1 : (a0 + 5) ≤ 900) : ((0 : Int) ≤ a0) ∧ ((a0 + 5) ≤ 900) := by omega
theorem oz1548 {a0 a1 : Int} (h0 : a0 = (a1 + 5)) : a0 = (a1 + 5) := by omega
