theorem kor0 : (0 : Int32).toInt = 0 := by decide
theorem kor24 : (24 : Int32).toInt = 24 := by decide
theorem kor1 : (1 : Int32).toInt = 1 := by decide
theorem kor3 : (3 : Int32).toInt = 3 := by decide
theorem kor2 : (2 : Int32).toInt = 2 := by decide
theorem kor40 : (40 : Int32).toInt = 40 := by decide
theorem kor4 : (4 : Int32).toInt = 4 := by decide
theorem kor5 : (5 : Int32).toInt = 5 := by decide
theorem kor6 : (6 : Int32).toInt = 6 := by decide
theorem kor7 : (7 : Int32).toInt = 7 := by decide
theorem kor9 : (9 : Int32).toInt = 9 := by decide
theorem kor13 : (13 : Int32).toInt = 13 := by decide
theorem kor14 : (14 : Int32).toInt = 14 := by decide
theorem kor18 : (18 : Int32).toInt = 18 := by decide
theorem kor23 : (23 : Int32).toInt = 23 := by decide
theorem kor29 : (29 : Int32).toInt = 29 := by decide
theorem kor31 : (31 : Int32).toInt = 31 := by decide
theorem or0 {a0 : Int} (h0 : a0 = 0) : (0 : Int) ≤ a0 := oz46 h0
theorem or1 {a0 : Int} (h0 : a0 = 0) : a0 ≤ 1000 := oz1331 h0
theorem or2 {a0 a1 : Int} (h0 : (0 : Int) ≤ a0) (h1 : a1 = 1) : (-2147483648 : Int) ≤ a0 - a1 := oz47 h0 h1
theorem or3 {a0 a1 : Int} (h0 : a0 ≤ 50) (h1 : a1 = 1) : a0 - a1 ≤ 2147483647 := oz583 h0 h1
theorem or4 {a0 a1 : Int} (h0 : a0 ≤ a1) (h1 : a0 = 0) : (0 : Int) ≤ a1 := oz389 h0 h1
theorem or5 {a0 a1 a2 a3 : Int} (h0 : a0 ≤ 50) (h1 : a1 = a0 - a2) (h2 : a3 ≤ a1) (h3 : a2 = 1) : a3 < 50 := oz1525 h0 h1 h2 h3
theorem or6 {a0 a1 a2 : Int} (h0 : a0 ≤ a1) (h1 : a0 = 24) (h2 : a2 = 1) : (-2147483648 : Int) ≤ a1 + a2 := oz1332 h0 h1 h2
theorem or7 {a0 a1 : Int} (h0 : a0 ≤ 1000) (h1 : a1 = 1) : a0 + a1 ≤ 2147483647 := oz951 h0 h1
theorem or8 {a0 a1 a2 a3 : Int} (h0 : a0 ≤ a1) (h1 : a2 = a1 + a3) (h2 : a0 = 24) (h3 : a3 = 1) : (0 : Int) ≤ a2 := oz1333 h0 h1 h2 h3
theorem or9 {a0 a1 a2 : Int} (h0 : a0 ≤ 999) (h1 : a1 = a0 + a2) (h2 : a2 = 1) : a1 ≤ 1000 := oz1526 h0 h1 h2
theorem or10 {a0 a1 a2 : Int} (h0 : a0 = a1 + a2) (h1 : a2 = 1) : a0 = (a1 + 1) := oz748 h0 h1
theorem or11 {a0 a1 : Int} (h0 : a0 ≤ a1) (h1 : a0 = 24) : 0 ≤ a1 := by omega
theorem or12 {a0 a1 a2 : Int} (h0 : a0 = a1 + a2) (h1 : a2 = 1) : a0 = a1 + 1 := oz169 h0 h1
theorem or13 {a0 a1 : Int} (h0 : a0 ≤ a1) (h1 : a0 = 24) : 24 ≤ a1 := by omega
theorem or14 {a0 : Int} (h0 : (0 : Int) ≤ a0) : (0 : Int) ≤ a0 := oz3 h0
theorem or15 {a0 a1 : Int} (h0 : a0 < a1) (h1 : a1 = 24) : a0 < 24 := oz1343 h0 h1
theorem or16 {a0 a1 : Int} (h0 : (0 : Int) ≤ a0) (h1 : a1 = 1) : (-2147483648 : Int) ≤ a0 + a1 := oz12 h0 h1
theorem or17 {a0 a1 a2 : Int} (h0 : (0 : Int) ≤ a0) (h1 : a1 = a0 + a2) (h2 : a2 = 1) : (0 : Int) ≤ a1 := oz14 h0 h1 h2
theorem or18 {a0 : Int} (h0 : (0 : Int) ≤ a0) : 0 ≤ a0 := by omega
theorem or19 {a0 : Int} (h0 : (0 : Int) ≤ a0) (h1 : (a0 + 4) ≤ 900) : ((0 : Int) ≤ a0) ∧ (a0 ≤ 999) := oz1527 h0 h1
theorem or20 {a0 : Int} (h0 : a0 ≤ 49) : a0 < 50 := oz1336 h0
theorem or21 {a0 a1 : Int} (h0 : a0 = 0) (h1 : (0 : Int) ≤ a1) (h2 : a1 = a0) : a1 = 0 := oz1344 h0 h1 h2
theorem or22 {a0 : Int} (h0 : (0 : Int) ≤ a0) (h1 : (a0 + 2) ≤ 900) : ((0 : Int) ≤ a0) ∧ (a0 ≤ 999) := oz1528 h0 h1
theorem or23 {a0 : Int} (h0 : (0 : Int) ≤ a0) (h1 : (a0 + 1) ≤ 900) : ((0 : Int) ≤ a0) ∧ (a0 ≤ 999) := oz1529 h0 h1
theorem or24 {a0 a1 : Int} (h0 : a0 = (a1 + 1)) : a0 = (a1 + 1) := oz1355 h0
theorem or25 {a0 : Int} (h0 : (0 : Int) ≤ a0) (h1 : a0 ≤ 49) : ((0 : Int) ≤ a0) ∧ (a0 ≤ 49) := oz1339 h0 h1
theorem or26 {a0 a1 : Int} (h0 : (0 : Int) ≤ a0) (h1 : (a1 + 2) ≤ 900) (h2 : a0 = (a1 + 1)) : ((0 : Int) ≤ a0) ∧ ((a0 + 1) ≤ 900) := oz1530 h0 h1 h2
theorem or27 {a0 a1 a2 : Int} (h0 : a0 = (a1 + 1)) (h1 : a2 = (a0 + 1)) : a2 = (a1 + 2) := oz1531 h0 h1
theorem or28 {a0 a1 : Int} (h0 : (0 : Int) ≤ a0) (h1 : (a1 + 4) ≤ 900) (h2 : a0 = (a1 + 1)) : ((0 : Int) ≤ a0) ∧ ((a0 + 2) ≤ 900) := oz1532 h0 h1 h2
theorem or29 {a0 a1 a2 : Int} (h0 : a0 = 0) (h1 : (0 : Int) ≤ a1) (h2 : a1 = a2) (h3 : a2 = a0) : a1 = 0 := by omega
theorem or30 {a0 a1 a2 : Int} (h0 : (0 : Int) ≤ a0) (h1 : (a1 + 4) ≤ 900) (h2 : a2 = (a1 + 1)) (h3 : a0 = (a2 + 2)) : ((0 : Int) ≤ a0) ∧ ((a0 + 1) ≤ 900) := oz1534 h0 h1 h2 h3
theorem or31 {a0 a1 a2 a3 : Int} (h0 : a0 = (a1 + 1)) (h1 : a2 = (a3 + 1)) (h2 : a1 = (a2 + 2)) : a0 = (a3 + 4) := oz1535 h0 h1 h2
theorem or32 {a0 a1 a2 a3 a4 : Int} (h0 : a0 ≤ 50) (h1 : a1 = a0 - a2) (h2 : a3 ≤ a4) (h3 : a4 ≤ a1) (h4 : a2 = 1) (h5 : a3 = 0) : ((0 : Int) ≤ a4) ∧ (a4 ≤ 49) := oz1536 h0 h1 h2 h3 h4 h5
theorem or33 {a0 : Int} (h0 : (0 : Int) ≤ a0) (h1 : a0 = 0) : a0 = 0 := oz1348 h0 h1
theorem or34 {a0 : Int} (h0 : a0 = 0) : ((0 : Int) ≤ a0) ∧ ((a0 + 4) ≤ 900) := oz1378 h0
theorem or35 {a0 a1 a2 a3 a4 : Int} (h0 : a0 ≠ a1) (h1 : a0 ≠ a2) (h2 : a0 ≠ a3) (h3 : a2 ≤ a0) (h4 : a0 ≤ a4) (h5 : a1 = 2) (h6 : a2 = 0) (h7 : a3 = 1) (h8 : a4 = 3) : a0 = 3 := by omega
theorem or36 {a0 a1 a2 a3 a4 a5 a6 : Int} (h0 : a0 = a1 - a2) (h1 : a3 ≤ a4) (h2 : a4 ≤ a0) (h3 : a3 ≤ a5) (h4 : a5 ≤ a6) (h5 : a2 = 1) (h6 : a3 = 0) (h7 : a6 = 3) : 0 ≤ a4 ∧ a4 < a1 ∧ 0 ≤ a5 ∧ a5 ≤ 3 := by omega
theorem or37 {a0 : Int} (h0 : a0 = 0) : a0 = 0 := oz236 h0
theorem or38 {a0 : Int} (h0 : (0 : Int) ≤ a0) (h1 : (a0 + 5) ≤ 900) : ((0 : Int) ≤ a0) ∧ (a0 ≤ 999) := oz1537 h0 h1
theorem or39 {a0 a1 : Int} (h0 : a0 = 1) (h1 : a1 = a0) : a1 = 1 := oz1383 h0 h1
theorem or40 {a0 : Int} (h0 : (0 : Int) ≤ a0) (h1 : (a0 + 3) ≤ 900) : ((0 : Int) ≤ a0) ∧ (a0 ≤ 999) := oz1538 h0 h1
theorem or41 {a0 a1 : Int} (h0 : (0 : Int) ≤ a0) (h1 : (a1 + 3) ≤ 900) (h2 : a0 = (a1 + 1)) : ((0 : Int) ≤ a0) ∧ ((a0 + 2) ≤ 900) := oz1539 h0 h1 h2
theorem or42 {a0 a1 a2 : Int} (h0 : a0 = (a1 + 1)) (h1 : a2 = (a0 + 2)) : a2 = (a1 + 3) := oz1540 h0 h1
theorem or43 {a0 : Int} (h0 : a0 = 1) : a0 = 1 := oz1381 h0
theorem or44 {a0 : Int} (h0 : (0 : Int) ≤ a0) (h1 : (a0 + 3) ≤ 900) : ((0 : Int) ≤ a0) ∧ ((a0 + 3) ≤ 900) := oz1541 h0 h1
theorem or45 {a0 a1 : Int} (h0 : a0 = (a1 + 3)) : a0 = (a1 + 3) := oz1542 h0
theorem or46 {a0 a1 : Int} (h0 : (0 : Int) ≤ a0) (h1 : (a1 + 5) ≤ 900) (h2 : a0 = (a1 + 1)) : ((0 : Int) ≤ a0) ∧ ((a0 + 3) ≤ 900) := oz1543 h0 h1 h2
theorem or47 {a0 a1 a2 : Int} (h0 : a0 = 1) (h1 : a1 = a2) (h2 : a2 = a0) : a1 = 1 := by omega
theorem or48 {a0 : Int} (h0 : (0 : Int) ≤ a0) (h1 : (a0 + 1) ≤ 900) : ((0 : Int) ≤ a0) ∧ ((a0 + 1) ≤ 900) := oz1354 h0 h1
theorem or49 {a0 a1 a2 : Int} (h0 : (0 : Int) ≤ a0) (h1 : (a1 + 5) ≤ 900) (h2 : a2 = (a1 + 1)) (h3 : a0 = (a2 + 3)) : ((0 : Int) ≤ a0) ∧ ((a0 + 1) ≤ 900) := oz1545 h0 h1 h2 h3
theorem or50 {a0 a1 a2 a3 : Int} (h0 : a0 = (a1 + 1)) (h1 : a2 = (a3 + 1)) (h2 : a1 = (a2 + 3)) : a0 = (a3 + 5) := oz1546 h0 h1 h2
theorem or51 {a0 : Int} (h0 : (0 : Int) ≤ a0) (h1 : (a0 + 5) ≤ 900) : ((0 : Int) ≤ a0) ∧ ((a0 + 5) ≤ 900) := oz1547 h0 h1
theorem or52 {a0 a1 : Int} (h0 : a0 = (a1 + 5)) : a0 = (a1 + 5) := oz1548 h0
theorem or53 {a0 : Int} (h0 : a0 = 0) : ((0 : Int) ≤ a0) ∧ ((a0 + 5) ≤ 900) := oz1407 h0
theorem or54 {a0 a1 : Int} (h0 : a0 = 2) (h1 : a1 = a0) : a1 = 2 := oz1412 h0 h1
theorem or55 {a0 : Int} (h0 : a0 = 2) : a0 = 2 := oz1411 h0
theorem or56 {a0 a1 a2 : Int} (h0 : a0 = 2) (h1 : a1 = a2) (h2 : a2 = a0) : a1 = 2 := by omega
theorem or57 {a0 : Int} (h0 : (0 : Int) ≤ a0) (h1 : (a0 + 7) ≤ 900) : ((0 : Int) ≤ a0) ∧ (a0 ≤ 999) := oz1550 h0 h1
theorem or58 {a0 a1 : Int} (h0 : a0 = 3) (h1 : a1 = a0) : a1 = 3 := oz1422 h0 h1
theorem or59 {a0 : Int} (h0 : a0 = 3) : a0 = 3 := oz1421 h0
theorem or60 {a0 a1 : Int} (h0 : (0 : Int) ≤ a0) (h1 : (a1 + 4) ≤ 900) (h2 : a0 = (a1 + 1)) : ((0 : Int) ≤ a0) ∧ ((a0 + 3) ≤ 900) := oz1551 h0 h1 h2
theorem or61 {a0 a1 a2 : Int} (h0 : a0 = (a1 + 1)) (h1 : a2 = (a0 + 3)) : a2 = (a1 + 4) := oz1552 h0 h1
theorem or62 {a0 a1 : Int} (h0 : (0 : Int) ≤ a0) (h1 : (a1 + 7) ≤ 900) (h2 : a0 = (a1 + 1)) : ((0 : Int) ≤ a0) ∧ ((a0 + 4) ≤ 900) := oz1553 h0 h1 h2
theorem or63 {a0 a1 a2 : Int} (h0 : a0 = 3) (h1 : a1 = a2) (h2 : a2 = a0) : a1 = 3 := by omega
theorem or64 {a0 a1 a2 : Int} (h0 : (0 : Int) ≤ a0) (h1 : (a1 + 7) ≤ 900) (h2 : a2 = (a1 + 1)) (h3 : a0 = (a2 + 4)) : ((0 : Int) ≤ a0) ∧ ((a0 + 2) ≤ 900) := oz1555 h0 h1 h2 h3
theorem or65 {a0 a1 a2 a3 : Int} (h0 : a0 = (a1 + 2)) (h1 : a2 = (a3 + 1)) (h2 : a1 = (a2 + 4)) : a0 = (a3 + 7) := oz1556 h0 h1 h2
theorem or66 {a0 : Int} (h0 : (0 : Int) ≤ a0) (h1 : (a0 + 7) ≤ 900) : ((0 : Int) ≤ a0) ∧ ((a0 + 7) ≤ 900) := oz1557 h0 h1
theorem or67 {a0 a1 : Int} (h0 : a0 = (a1 + 7)) : a0 = (a1 + 7) := oz1558 h0
theorem or68 {a0 : Int} (h0 : a0 = 0) : ((0 : Int) ≤ a0) ∧ ((a0 + 7) ≤ 900) := oz1442 h0
theorem or69 {a0 : Int} (h0 : (0 : Int) ≤ a0) (h1 : (a0 + 8) ≤ 900) : ((0 : Int) ≤ a0) ∧ (a0 ≤ 999) := oz1559 h0 h1
theorem or70 {a0 a1 : Int} (h0 : a0 = 4) (h1 : a1 = a0) : a1 = 4 := oz1447 h0 h1
theorem or71 {a0 : Int} (h0 : a0 = 4) : a0 = 4 := oz1446 h0
theorem or72 {a0 : Int} (h0 : (0 : Int) ≤ a0) (h1 : (a0 + 2) ≤ 900) : ((0 : Int) ≤ a0) ∧ ((a0 + 2) ≤ 900) := oz1386 h0 h1
theorem or73 {a0 a1 : Int} (h0 : a0 = (a1 + 2)) : a0 = (a1 + 2) := oz1387 h0
theorem or74 {a0 a1 : Int} (h0 : (0 : Int) ≤ a0) (h1 : (a1 + 8) ≤ 900) (h2 : a0 = (a1 + 1)) : ((0 : Int) ≤ a0) ∧ ((a0 + 3) ≤ 900) := oz1560 h0 h1 h2
theorem or75 {a0 a1 a2 : Int} (h0 : a0 = 4) (h1 : a1 = a2) (h2 : a2 = a0) : a1 = 4 := by omega
theorem or76 {a0 a1 : Int} (h0 : (0 : Int) ≤ a0) (h1 : (a1 + 4) ≤ 900) (h2 : a0 = (a1 + 1)) : ((0 : Int) ≤ a0) ∧ ((a0 + 1) ≤ 900) := oz1561 h0 h1 h2
theorem or77 {a0 a1 a2 : Int} (h0 : (0 : Int) ≤ a0) (h1 : (a1 + 4) ≤ 900) (h2 : a2 = (a1 + 1)) (h3 : a0 = (a2 + 1)) : ((0 : Int) ≤ a0) ∧ ((a0 + 2) ≤ 900) := oz1562 h0 h1 h2 h3
theorem or78 {a0 a1 a2 a3 : Int} (h0 : a0 = (a1 + 2)) (h1 : a2 = (a3 + 1)) (h2 : a1 = (a2 + 1)) : a0 = (a3 + 4) := oz1563 h0 h1 h2
theorem or79 {a0 a1 a2 : Int} (h0 : (0 : Int) ≤ a0) (h1 : (a1 + 8) ≤ 900) (h2 : a2 = (a1 + 1)) (h3 : a0 = (a2 + 3)) : ((0 : Int) ≤ a0) ∧ ((a0 + 4) ≤ 900) := oz1564 h0 h1 h2 h3
theorem or80 {a0 a1 a2 a3 : Int} (h0 : a0 = (a1 + 4)) (h1 : a2 = (a3 + 1)) (h2 : a1 = (a2 + 3)) : a0 = (a3 + 8) := oz1565 h0 h1 h2
theorem or81 {a0 : Int} (h0 : (0 : Int) ≤ a0) (h1 : (a0 + 8) ≤ 900) : ((0 : Int) ≤ a0) ∧ ((a0 + 8) ≤ 900) := oz1566 h0 h1
theorem or82 {a0 a1 : Int} (h0 : a0 = (a1 + 8)) : a0 = (a1 + 8) := oz1567 h0
theorem or83 {a0 : Int} (h0 : a0 = 0) : ((0 : Int) ≤ a0) ∧ ((a0 + 8) ≤ 900) := oz1466 h0
theorem or84 {a0 a1 : Int} (h0 : a0 = 5) (h1 : a1 = a0) : a1 = 5 := oz1471 h0 h1
theorem or85 {a0 : Int} (h0 : a0 = 5) : a0 = 5 := oz1470 h0
theorem or86 {a0 : Int} (h0 : (0 : Int) ≤ a0) (h1 : (a0 + 4) ≤ 900) : ((0 : Int) ≤ a0) ∧ ((a0 + 4) ≤ 900) := oz1568 h0 h1
theorem or87 {a0 a1 : Int} (h0 : a0 = (a1 + 4)) : a0 = (a1 + 4) := oz1569 h0
theorem or88 {a0 a1 a2 : Int} (h0 : a0 = 5) (h1 : a1 = a2) (h2 : a2 = a0) : a1 = 5 := by omega
theorem or89 {a0 a1 : Int} (h0 : (0 : Int) ≤ a0) (h1 : (a1 + 8) ≤ 900) (h2 : a0 = (a1 + 1)) : ((0 : Int) ≤ a0) ∧ ((a0 + 7) ≤ 900) := oz1571 h0 h1 h2
theorem or90 {a0 a1 a2 : Int} (h0 : a0 = (a1 + 1)) (h1 : a2 = (a0 + 7)) : a2 = (a1 + 8) := oz1572 h0 h1
theorem or91 {a0 a1 : Int} (h0 : a0 = 6) (h1 : a1 = a0) : a1 = 6 := oz1486 h0 h1
theorem or92 {a0 : Int} (h0 : a0 = 6) : a0 = 6 := oz1484 h0
theorem or93 {a0 a1 a2 : Int} (h0 : a0 = 6) (h1 : a1 = a2) (h2 : a2 = a0) : a1 = 6 := by omega
theorem or94 {a0 : Int} (h0 : (0 : Int) ≤ a0) (h1 : (a0 + 14) ≤ 900) : ((0 : Int) ≤ a0) ∧ (a0 ≤ 999) := oz1574 h0 h1
theorem or95 {a0 : Int} (h0 : (0 : Int) ≤ a0) (h1 : (a0 + 13) ≤ 900) : ((0 : Int) ≤ a0) ∧ (a0 ≤ 999) := oz1575 h0 h1
theorem or96 {a0 a1 : Int} (h0 : a0 = 7) (h1 : a1 ≤ 7) (h2 : a1 = a0) : a1 = 7 := oz1496 h0 h1 h2
theorem or97 {a0 : Int} (h0 : a0 = 7) (h1 : a0 ≤ 7) : a0 = 7 := oz1495 h0 h1
theorem or98 {a0 a1 a2 : Int} (h0 : a0 = 7) (h1 : a1 ≤ 7) (h2 : a1 = a2) (h3 : a2 = a0) : a1 = 7 := by omega
theorem or99 {a0 a1 : Int} (h0 : (0 : Int) ≤ a0) (h1 : (a1 + 13) ≤ 900) (h2 : a0 = (a1 + 1)) : ((0 : Int) ≤ a0) ∧ ((a0 + 8) ≤ 900) := oz1576 h0 h1 h2
theorem or100 {a0 a1 a2 : Int} (h0 : (0 : Int) ≤ a0) (h1 : (a1 + 13) ≤ 900) (h2 : a2 = (a1 + 1)) (h3 : a0 = (a2 + 8)) : ((0 : Int) ≤ a0) ∧ ((a0 + 4) ≤ 900) := oz1577 h0 h1 h2 h3
theorem or101 {a0 a1 a2 a3 : Int} (h0 : a0 = (a1 + 4)) (h1 : a2 = (a3 + 1)) (h2 : a1 = (a2 + 8)) : a0 = (a3 + 13) := oz1578 h0 h1 h2
theorem or102 {a0 : Int} (h0 : (0 : Int) ≤ a0) (h1 : (a0 + 13) ≤ 900) : ((0 : Int) ≤ a0) ∧ ((a0 + 13) ≤ 900) := oz1579 h0 h1
theorem or103 {a0 a1 : Int} (h0 : a0 = (a1 + 13)) : a0 = (a1 + 13) := oz1580 h0
theorem or104 {a0 a1 : Int} (h0 : (0 : Int) ≤ a0) (h1 : (a1 + 14) ≤ 900) (h2 : a0 = (a1 + 1)) : ((0 : Int) ≤ a0) ∧ ((a0 + 13) ≤ 900) := oz1581 h0 h1 h2
theorem or105 {a0 a1 a2 : Int} (h0 : a0 = (a1 + 1)) (h1 : a2 = (a0 + 13)) : a2 = (a1 + 14) := oz1582 h0 h1
theorem or106 {a0 : Int} (h0 : a0 ≤ 7) (h1 : a0 = 7) : a0 = 7 := oz1497 h0 h1
theorem or107 {a0 : Int} (h0 : a0 = 0) : ((0 : Int) ≤ a0) ∧ ((a0 + 14) ≤ 900) := oz1523 h0
theorem or108 {a0 : Int} (h0 : (0 : Int) ≤ a0) (h1 : a0 ≤ 7) (h2 : ¬ (a0 = 0)) (h3 : ¬ (a0 = 1)) (h4 : ¬ (a0 = 2)) (h5 : ¬ (a0 = 3)) (h6 : ¬ (a0 = 4)) (h7 : ¬ (a0 = 5)) (h8 : ¬ (a0 = 6)) (h9 : ¬ (a0 = 7)) : False := oz1583 h0 h1 h2 h3 h4 h5 h6 h7 h8 h9
theorem or109 {a0 : Int} (h0 : a0 = 0) : ((0 : Int) ≤ a0) ∧ ((a0 + 1) ≤ 900) := oz1350 h0
theorem or110 {a0 a1 : Int} (h0 : a0 = a1) (h1 : a1 = 2) : a0 = 2 := by omega
theorem or111 {a0 a1 a2 a3 a4 a5 a6 a7 : Int} (h0 : a0 = a1) (h1 : a2 = a3 - a4) (h2 : a5 ≤ a6) (h3 : a6 ≤ a2) (h4 : a0 ≤ a7) (h5 : a1 = 2) (h6 : a4 = 1) (h7 : a5 = 0) (h8 : a7 = 3) : 0 ≤ a6 ∧ a6 < a3 ∧ 0 ≤ a0 ∧ a0 ≤ 3 := by omega
theorem or112 {a0 : Int} (h0 : a0 = 0) : ((0 : Int) ≤ a0) ∧ ((a0 + 2) ≤ 900) := oz1362 h0
theorem or113 {a0 a1 : Int} (h0 : a0 = a1) (h1 : a1 = 1) : a0 = 1 := by omega
theorem or114 {a0 a1 a2 a3 a4 a5 a6 : Int} (h0 : a0 = a1) (h1 : a2 = a3 - a1) (h2 : a4 ≤ a5) (h3 : a5 ≤ a2) (h4 : a0 ≤ a6) (h5 : a1 = 1) (h6 : a4 = 0) (h7 : a6 = 3) : 0 ≤ a5 ∧ a5 < a3 ∧ 0 ≤ a0 ∧ a0 ≤ 3 := by omega
theorem or115 {a0 : Int} (h0 : a0 = 0) : ((0 : Int) ≤ a0) ∧ ((a0 + 3) ≤ 900) := oz1391 h0
theorem or116 {a0 : Int} (h0 : (0 : Int) ≤ a0) (h1 : a0 ≤ 7) (h2 : ¬ (a0 = 2)) (h3 : ¬ (a0 = 3)) (h4 : ¬ (a0 = 4)) (h5 : ¬ (a0 = 5)) (h6 : ¬ (a0 = 6)) (h7 : ¬ (a0 = 7)) (h8 : ¬ (a0 = 0)) (h9 : ¬ (a0 = 1)) : False := by omega
theorem or117 {a0 a1 : Int} (h0 : a0 = a1) (h1 : a1 ≤ a0) (h2 : a1 = 0) : a0 = 0 := by omega
theorem or118 {a0 a1 a2 a3 a4 : Int} (h0 : ¬ ((a0 ≤ a1) ∧ (a1 ≤ a2))) (h1 : a0 = 0) (h2 : a2 = 3) : ¬ (0 ≤ a3 ∧ a3 < a4 ∧ 0 ≤ a1 ∧ a1 ≤ 3) := by omega
theorem or119 {a0 a1 a2 a3 a4 a5 : Int} (h0 : a0 = a1 - a2) (h1 : ¬ ((a3 ≤ a4) ∧ (a4 ≤ a0))) (h2 : a2 = 1) (h3 : a3 = 0) : ¬ (0 ≤ a4 ∧ a4 < a1 ∧ 0 ≤ a5 ∧ a5 ≤ 3) := by omega
theorem or124 {a0 a1 a2 a3 : Int} (h0 : a0 < a1) (h1 : a1 = 0) : ¬ (0 ≤ a2 ∧ a2 < a3 ∧ 0 ≤ a0 ∧ a0 ≤ 3) := by omega
theorem or125 {a0 a1 : Int} (h0 : a0 ≤ 50) (h1 : a1 < a0) : a1 < 50 := oz1283 h0 h1
theorem or126 {a0 : Int} (h0 : a0 = 0) : a0 < 32 := oz1228 h0
theorem or127 {a0 a1 a2 : Int} (h0 : (a0 + 1) ≤ 900) (h1 : a1 = a0 + a2) (h2 : a2 = 1) : a1 ≤ 1000 := oz1334 h0 h1 h2
theorem or128 {a0 a1 : Int} (h0 : (a0 + 1) ≤ 39) (h1 : a1 = 1) : a0 + a1 ≤ 2147483647 := oz1335 h0 h1
theorem or129 {a0 : Int} (h0 : a0 = 0) (h1 : (0 : Int) ≤ a0) : a0 = 0 := oz1337 h0 h1
theorem or130 {a0 : Int}  : a0 = (a0 + 0) := oz1338
theorem or131 {a0 a1 a2 : Int} (h0 : (0 : Int) ≤ a0) (h1 : (a0 + 1) ≤ 39) (h2 : a1 = a0 + a2) (h3 : a2 = 1) : ((0 : Int) ≤ a1) ∧ ((a1 + 0) ≤ 39) := oz1340 h0 h1 h2 h3
theorem or132 {a0 a1 a2 a3 : Int} (h0 : a0 ≤ a1) (h1 : (a1 + 1) ≤ 900) (h2 : a2 = a1 + a3) (h3 : a0 = 24) (h4 : a3 = 1) : ((0 : Int) ≤ a2) ∧ ((a2 + 0) ≤ 900) := oz1341 h0 h1 h2 h3 h4
theorem or133 {a0 a1 a2 a3 : Int} (h0 : a0 = a1) (h1 : a1 = a2 + a3) (h2 : a3 = 1) : a0 = (a2 + 1) := oz1342 h0 h1 h2
theorem or134 {a0 a1 a2 : Int} (h0 : (0 : Int) ≤ a0) (h1 : (a0 + 1) ≤ 900) (h2 : a1 = a0 + a2) (h3 : a2 = 1) : ((0 : Int) ≤ a1) ∧ ((a1 + 0) ≤ 900) := oz1345 h0 h1 h2 h3
theorem or135 {a0 a1 : Int} (h0 : a0 ≤ a1) (h1 : (a1 + 1) ≤ 39) (h2 : a0 = 40) : False := oz1346 h0 h1 h2
theorem or136 {a0 a1 : Int} (h0 : a0 ≤ 50) (h1 : (0 : Int) ≤ a1) (h2 : a1 < a0) : ((0 : Int) ≤ a1) ∧ (a1 ≤ 49) := oz1347 h0 h1 h2
theorem or137 {a0 : Int} (h0 : a0 = 0) : ((0 : Int) ≤ a0) ∧ ((a0 + 1) ≤ 39) := oz1349 h0
theorem or138 {a0 a1 : Int} (h0 : a0 ≤ a1) (h1 : a1 = 0) (h2 : a0 = 0) : a1 = 0 := by omega
theorem or139 {a0 a1 a2 a3 a4 : Int} (h0 : a0 ≤ a1) (h1 : a1 < a2) (h2 : (0 : Int) ≤ a3) (h3 : a3 < a4) (h4 : a0 = 0) (h5 : a2 = 4) : 0 ≤ a3 ∧ a3 < a4 ∧ 0 ≤ a1 ∧ a1 ≤ 3 := by omega
theorem or140 {a0 : Int} (h0 : a0 = 1) : (0 : Int) ≤ a0 := oz246 h0
theorem or141 {a0 : Int} (h0 : a0 = 1) : a0 < 32 := oz1229 h0
theorem or142 {a0 a1 a2 : Int} (h0 : (a0 + 2) ≤ 900) (h1 : a1 = a0 + a2) (h2 : a2 = 1) : a1 ≤ 1000 := oz1351 h0 h1 h2
theorem or143 {a0 a1 : Int} (h0 : (a0 + 2) ≤ 39) (h1 : a1 = 1) : a0 + a1 ≤ 2147483647 := oz1352 h0 h1
theorem or144 {a0 : Int} (h0 : (0 : Int) ≤ a0) (h1 : (a0 + 1) ≤ 39) : ((0 : Int) ≤ a0) ∧ ((a0 + 1) ≤ 39) := oz1353 h0 h1
theorem or145 {a0 a1 a2 : Int} (h0 : (0 : Int) ≤ a0) (h1 : (a0 + 2) ≤ 39) (h2 : a1 = a0 + a2) (h3 : a2 = 1) : ((0 : Int) ≤ a1) ∧ ((a1 + 1) ≤ 39) := oz1356 h0 h1 h2 h3
theorem or146 {a0 a1 a2 a3 : Int} (h0 : a0 ≤ a1) (h1 : (a1 + 2) ≤ 900) (h2 : a2 = a1 + a3) (h3 : a0 = 24) (h4 : a3 = 1) : ((0 : Int) ≤ a2) ∧ ((a2 + 1) ≤ 900) := oz1357 h0 h1 h2 h3 h4
theorem or147 {a0 a1 a2 a3 : Int} (h0 : a0 = a1 + a2) (h1 : a3 = (a0 + 1)) (h2 : a2 = 1) : a3 = (a1 + 2) := oz1358 h0 h1 h2
theorem or148 {a0 a1 a2 : Int} (h0 : (0 : Int) ≤ a0) (h1 : (a0 + 2) ≤ 900) (h2 : a1 = a0 + a2) (h3 : a2 = 1) : ((0 : Int) ≤ a1) ∧ ((a1 + 1) ≤ 900) := oz1359 h0 h1 h2 h3
theorem or149 {a0 a1 : Int} (h0 : a0 ≤ a1) (h1 : (a1 + 2) ≤ 39) (h2 : a0 = 40) : False := oz1360 h0 h1 h2
theorem or150 {a0 : Int} (h0 : a0 = 0) : ((0 : Int) ≤ a0) ∧ ((a0 + 2) ≤ 39) := oz1361 h0
theorem or151 {a0 a1 a2 a3 : Int} (h0 : a0 < a1) (h1 : a0 = 1) (h2 : (0 : Int) ≤ a2) (h3 : a2 < a3) (h4 : a1 = 4) : 0 ≤ a2 ∧ a2 < a3 ∧ 0 ≤ a0 ∧ a0 ≤ 3 := by omega
theorem or152 {a0 : Int} (h0 : a0 = 2) : (0 : Int) ≤ a0 := oz256 h0
theorem or153 {a0 : Int} (h0 : a0 = 2) : a0 < 32 := oz1363 h0
theorem or154 {a0 a1 a2 a3 : Int} (h0 : a0 < a1) (h1 : a0 = 2) (h2 : (0 : Int) ≤ a2) (h3 : a2 < a3) (h4 : a1 = 4) : 0 ≤ a2 ∧ a2 < a3 ∧ 0 ≤ a0 ∧ a0 ≤ 3 := by omega
theorem or155 {a0 : Int} (h0 : a0 = 3) : (0 : Int) ≤ a0 := oz260 h0
theorem or156 {a0 : Int} (h0 : a0 = 3) : a0 < 32 := oz1364 h0
theorem or157 {a0 a1 a2 : Int} (h0 : (a0 + 4) ≤ 900) (h1 : a1 = a0 + a2) (h2 : a2 = 1) : a1 ≤ 1000 := oz1365 h0 h1 h2
theorem or158 {a0 a1 : Int} (h0 : (a0 + 3) ≤ 39) (h1 : a1 = 1) : a0 + a1 ≤ 2147483647 := oz1366 h0 h1
theorem or159 {a0 : Int} (h0 : (0 : Int) ≤ a0) (h1 : (a0 + 2) ≤ 39) : ((0 : Int) ≤ a0) ∧ ((a0 + 2) ≤ 39) := oz1367 h0 h1
theorem or160 {a0 : Int} (h0 : (0 : Int) ≤ a0) (h1 : (a0 + 3) ≤ 900) : ((0 : Int) ≤ a0) ∧ ((a0 + 2) ≤ 900) := oz1368 h0 h1
theorem or161 {a0 : Int} (h0 : (0 : Int) ≤ a0) (h1 : (a0 + 2) ≤ 39) : ((0 : Int) ≤ a0) ∧ ((a0 + 1) ≤ 39) := oz1369 h0 h1
theorem or162 {a0 a1 : Int} (h0 : (0 : Int) ≤ a0) (h1 : (a1 + 3) ≤ 900) (h2 : a0 = (a1 + 2)) : ((0 : Int) ≤ a0) ∧ ((a0 + 1) ≤ 900) := oz1370 h0 h1 h2
theorem or163 {a0 a1 a2 : Int} (h0 : a0 = (a1 + 2)) (h1 : a2 = (a0 + 1)) : a2 = (a1 + 3) := oz1371 h0 h1
theorem or164 {a0 a1 a2 : Int} (h0 : (0 : Int) ≤ a0) (h1 : (a0 + 3) ≤ 39) (h2 : a1 = a0 + a2) (h3 : a2 = 1) : ((0 : Int) ≤ a1) ∧ ((a1 + 2) ≤ 39) := oz1372 h0 h1 h2 h3
theorem or165 {a0 a1 a2 a3 : Int} (h0 : a0 ≤ a1) (h1 : (a1 + 4) ≤ 900) (h2 : a2 = a1 + a3) (h3 : a0 = 24) (h4 : a3 = 1) : ((0 : Int) ≤ a2) ∧ ((a2 + 3) ≤ 900) := oz1373 h0 h1 h2 h3 h4
theorem or166 {a0 a1 a2 a3 : Int} (h0 : a0 = a1 + a2) (h1 : a3 = (a0 + 3)) (h2 : a2 = 1) : a3 = (a1 + 4) := oz1374 h0 h1 h2
theorem or167 {a0 a1 a2 : Int} (h0 : (0 : Int) ≤ a0) (h1 : (a0 + 4) ≤ 900) (h2 : a1 = a0 + a2) (h3 : a2 = 1) : ((0 : Int) ≤ a1) ∧ ((a1 + 3) ≤ 900) := oz1375 h0 h1 h2 h3
theorem or168 {a0 a1 : Int} (h0 : a0 ≤ a1) (h1 : (a1 + 3) ≤ 39) (h2 : a0 = 40) : False := oz1376 h0 h1 h2
theorem or169 {a0 : Int} (h0 : a0 = 0) : ((0 : Int) ≤ a0) ∧ ((a0 + 3) ≤ 39) := oz1377 h0
theorem or170 {a0 a1 : Int} (h0 : a0 < a1) (h1 : a0 = 3) (h2 : a1 = 4) : a0 = 3 := by omega
theorem or171 {a0 a1 a2 a3 : Int} (h0 : a0 < a1) (h1 : a0 = 3) (h2 : (0 : Int) ≤ a2) (h3 : a2 < a3) (h4 : a1 = 4) : 0 ≤ a2 ∧ a2 < a3 ∧ 0 ≤ a0 ∧ a0 ≤ 3 := by omega
theorem or172 {a0 a1 a2 : Int} (h0 : a0 ≤ a1) (h1 : a1 < a2) (h2 : ¬ (a1 = 1)) (h3 : ¬ (a1 = 2)) (h4 : ¬ (a1 = 3)) (h5 : ¬ (a1 = 0)) (h6 : a0 = 0) (h7 : a2 = 4) : False := oz1379 h0 h1 h2 h3 h4 h5 h6 h7
theorem or173 {a0 : Int} (h0 : a0 = 4) : (0 : Int) ≤ a0 := oz262 h0
theorem or174 {a0 : Int} (h0 : a0 = 4) : a0 < 32 := oz1380 h0
theorem or175 {a0 : Int} (h0 : a0 = 1) : a0 < 8 := oz1382 h0
theorem or176 {a0 : Int} (h0 : a0 = 5) : (0 : Int) ≤ a0 := oz264 h0
theorem or178 {a0 a1 a2 : Int} (h0 : (a0 + 3) ≤ 900) (h1 : a1 = a0 + a2) (h2 : a2 = 1) : a1 ≤ 1000 := oz1385 h0 h1 h2
theorem or179 {a0 a1 a2 a3 : Int} (h0 : a0 ≤ a1) (h1 : (a1 + 3) ≤ 900) (h2 : a2 = a1 + a3) (h3 : a0 = 24) (h4 : a3 = 1) : ((0 : Int) ≤ a2) ∧ ((a2 + 2) ≤ 900) := oz1388 h0 h1 h2 h3 h4
theorem or180 {a0 a1 a2 a3 : Int} (h0 : a0 = a1 + a2) (h1 : a3 = (a0 + 2)) (h2 : a2 = 1) : a3 = (a1 + 3) := oz1389 h0 h1 h2
theorem or181 {a0 a1 a2 : Int} (h0 : (0 : Int) ≤ a0) (h1 : (a0 + 3) ≤ 900) (h2 : a1 = a0 + a2) (h3 : a2 = 1) : ((0 : Int) ≤ a1) ∧ ((a1 + 2) ≤ 900) := oz1390 h0 h1 h2 h3
theorem or182 {a0 : Int} (h0 : a0 = 6) : (0 : Int) ≤ a0 := oz1130 h0
theorem or184 {a0 : Int} (h0 : a0 = 7) : (0 : Int) ≤ a0 := oz1133 h0
theorem or186 {a0 a1 a2 : Int} (h0 : (a0 + 5) ≤ 900) (h1 : a1 = a0 + a2) (h2 : a2 = 1) : a1 ≤ 1000 := oz1394 h0 h1 h2
theorem or187 {a0 a1 : Int} (h0 : (a0 + 4) ≤ 39) (h1 : a1 = 1) : a0 + a1 ≤ 2147483647 := oz1395 h0 h1
theorem or188 {a0 : Int} (h0 : (0 : Int) ≤ a0) (h1 : (a0 + 3) ≤ 39) : ((0 : Int) ≤ a0) ∧ ((a0 + 3) ≤ 39) := oz1396 h0 h1
theorem or189 {a0 : Int} (h0 : (0 : Int) ≤ a0) (h1 : (a0 + 4) ≤ 900) : ((0 : Int) ≤ a0) ∧ ((a0 + 3) ≤ 900) := oz1397 h0 h1
theorem or190 {a0 : Int} (h0 : (0 : Int) ≤ a0) (h1 : (a0 + 3) ≤ 39) : ((0 : Int) ≤ a0) ∧ ((a0 + 1) ≤ 39) := oz1398 h0 h1
theorem or191 {a0 a1 : Int} (h0 : (0 : Int) ≤ a0) (h1 : (a1 + 4) ≤ 900) (h2 : a0 = (a1 + 3)) : ((0 : Int) ≤ a0) ∧ ((a0 + 1) ≤ 900) := oz1399 h0 h1 h2
theorem or192 {a0 a1 a2 : Int} (h0 : a0 = (a1 + 3)) (h1 : a2 = (a0 + 1)) : a2 = (a1 + 4) := oz1400 h0 h1
theorem or193 {a0 a1 a2 : Int} (h0 : (0 : Int) ≤ a0) (h1 : (a0 + 4) ≤ 39) (h2 : a1 = a0 + a2) (h3 : a2 = 1) : ((0 : Int) ≤ a1) ∧ ((a1 + 3) ≤ 39) := oz1401 h0 h1 h2 h3
theorem or194 {a0 a1 a2 a3 : Int} (h0 : a0 ≤ a1) (h1 : (a1 + 5) ≤ 900) (h2 : a2 = a1 + a3) (h3 : a0 = 24) (h4 : a3 = 1) : ((0 : Int) ≤ a2) ∧ ((a2 + 4) ≤ 900) := oz1402 h0 h1 h2 h3 h4
theorem or195 {a0 a1 a2 a3 : Int} (h0 : a0 = a1 + a2) (h1 : a3 = (a0 + 4)) (h2 : a2 = 1) : a3 = (a1 + 5) := oz1403 h0 h1 h2
theorem or196 {a0 a1 a2 : Int} (h0 : (0 : Int) ≤ a0) (h1 : (a0 + 5) ≤ 900) (h2 : a1 = a0 + a2) (h3 : a2 = 1) : ((0 : Int) ≤ a1) ∧ ((a1 + 4) ≤ 900) := oz1404 h0 h1 h2 h3
theorem or197 {a0 a1 : Int} (h0 : a0 ≤ a1) (h1 : (a1 + 4) ≤ 39) (h2 : a0 = 40) : False := oz1405 h0 h1 h2
theorem or198 {a0 : Int} (h0 : a0 = 0) : ((0 : Int) ≤ a0) ∧ ((a0 + 4) ≤ 39) := oz1406 h0
theorem or199 {a0 a1 a2 : Int} (h0 : a0 ≤ a1) (h1 : a1 < a2) (h2 : ¬ (a1 = 0)) (h3 : ¬ (a1 = 1)) (h4 : ¬ (a1 = 2)) (h5 : ¬ (a1 = 3)) (h6 : a0 = 0) (h7 : a2 = 4) : False := oz1408 h0 h1 h2 h3 h4 h5 h6 h7
theorem or202 {a0 : Int} (h0 : a0 = 2) : a0 < 8 := oz1410 h0
theorem or203 {a0 : Int} (h0 : a0 = 9) : (0 : Int) ≤ a0 := oz258 h0
theorem or204 {a0 : Int} (h0 : a0 = 9) : a0 < 32 := oz1413 h0
theorem or211 {a0 : Int} (h0 : a0 = 3) : a0 < 8 := oz1420 h0
theorem or212 {a0 : Int} (h0 : a0 = 13) : (0 : Int) ≤ a0 := oz1423 h0
theorem or213 {a0 : Int} (h0 : a0 = 13) : a0 < 32 := oz1424 h0
theorem or214 {a0 : Int} (h0 : a0 = 14) : (0 : Int) ≤ a0 := oz1425 h0
theorem or215 {a0 : Int} (h0 : a0 = 14) : a0 < 32 := oz1426 h0
theorem or218 {a0 a1 a2 : Int} (h0 : (a0 + 7) ≤ 900) (h1 : a1 = a0 + a2) (h2 : a2 = 1) : a1 ≤ 1000 := oz1429 h0 h1 h2
theorem or219 {a0 a1 : Int} (h0 : (a0 + 5) ≤ 39) (h1 : a1 = 1) : a0 + a1 ≤ 2147483647 := oz1430 h0 h1
theorem or220 {a0 : Int} (h0 : (0 : Int) ≤ a0) (h1 : (a0 + 4) ≤ 39) : ((0 : Int) ≤ a0) ∧ ((a0 + 4) ≤ 39) := oz1431 h0 h1
theorem or221 {a0 : Int} (h0 : (0 : Int) ≤ a0) (h1 : (a0 + 6) ≤ 900) : ((0 : Int) ≤ a0) ∧ ((a0 + 4) ≤ 900) := oz1432 h0 h1
theorem or222 {a0 : Int} (h0 : (0 : Int) ≤ a0) (h1 : (a0 + 4) ≤ 39) : ((0 : Int) ≤ a0) ∧ ((a0 + 2) ≤ 39) := oz1433 h0 h1
theorem or223 {a0 a1 : Int} (h0 : (0 : Int) ≤ a0) (h1 : (a1 + 6) ≤ 900) (h2 : a0 = (a1 + 4)) : ((0 : Int) ≤ a0) ∧ ((a0 + 2) ≤ 900) := oz1434 h0 h1 h2
theorem or224 {a0 a1 a2 : Int} (h0 : a0 = (a1 + 4)) (h1 : a2 = (a0 + 2)) : a2 = (a1 + 6) := oz1435 h0 h1
theorem or225 {a0 a1 a2 : Int} (h0 : (0 : Int) ≤ a0) (h1 : (a0 + 5) ≤ 39) (h2 : a1 = a0 + a2) (h3 : a2 = 1) : ((0 : Int) ≤ a1) ∧ ((a1 + 4) ≤ 39) := oz1436 h0 h1 h2 h3
theorem or226 {a0 a1 a2 a3 : Int} (h0 : a0 ≤ a1) (h1 : (a1 + 7) ≤ 900) (h2 : a2 = a1 + a3) (h3 : a0 = 24) (h4 : a3 = 1) : ((0 : Int) ≤ a2) ∧ ((a2 + 6) ≤ 900) := oz1437 h0 h1 h2 h3 h4
theorem or227 {a0 a1 a2 a3 : Int} (h0 : a0 = a1 + a2) (h1 : a3 = (a0 + 6)) (h2 : a2 = 1) : a3 = (a1 + 7) := oz1438 h0 h1 h2
theorem or228 {a0 a1 a2 : Int} (h0 : (0 : Int) ≤ a0) (h1 : (a0 + 7) ≤ 900) (h2 : a1 = a0 + a2) (h3 : a2 = 1) : ((0 : Int) ≤ a1) ∧ ((a1 + 6) ≤ 900) := oz1439 h0 h1 h2 h3
theorem or229 {a0 a1 : Int} (h0 : a0 ≤ a1) (h1 : (a1 + 5) ≤ 39) (h2 : a0 = 40) : False := oz1440 h0 h1 h2
theorem or230 {a0 : Int} (h0 : a0 = 0) : ((0 : Int) ≤ a0) ∧ ((a0 + 5) ≤ 39) := oz1441 h0
theorem or233 {a0 : Int} (h0 : a0 = 4) : a0 < 8 := oz1445 h0
theorem or236 {a0 : Int} (h0 : a0 = 18) : (0 : Int) ≤ a0 := oz195 h0
theorem or237 {a0 : Int} (h0 : a0 = 18) : a0 < 32 := oz1450 h0
theorem or238 {a0 a1 a2 : Int} (h0 : (0 : Int) ≤ a0) (h1 : (a0 + 3) ≤ 39) (h2 : a1 = a0 + a2) (h3 : a2 = 1) : ((0 : Int) ≤ a1) ∧ ((a1 + 1) ≤ 39) := oz1451 h0 h1 h2 h3
theorem or239 {a0 a1 a2 a3 : Int} (h0 : a0 ≤ a1) (h1 : (a1 + 4) ≤ 900) (h2 : a2 = a1 + a3) (h3 : a0 = 24) (h4 : a3 = 1) : ((0 : Int) ≤ a2) ∧ ((a2 + 1) ≤ 900) := oz1452 h0 h1 h2 h3 h4
theorem or240 {a0 a1 a2 a3 a4 : Int} (h0 : a0 ≤ a1) (h1 : (a1 + 4) ≤ 900) (h2 : a2 = a1 + a3) (h3 : a4 = (a2 + 1)) (h4 : a0 = 24) (h5 : a3 = 1) : ((0 : Int) ≤ a4) ∧ ((a4 + 2) ≤ 900) := oz1453 h0 h1 h2 h3 h4 h5
theorem or241 {a0 a1 a2 a3 a4 : Int} (h0 : a0 = a1 + a2) (h1 : a3 = (a0 + 1)) (h2 : a4 = (a3 + 2)) (h3 : a2 = 1) : a4 = (a1 + 4) := oz1454 h0 h1 h2 h3
theorem or242 {a0 a1 a2 : Int} (h0 : (0 : Int) ≤ a0) (h1 : (a0 + 4) ≤ 900) (h2 : a1 = a0 + a2) (h3 : a2 = 1) : ((0 : Int) ≤ a1) ∧ ((a1 + 1) ≤ 900) := oz1455 h0 h1 h2 h3
theorem or243 {a0 a1 a2 : Int} (h0 : a0 = 4) (h1 : a1 = a0) (h2 : a2 = a1) : a2 = 4 := oz1456 h0 h1 h2
theorem or244 {a0 a1 a2 a3 : Int} (h0 : (0 : Int) ≤ a0) (h1 : (a1 + 4) ≤ 900) (h2 : a2 = a1 + a3) (h3 : a0 = (a2 + 1)) (h4 : a3 = 1) : ((0 : Int) ≤ a0) ∧ ((a0 + 2) ≤ 900) := oz1457 h0 h1 h2 h3 h4
theorem or247 {a0 a1 a2 : Int} (h0 : (a0 + 8) ≤ 900) (h1 : a1 = a0 + a2) (h2 : a2 = 1) : a1 ≤ 1000 := oz1459 h0 h1 h2
theorem or248 {a0 : Int} (h0 : (0 : Int) ≤ a0) (h1 : (a0 + 7) ≤ 900) : ((0 : Int) ≤ a0) ∧ ((a0 + 3) ≤ 900) := oz1460 h0 h1
theorem or249 {a0 a1 : Int} (h0 : (0 : Int) ≤ a0) (h1 : (a1 + 7) ≤ 900) (h2 : a0 = (a1 + 3)) : ((0 : Int) ≤ a0) ∧ ((a0 + 4) ≤ 900) := oz1461 h0 h1 h2
theorem or250 {a0 a1 a2 : Int} (h0 : a0 = (a1 + 3)) (h1 : a2 = (a0 + 4)) : a2 = (a1 + 7) := oz1462 h0 h1
theorem or251 {a0 a1 a2 a3 : Int} (h0 : a0 ≤ a1) (h1 : (a1 + 8) ≤ 900) (h2 : a2 = a1 + a3) (h3 : a0 = 24) (h4 : a3 = 1) : ((0 : Int) ≤ a2) ∧ ((a2 + 7) ≤ 900) := oz1463 h0 h1 h2 h3 h4
theorem or252 {a0 a1 a2 a3 : Int} (h0 : a0 = a1 + a2) (h1 : a3 = (a0 + 7)) (h2 : a2 = 1) : a3 = (a1 + 8) := oz1464 h0 h1 h2
theorem or253 {a0 a1 a2 : Int} (h0 : (0 : Int) ≤ a0) (h1 : (a0 + 8) ≤ 900) (h2 : a1 = a0 + a2) (h3 : a2 = 1) : ((0 : Int) ≤ a1) ∧ ((a1 + 7) ≤ 900) := oz1465 h0 h1 h2 h3
theorem or254 {a0 a1 a2 : Int} (h0 : a0 ≤ a1) (h1 : a1 < a2) (h2 : ¬ (a1 = 2)) (h3 : ¬ (a1 = 3)) (h4 : ¬ (a1 = 0)) (h5 : ¬ (a1 = 1)) (h6 : a0 = 0) (h7 : a2 = 4) : False := by omega
theorem or257 {a0 : Int} (h0 : a0 = 5) : a0 < 8 := oz1469 h0
theorem or262 {a0 : Int} (h0 : a0 = 23) : (0 : Int) ≤ a0 := oz1476 h0
theorem or263 {a0 : Int} (h0 : a0 = 23) : a0 < 32 := oz1477 h0
theorem or264 {a0 a1 : Int} (h0 : (a0 + 6) ≤ 39) (h1 : a1 = 1) : a0 + a1 ≤ 2147483647 := oz1478 h0 h1
theorem or265 {a0 a1 a2 : Int} (h0 : (0 : Int) ≤ a0) (h1 : (a0 + 6) ≤ 39) (h2 : a1 = a0 + a2) (h3 : a2 = 1) : ((0 : Int) ≤ a1) ∧ ((a1 + 5) ≤ 39) := oz1479 h0 h1 h2 h3
theorem or266 {a0 a1 : Int} (h0 : a0 ≤ a1) (h1 : (a1 + 6) ≤ 39) (h2 : a0 = 40) : False := oz1480 h0 h1 h2
theorem or267 {a0 : Int} (h0 : a0 = 0) : ((0 : Int) ≤ a0) ∧ ((a0 + 6) ≤ 39) := oz1481 h0
theorem or268 {a0 : Int} (h0 : a0 = 24) : (0 : Int) ≤ a0 := oz1482 h0
theorem or269 {a0 : Int} (h0 : a0 = 24) : a0 < 32 := oz1483 h0
theorem or270 {a0 : Int} (h0 : a0 = 6) : a0 < 8 := oz1485 h0
theorem or279 {a0 : Int} (h0 : a0 = 7) : a0 < 8 := oz1494 h0
theorem or280 {a0 : Int} (h0 : a0 = 29) : (0 : Int) ≤ a0 := oz1498 h0
theorem or281 {a0 : Int} (h0 : a0 = 29) : a0 < 32 := oz1499 h0
theorem or282 {a0 : Int} (h0 : a0 = 7) : a0 = 7 := oz1500 h0
theorem or283 {a0 a1 a2 a3 : Int} (h0 : a0 ≤ a1) (h1 : (a1 + 8) ≤ 900) (h2 : a2 = a1 + a3) (h3 : a0 = 24) (h4 : a3 = 1) : ((0 : Int) ≤ a2) ∧ ((a2 + 3) ≤ 900) := oz1501 h0 h1 h2 h3 h4
theorem or286 {a0 a1 a2 : Int} (h0 : a0 = 7) (h1 : a1 ≤ 7) (h2 : a2 = a0) (h3 : a1 = a2) : a1 = 7 := oz1504 h0 h1 h2 h3
theorem or287 {a0 a1 a2 a3 a4 : Int} (h0 : a0 ≤ a1) (h1 : (a1 + 8) ≤ 900) (h2 : a2 = a1 + a3) (h3 : a4 = (a2 + 3)) (h4 : a0 = 24) (h5 : a3 = 1) : ((0 : Int) ≤ a4) ∧ ((a4 + 4) ≤ 900) := oz1505 h0 h1 h2 h3 h4 h5
theorem or288 {a0 a1 a2 a3 a4 : Int} (h0 : a0 = a1 + a2) (h1 : a3 = (a0 + 3)) (h2 : a4 = (a3 + 4)) (h3 : a2 = 1) : a4 = (a1 + 8) := oz1506 h0 h1 h2 h3
theorem or289 {a0 a1 a2 : Int} (h0 : (0 : Int) ≤ a0) (h1 : (a0 + 8) ≤ 900) (h2 : a1 = a0 + a2) (h3 : a2 = 1) : ((0 : Int) ≤ a1) ∧ ((a1 + 3) ≤ 900) := oz1507 h0 h1 h2 h3
theorem or290 {a0 a1 a2 a3 : Int} (h0 : (0 : Int) ≤ a0) (h1 : (a1 + 8) ≤ 900) (h2 : a2 = a1 + a3) (h3 : a0 = (a2 + 3)) (h4 : a3 = 1) : ((0 : Int) ≤ a0) ∧ ((a0 + 4) ≤ 900) := oz1508 h0 h1 h2 h3 h4
theorem or291 {a0 : Int} (h0 : a0 = 31) : (0 : Int) ≤ a0 := oz1509 h0
theorem or292 {a0 : Int} (h0 : a0 = 31) : a0 < 32 := oz1510 h0
theorem or293 {a0 a1 a2 : Int} (h0 : (a0 + 14) ≤ 900) (h1 : a1 = a0 + a2) (h2 : a2 = 1) : a1 ≤ 1000 := oz1511 h0 h1 h2
theorem or294 {a0 a1 a2 : Int} (h0 : (a0 + 13) ≤ 900) (h1 : a1 = a0 + a2) (h2 : a2 = 1) : a1 ≤ 1000 := oz1512 h0 h1 h2
theorem or295 {a0 : Int} (h0 : (0 : Int) ≤ a0) (h1 : (a0 + 12) ≤ 900) : ((0 : Int) ≤ a0) ∧ ((a0 + 8) ≤ 900) := oz1513 h0 h1
theorem or296 {a0 : Int} (h0 : (0 : Int) ≤ a0) (h1 : (a0 + 4) ≤ 39) : ((0 : Int) ≤ a0) ∧ ((a0 + 3) ≤ 39) := oz1514 h0 h1
theorem or297 {a0 a1 : Int} (h0 : (0 : Int) ≤ a0) (h1 : (a1 + 12) ≤ 900) (h2 : a0 = (a1 + 8)) : ((0 : Int) ≤ a0) ∧ ((a0 + 4) ≤ 900) := oz1515 h0 h1 h2
theorem or298 {a0 a1 a2 : Int} (h0 : a0 = (a1 + 8)) (h1 : a2 = (a0 + 4)) : a2 = (a1 + 12) := oz1516 h0 h1
theorem or299 {a0 a1 a2 a3 : Int} (h0 : a0 ≤ a1) (h1 : (a1 + 13) ≤ 900) (h2 : a2 = a1 + a3) (h3 : a0 = 24) (h4 : a3 = 1) : ((0 : Int) ≤ a2) ∧ ((a2 + 12) ≤ 900) := oz1517 h0 h1 h2 h3 h4
theorem or300 {a0 a1 a2 a3 : Int} (h0 : a0 = a1 + a2) (h1 : a3 = (a0 + 12)) (h2 : a2 = 1) : a3 = (a1 + 13) := oz1518 h0 h1 h2
theorem or301 {a0 a1 a2 : Int} (h0 : (0 : Int) ≤ a0) (h1 : (a0 + 13) ≤ 900) (h2 : a1 = a0 + a2) (h3 : a2 = 1) : ((0 : Int) ≤ a1) ∧ ((a1 + 12) ≤ 900) := oz1519 h0 h1 h2 h3
theorem or302 {a0 a1 a2 a3 : Int} (h0 : a0 ≤ a1) (h1 : (a1 + 14) ≤ 900) (h2 : a2 = a1 + a3) (h3 : a0 = 24) (h4 : a3 = 1) : ((0 : Int) ≤ a2) ∧ ((a2 + 13) ≤ 900) := oz1520 h0 h1 h2 h3 h4
theorem or303 {a0 a1 a2 a3 : Int} (h0 : a0 = a1 + a2) (h1 : a3 = (a0 + 13)) (h2 : a2 = 1) : a3 = (a1 + 14) := oz1521 h0 h1 h2
theorem or304 {a0 a1 a2 : Int} (h0 : (0 : Int) ≤ a0) (h1 : (a0 + 14) ≤ 900) (h2 : a1 = a0 + a2) (h3 : a2 = 1) : ((0 : Int) ≤ a1) ∧ ((a1 + 13) ≤ 900) := oz1522 h0 h1 h2 h3
theorem or305 {a0 : Int} (h0 : (0 : Int) ≤ a0) (h1 : a0 ≤ 7) (h2 : ¬ (a0 = 5)) (h3 : ¬ (a0 = 6)) (h4 : ¬ (a0 = 7)) (h5 : ¬ (a0 = 1)) (h6 : ¬ (a0 = 2)) (h7 : ¬ (a0 = 3)) (h8 : ¬ (a0 = 0)) (h9 : ¬ (a0 = 4)) : False := by omega
theorem or306 {a0 a1 a2 a3 : Int} (h0 : a0 ≤ a1) (h1 : a0 = 4) : ¬ (0 ≤ a2 ∧ a2 < a3 ∧ 0 ≤ a1 ∧ a1 ≤ 3) := by omega
theorem or307 {a0 a1 a2 : Int} (h0 : ¬ (((0 : Int) ≤ a0) ∧ (a0 < a1))) : ¬ (0 ≤ a0 ∧ a0 < a1 ∧ 0 ≤ a2 ∧ a2 ≤ 3) := by omega
def yw209_116 : kW := ([7457], [135], [], [])
