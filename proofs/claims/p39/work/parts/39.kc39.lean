theorem kn27 : (27 : Int32).toInt = 27 := by decide
theorem kn28 : (28 : Int32).toInt = 28 := by decide
theorem kn29 : (29 : Int32).toInt = 29 := by decide
theorem oz1478 {a0 a1 : Int} (h0 : (a0 + 6) ≤ 39) (h1 : a1 = 1) : a0 + a1 ≤ 2147483647 := by omega
theorem oz1479 {a0 a1 a2 : Int} (h0 : (0 : Int) ≤ a0) (h1 : (a0 + 6) ≤ 39) (h2 : a1 = a0 + a2) (h3 : a2 = 1) : ((0 : Int) ≤ a1) ∧ ((a1 + 5) ≤ 39) := by omega
theorem oz1480 {a0 a1 : Int} (h0 : a0 ≤ a1) (h1 : (a1 + 6) ≤ 39) (h2 : a0 = 40) : False := by omega
theorem oz1481 {a0 : Int} (h0 : a0 = 0) : ((0 : Int) ≤ a0) ∧ ((a0 + 6) ≤ 39) := by omega
theorem oz1482 {a0 : Int} (h0 : a0 = 24) : (0 : Int) ≤ a0 := by omega
theorem oz1483 {a0 : Int} (h0 : a0 = 24) : a0 < 32 := by omega
theorem oz1484 {a0 : Int} (h0 : a0 = 6) : a0 = 6 := by omega
theorem oz1485 {a0 : Int} (h0 : a0 = 6) : a0 < 8 := by omega
theorem oz1486 {a0 a1 : Int} (h0 : a0 = 6) (h1 : a1 = a0) : a1 = 6 := by omega
theorem oz1487 {a0 : Int} (h0 : a0 = 25) : a0 < 32 := by omega
theorem oz1488 {a0 : Int} (h0 : a0 = 26) : (0 : Int) ≤ a0 := by omega
theorem oz1489 {a0 : Int} (h0 : a0 = 26) : a0 < 32 := by omega
theorem oz1490 {a0 : Int} (h0 : a0 = 27) : (0 : Int) ≤ a0 := by omega
theorem oz1491 {a0 : Int} (h0 : a0 = 27) : a0 < 32 := by omega
theorem oz1492 {a0 : Int} (h0 : a0 = 28) : (0 : Int) ≤ a0 := by omega
theorem oz1493 {a0 : Int} (h0 : a0 = 28) : a0 < 32 := by omega
theorem oz1494 {a0 : Int} (h0 : a0 = 7) : a0 < 8 := by omega
theorem oz1495 {a0 : Int} (h0 : a0 = 7) (h1 : a0 ≤ 7) : a0 = 7 := by omega
theorem oz1496 {a0 a1 : Int} (h0 : a0 = 7) (h1 : a1 ≤ 7) (h2 : a1 = a0) : a1 = 7 := by omega
theorem oz1497 {a0 : Int} (h0 : a0 ≤ 7) (h1 : a0 = 7) : a0 = 7 := by omega
theorem oz1498 {a0 : Int} (h0 : a0 = 29) : (0 : Int) ≤ a0 := by omega
theorem oz1499 {a0 : Int} (h0 : a0 = 29) : a0 < 32 := by omega
theorem oz1500 {a0 : Int} (h0 : a0 = 7) : a0 = 7 := by omega
theorem oz1501 {a0 a1 a2 a3 : Int} (h0 : a0 ≤ a1) (h1 : (a1 + 8) ≤ 900) (h2 : a2 = a1 + a3) (h3 : a0 = 24) (h4 : a3 = 1) : ((0 : Int) ≤ a2) ∧ ((a2 + 3) ≤ 900) := by omega
theorem oz1502 {a0 : Int} (h0 : a0 = 30) : (0 : Int) ≤ a0 := by omega
theorem oz1503 {a0 : Int} (h0 : a0 = 30) : a0 < 32 := by omega
theorem oz1504 {a0 a1 a2 : Int} (h0 : a0 = 7) (h1 : a1 ≤ 7) (h2 : a2 = a0) (h3 : a1 = a2) : a1 = 7 := by omega
theorem oz1505 {a0 a1 a2 a3 a4 : Int} (h0 : a0 ≤ a1) (h1 : (a1 + 8) ≤ 900) (h2 : a2 = a1 + a3) (h3 : a4 = (a2 + 3)) (h4 : a0 = 24) (h5 : a3 = 1) : ((0 : Int) ≤ a4) ∧ ((a4 + 4) ≤ 900) := by omega
theorem oz1506 {a0 a1 a2 a3 a4 : Int} (h0 : a0 = a1 + a2) (h1 : a3 = (a0 + 3)) (h2 : a4 = (a3 + 4)) (h3 : a2 = 1) : a4 = (a1 + 8) := by omega
theorem oz1507 {a0 a1 a2 : Int} (h0 : (0 : Int) ≤ a0) (h1 : (a0 + 8) ≤ 900) (h2 : a1 = a0 + a2) (h3 : a2 = 1) : ((0 : Int) ≤ a1) ∧ ((a1 + 3) ≤ 900) := by omega
theorem oz1508 {a0 a1 a2 a3 : Int} (h0 : (0 : Int) ≤ a0) (h1 : (a1 + 8) ≤ 900) (h2 : a2 = a1 + a3) (h3 : a0 = (a2 + 3)) (h4 : a3 = 1) : ((0 : Int) ≤ a0) ∧ ((a0 + 4) ≤ 900) := by omega
theorem oz1509 {a0 : Int} (h0 : a0 = 31) : (0 : Int) ≤ a0 := by omega
theorem oz1510 {a0 : Int} (h0 : a0 = 31) : a0 < 32 := by omega
theorem oz1511 {a0 a1 a2 : Int} (h0 : (a0 + 14) ≤ 900) (h1 : a1 = a0 + a2) (h2 : a2 = 1) : a1 ≤ 1000 := by omega
theorem oz1512 {a0 a1 a2 : Int} (h0 : (a0 + 13) ≤ 900) (h1 : a1 = a0 + a2) (h2 : a2 = 1) : a1 ≤ 1000 := by omega
theorem oz1513 {a0 : Int} (h0 : (0 : Int) ≤ a0) (h1 : (a0 + 12) ≤ 900) : ((0 : Int) ≤ a0) ∧ ((a0 + 8) ≤ 900) := by omega
theorem oz1514 {a0 : Int} (h0 : (0 : Int) ≤ a0) (h1 : (a0 + 4) ≤ 39) : ((0 : Int) ≤ a0) ∧ ((a0 + 3) ≤ 39) := by omega
theorem oz1515 {a0 a1 : Int} (h0 : (0 : Int) ≤ a0) (h1 : (a1 + 12) ≤ 900) (h2 : a0 = (a1 + 8)) : ((0 : Int) ≤ a0) ∧ ((a0 + 4) ≤ 900) := by omega
theorem oz1516 {a0 a1 a2 : Int} (h0 : a0 = (a1 + 8)) (h1 : a2 = (a0 + 4)) : a2 = (a1 + 12) := by omega
theorem oz1517 {a0 a1 a2 a3 : Int} (h0 : a0 ≤ a1) (h1 : (a1 + 13) ≤ 900) (h2 : a2 = a1 + a3) (h3 : a0 = 24) (h4 : a3 = 1) : ((0 : Int) ≤ a2) ∧ ((a2 + 12) ≤ 900) := by omega
theorem oz1518 {a0 a1 a2 a3 : Int} (h0 : a0 = a1 + a2) (h1 : a3 = (a0 + 12)) (h2 : a2 = 1) : a3 = (a1 + 13) := by omega
theorem oz1519 {a0 a1 a2 : Int} (h0 : (0 : Int) ≤ a0) (h1 : (a0 + 13) ≤ 900) (h2 : a1 = a0 + a2) (h3 : a2 = 1) : ((0 : Int) ≤ a1) ∧ ((a1 + 12) ≤ 900) := by omega
theorem oz1520 {a0 a1 a2 a3 : Int} (h0 : a0 ≤ a1) (h1 : (a1 + 14) ≤ 900) (h2 : a2 = a1 + a3) (h3 : a0 = 24) (h4 : a3 = 1) : ((0 : Int) ≤ a2) ∧ ((a2 + 13) ≤ 900) := by omega
theorem oz1521 {a0 a1 a2 a3 : Int} (h0 : a0 = a1 + a2) (h1 : a3 = (a0 + 13)) (h2 : a2 = 1) : a3 = (a1 + 14) := by omega
theorem oz1522 {a0 a1 a2 : Int} (h0 : (0 : Int) ≤ a0) (h1 : (a0 + 14) ≤ 900) (h2 : a1 = a0 + a2) (h3 : a2 = 1) : ((0 : Int) ≤ a1) ∧ ((a1 + 13) ≤ 900) := by omega
theorem oz1523 {a0 : Int} (h0 : a0 = 0) : ((0 : Int) ≤ a0) ∧ ((a0 + 14) ≤ 900) := by omega
theorem oz1525 {a0 a1 a2 a3 : Int} (h0 : a0 ≤ 50) (h1 : a1 = a0 - a2) (h2 : a3 ≤ a1) (h3 : a2 = 1) : a3 < 50 := by omega
theorem oz1526 {a0 a1 a2 : Int} (h0 : a0 ≤ 999) (h1 : a1 = a0 + a2) (h2 : a2 = 1) : a1 ≤ 1000 := by omega
theorem oz1527 {a0 : Int} (h0 : (0 : Int) ≤ a0) (h1 : (a0 + 4) ≤ 900) : ((0 : Int) ≤ a0) ∧ (a0 ≤ 999) := by omega
theorem oz1528 {a0 : Int} (h0 : (0 : Int) ≤ a0) (h1 : (a0 + 2) ≤ 900) : ((0 : Int) ≤ a0) ∧ (a0 ≤ 999) := by omega
theorem oz1529 {a0 : Int} (h0 : (0 : Int) ≤ a0) (h1 : (a0 + 1) ≤ 900) : ((0 : Int) ≤ a0) ∧ (a0 ≤ 999) := by omega
theorem oz1530 {a0 a1 : Int} (h0 : (0 : Int) ≤ a0) (h1 : (a1 + 2) ≤ 900) (h2 : a0 = (a1 + 1)) : ((0 : Int) ≤ a0) ∧ ((a0 + 1) ≤ 900) := by omega
theorem oz1531 {a0 a1 a2 : Int} (h0 : a0 = (a1 + 1)) (h1 : a2 = (a0 + 1)) : a2 = (a1 + 2) := by omega
theorem oz1532 {a0 a1 : Int} (h0 : (0 : Int) ≤ a0) (h1 : (a1 + 4) ≤ 900) (h2 : a0 = (a1 + 1)) : ((0 : Int) ≤ a0) ∧ ((a0 + 2) ≤ 900) := by omega
theorem oz1534 {a0 a1 a2 : Int} (h0 : (0 : Int) ≤ a0) (h1 : (a1 + 4) ≤ 900) (h2 : a2 = (a1 + 1)) (h3 : a0 = (a2 + 2)) : ((0 : Int) ≤ a0) ∧ ((a0 + 1) ≤ 900) := by omega
theorem oz1535 {a0 a1 a2 a3 : Int} (h0 : a0 = (a1 + 1)) (h1 : a2 = (a3 + 1)) (h2 : a1 = (a2 + 2)) : a0 = (a3 + 4) := by omega
theorem oz1536 {a0 a1 a2 a3 a4 : Int} (h0 : a0 ≤ 50) (h1 : a1 = a0 - a2) (h2 : a3 ≤ a4) (h3 : a4 ≤ a1) (h4 : a2 = 1) (h5 : a3 = 0) : ((0 : Int) ≤ a4) ∧ (a4 ≤ 49) := by omega
theorem oz1537 {a0 : Int} (h0 : (0 : Int) ≤ a0) (h1 : (a0 + 5) ≤ 900) : ((0 : Int) ≤ a0) ∧ (a0 ≤ 999) := by omega
theorem oz1538 {a0 : Int} (h0 : (0 : Int) ≤ a0) (h1 : (a0 + 3) ≤ 900) : ((0 : Int) ≤ a0) ∧ (a0 ≤ 999) := by omega
theorem oz1539 {a0 a1 : Int} (h0 : (0 : Int) ≤ a0) (h1 : (a1 + 3) ≤ 900) (h2 : a0 = (a1 + 1)) : ((0 : Int) ≤ a0) ∧ ((a0 + 2) ≤ 900) := by omega
theorem oz1540 {a0 a1 a2 : Int} (h0 : a0 = (a1 + 1)) (h1 : a2 = (a0 + 2)) : a2 = (a1 + 3) := by omega
theorem oz1541 {a0 : Int} (h0 : (0 : Int) ≤ a0) (h1 : (a0 + 3) ≤ 900) : ((0 : Int) ≤ a0) ∧ ((a0 + 3) ≤ 900) := by omega
theorem oz1542 {a0 a1 : Int} (h0 : a0 = (a1 + 3)) : a0 = (a1 + 3) := by omega
theorem oz1543 {a0 a1 : Int} (h0 : (0 : Int) ≤ a0) (h1 : (a1 + 5) ≤ 900) (h2 : a0 = (a1 + 1)) : ((0 : Int) ≤ a0) ∧ ((a0 + 3) ≤ 900) := by omega
theorem oz1545 {a0 a1 a2 : Int} (h0 : (0 : Int) ≤ a0) (h1 : (a1 + 5) ≤ 900) (h2 : a2 = (a1 + 1)) (h3 : a0 = (a2 + 3)) : ((0 : Int) ≤ a0) ∧ ((a0 + 1) ≤ 900) := by omega
theorem oz1546 {a0 a1 a2 a3 : Int} (h0 : a0 = (a1 + 1)) (h1 : a2 = (a3 + 1)) (h2 : a1 = (a2 + 3)) : a0 = (a3 + 5) := by omega
theorem oz1547 {a0 : Int} (h0 : (0 : Int) ≤ a0) (h1 : (a0 + 5) ≤ 900) : ((0 : Int) ≤ a0) ∧ ((a0 + 5) ≤ 900) := by omega
theorem oz1548 {a0 a1 : Int} (h0 : a0 = (a1 + 5)) : a0 = (a1 + 5) := by omega
set_option maxRecDepth 100000 in
theorem kc11_l06_l10 {i : Nat → Int32} {a : Nat → List Int32} {q : Nat → List Int64} {r : Nat → Nat} (hI : kI i a q) (hr : kr r)  : km 1 11 [.int 6, .int 0] (ks i a q r) (kPI (ks i a q r) (fun v => v.toInt = 6)) := by
  have hG := kG_self kW0 hI hr
  refine km_ofPI (q := (mi_h11, mi_c11)) rfl (by decide) (Nat.le_of_ble_eq_true rfl) ?_
  intro P hP
  refine ft_go mi_k11 16 26 [(3, .int 0), (2, .int 6), (0, .int 6), (1, .int 0)] [.int (6 * 4), .ref (mi_RO + 3)] i a q r (by rfl) ?_
  refine ko_eq (x1 := (26, [(3, .int 0), (2, .int 6), (0, .int 6), (1, .int 0)], [.int 24, .ref (mi_RO + 3)], (0, 0), ks i a q r)) (by rw [(by decide : (6 * 4 : Int32) = 24)]) ?_
  refine ft_go mi_k11 2 28 [(3, .int 0), (2, .int 6), (0, .int 6), (1, .int 0)] [.int (24 + 0), .ref (mi_RO + 3)] i a q r (by rfl) ?_
  refine ko_eq (x1 := (28, [(3, .int 0), (2, .int 6), (0, .int 6), (1, .int 0)], [.int 24, .ref (mi_RO + 3)], (0, 0), ks i a q r)) (by rw [(by decide : (24 + 0 : Int32) = 24)]) ?_
  refine ko_iaro2 mi_k11.1 (l := [1, 10, 11, 2, 20, 0, 0, 0, 0, 30, 0, 0, 0, 41, 40, 0, 0, 0, 50, 0, 0, 0, 0, 60, 70, 0, 0, 0, 0, 80, 0, 81]) (n := 32) (c := 32) (ax := (0, 0, 0, 0, 0)) (mi_k11.2 _ _ (by rfl)) (by rfl) (by rfl) rfl rfl (oz1482 kn24) (oz1483 kn24) ?_
  have r1 : ((0 : Int) ≤ (([1, 10, 11, 2, 20, 0, 0, 0, 0, 30, 0, 0, 0, 41, 40, 0, 0, 0, 50, 0, 0, 0, 0, 60, 70, 0, 0, 0, 0, 80, 0, 81] : List Int32).getD (24 : Int32).toNatClampNeg 0).toInt) ∧ ((([1, 10, 11, 2, 20, 0, 0, 0, 0, 30, 0, 0, 0, 41, 40, 0, 0, 0, 50, 0, 0, 0, 0, 60, 70, 0, 0, 0, 0, 80, 0, 81] : List Int32).getD (24 : Int32).toNatClampNeg 0).toInt ≤ 81) := kro_rng (lo := 0) (hi := 81) (by decide) ((24 : Int32).toNatClampNeg)
  refine ko_eq (x1 := (29, [(3, .int 0), (2, .int 6), (0, .int 6), (1, .int 0)], [.int 70], (0, 0), ks i a q r)) (by rw [(by decide : (([1, 10, 11, 2, 20, 0, 0, 0, 0, 30, 0, 0, 0, 41, 40, 0, 0, 0, 50, 0, 0, 0, 0, 60, 70, 0, 0, 0, 0, 80, 0, 81] : List Int32).getD (24 : Int32).toNatClampNeg 0) = 70)]) ?_
  refine ft_go mi_k11 2 33 [(3, .int 0), (2, .int 6), (0, .int 6), (1, .int 0)] [.int 6] i a q r (by rfl) ?_
  exact ft_ret mi_k11 (by rfl) (hP 6 (oz1484 kn6))
set_option maxRecDepth 100000 in
theorem kc11_l06_l11 {i : Nat → Int32} {a : Nat → List Int32} {q : Nat → List Int64} {r : Nat → Nat} (hI : kI i a q) (hr : kr r)  : km 1 11 [.int 6, .int 1] (ks i a q r) (kPI (ks i a q r) (fun v => v.toInt = 0)) := by
  have hG := kG_self kW0 hI hr
  refine km_ofPI (q := (mi_h11, mi_c11)) rfl (by decide) (Nat.le_of_ble_eq_true rfl) ?_
  intro P hP
  refine ft_go mi_k11 16 26 [(3, .int 0), (2, .int 6), (0, .int 6), (1, .int 1)] [.int (6 * 4), .ref (mi_RO + 3)] i a q r (by rfl) ?_
  refine ko_eq (x1 := (26, [(3, .int 0), (2, .int 6), (0, .int 6), (1, .int 1)], [.int 24, .ref (mi_RO + 3)], (0, 0), ks i a q r)) (by rw [(by decide : (6 * 4 : Int32) = 24)]) ?_
  refine ft_go mi_k11 2 28 [(3, .int 0), (2, .int 6), (0, .int 6), (1, .int 1)] [.int (24 + 1), .ref (mi_RO + 3)] i a q r (by rfl) ?_
  refine ko_eq (x1 := (28, [(3, .int 0), (2, .int 6), (0, .int 6), (1, .int 1)], [.int 25, .ref (mi_RO + 3)], (0, 0), ks i a q r)) (by rw [(by decide : (24 + 1 : Int32) = 25)]) ?_
  refine ko_iaro2 mi_k11.1 (l := [1, 10, 11, 2, 20, 0, 0, 0, 0, 30, 0, 0, 0, 41, 40, 0, 0, 0, 50, 0, 0, 0, 0, 60, 70, 0, 0, 0, 0, 80, 0, 81]) (n := 32) (c := 32) (ax := (0, 0, 0, 0, 0)) (mi_k11.2 _ _ (by rfl)) (by rfl) (by rfl) rfl rfl (oz339 kn25) (oz1487 kn25) ?_
  have r1 : ((0 : Int) ≤ (([1, 10, 11, 2, 20, 0, 0, 0, 0, 30, 0, 0, 0, 41, 40, 0, 0, 0, 50, 0, 0, 0, 0, 60, 70, 0, 0, 0, 0, 80, 0, 81] : List Int32).getD (25 : Int32).toNatClampNeg 0).toInt) ∧ ((([1, 10, 11, 2, 20, 0, 0, 0, 0, 30, 0, 0, 0, 41, 40, 0, 0, 0, 50, 0, 0, 0, 0, 60, 70, 0, 0, 0, 0, 80, 0, 81] : List Int32).getD (25 : Int32).toNatClampNeg 0).toInt ≤ 81) := kro_rng (lo := 0) (hi := 81) (by decide) ((25 : Int32).toNatClampNeg)
  refine ko_eq (x1 := (29, [(3, .int 0), (2, .int 6), (0, .int 6), (1, .int 1)], [.int 0], (0, 0), ks i a q r)) (by rw [(by decide : (([1, 10, 11, 2, 20, 0, 0, 0, 0, 30, 0, 0, 0, 41, 40, 0, 0, 0, 50, 0, 0, 0, 0, 60, 70, 0, 0, 0, 0, 80, 0, 81] : List Int32).getD (25 : Int32).toNatClampNeg 0) = 0)]) ?_
  refine ft_go mi_k11 3 38 [(3, .int 0), (2, .int 6), (0, .int 6), (1, .int 1)] [.int 6, .ref (mi_RO + 4)] i a q r (by rfl) ?_
  refine ko_iaro2 mi_k11.1 (l := [(-1), 0, 0, 2, 1, 3, 0, 4]) (n := 8) (c := 8) (ax := (0, 0, 0, 0, 0)) (mi_k11.2 _ _ (by rfl)) (by rfl) (by rfl) rfl rfl (oz1130 kn6) (oz1485 kn6) ?_
  have r2 : ((-1 : Int) ≤ (([(-1), 0, 0, 2, 1, 3, 0, 4] : List Int32).getD (6 : Int32).toNatClampNeg 0).toInt) ∧ ((([(-1), 0, 0, 2, 1, 3, 0, 4] : List Int32).getD (6 : Int32).toNatClampNeg 0).toInt ≤ 4) := kro_rng (lo := -1) (hi := 4) (by decide) ((6 : Int32).toNatClampNeg)
  refine ko_eq (x1 := (39, [(3, .int 0), (2, .int 6), (0, .int 6), (1, .int 1)], [.int 0], (0, 0), ks i a q r)) (by rw [(by decide : (([(-1), 0, 0, 2, 1, 3, 0, 4] : List Int32).getD (6 : Int32).toNatClampNeg 0) = 0)]) ?_
  refine ft_go mi_k11 2 43 [(3, .int (0 + 1)), (2, .int 0), (0, .int 6), (1, .int 1)] [] i a q r (by rfl) ?_
  refine ko_eq (x1 := (43, [(3, .int 1), (2, .int 0), (0, .int 6), (1, .int 1)], [], (0, 0), ks i a q r)) (by rw [(by decide : (0 + 1 : Int32) = 1)]) ?_
  refine ft_go mi_k11 7 47 [(3, .int 1), (2, .int 0), (0, .int 6), (1, .int 1)] [.int 0] i a q r (by rfl) ?_
  exact ft_ret mi_k11 (by rfl) (hP 0 (oz236 kn0))
set_option maxRecDepth 100000 in
theorem kc11_l06_l12 {i : Nat → Int32} {a : Nat → List Int32} {q : Nat → List Int64} {r : Nat → Nat} (hI : kI i a q) (hr : kr r)  : km 1 11 [.int 6, .int 2] (ks i a q r) (kPI (ks i a q r) (fun v => v.toInt = 0)) := by
  have hG := kG_self kW0 hI hr
  refine km_ofPI (q := (mi_h11, mi_c11)) rfl (by decide) (Nat.le_of_ble_eq_true rfl) ?_
  intro P hP
  refine ft_go mi_k11 16 26 [(3, .int 0), (2, .int 6), (0, .int 6), (1, .int 2)] [.int (6 * 4), .ref (mi_RO + 3)] i a q r (by rfl) ?_
  refine ko_eq (x1 := (26, [(3, .int 0), (2, .int 6), (0, .int 6), (1, .int 2)], [.int 24, .ref (mi_RO + 3)], (0, 0), ks i a q r)) (by rw [(by decide : (6 * 4 : Int32) = 24)]) ?_
  refine ft_go mi_k11 2 28 [(3, .int 0), (2, .int 6), (0, .int 6), (1, .int 2)] [.int (24 + 2), .ref (mi_RO + 3)] i a q r (by rfl) ?_
  refine ko_eq (x1 := (28, [(3, .int 0), (2, .int 6), (0, .int 6), (1, .int 2)], [.int 26, .ref (mi_RO + 3)], (0, 0), ks i a q r)) (by rw [(by decide : (24 + 2 : Int32) = 26)]) ?_
  refine ko_iaro2 mi_k11.1 (l := [1, 10, 11, 2, 20, 0, 0, 0, 0, 30, 0, 0, 0, 41, 40, 0, 0, 0, 50, 0, 0, 0, 0, 60, 70, 0, 0, 0, 0, 80, 0, 81]) (n := 32) (c := 32) (ax := (0, 0, 0, 0, 0)) (mi_k11.2 _ _ (by rfl)) (by rfl) (by rfl) rfl rfl (oz1488 kn26) (oz1489 kn26) ?_
  have r1 : ((0 : Int) ≤ (([1, 10, 11, 2, 20, 0, 0, 0, 0, 30, 0, 0, 0, 41, 40, 0, 0, 0, 50, 0, 0, 0, 0, 60, 70, 0, 0, 0, 0, 80, 0, 81] : List Int32).getD (26 : Int32).toNatClampNeg 0).toInt) ∧ ((([1, 10, 11, 2, 20, 0, 0, 0, 0, 30, 0, 0, 0, 41, 40, 0, 0, 0, 50, 0, 0, 0, 0, 60, 70, 0, 0, 0, 0, 80, 0, 81] : List Int32).getD (26 : Int32).toNatClampNeg 0).toInt ≤ 81) := kro_rng (lo := 0) (hi := 81) (by decide) ((26 : Int32).toNatClampNeg)
  refine ko_eq (x1 := (29, [(3, .int 0), (2, .int 6), (0, .int 6), (1, .int 2)], [.int 0], (0, 0), ks i a q r)) (by rw [(by decide : (([1, 10, 11, 2, 20, 0, 0, 0, 0, 30, 0, 0, 0, 41, 40, 0, 0, 0, 50, 0, 0, 0, 0, 60, 70, 0, 0, 0, 0, 80, 0, 81] : List Int32).getD (26 : Int32).toNatClampNeg 0) = 0)]) ?_
  refine ft_go mi_k11 3 38 [(3, .int 0), (2, .int 6), (0, .int 6), (1, .int 2)] [.int 6, .ref (mi_RO + 4)] i a q r (by rfl) ?_
  refine ko_iaro2 mi_k11.1 (l := [(-1), 0, 0, 2, 1, 3, 0, 4]) (n := 8) (c := 8) (ax := (0, 0, 0, 0, 0)) (mi_k11.2 _ _ (by rfl)) (by rfl) (by rfl) rfl rfl (oz1130 kn6) (oz1485 kn6) ?_
  have r2 : ((-1 : Int) ≤ (([(-1), 0, 0, 2, 1, 3, 0, 4] : List Int32).getD (6 : Int32).toNatClampNeg 0).toInt) ∧ ((([(-1), 0, 0, 2, 1, 3, 0, 4] : List Int32).getD (6 : Int32).toNatClampNeg 0).toInt ≤ 4) := kro_rng (lo := -1) (hi := 4) (by decide) ((6 : Int32).toNatClampNeg)
  refine ko_eq (x1 := (39, [(3, .int 0), (2, .int 6), (0, .int 6), (1, .int 2)], [.int 0], (0, 0), ks i a q r)) (by rw [(by decide : (([(-1), 0, 0, 2, 1, 3, 0, 4] : List Int32).getD (6 : Int32).toNatClampNeg 0) = 0)]) ?_
  refine ft_go mi_k11 2 43 [(3, .int (0 + 1)), (2, .int 0), (0, .int 6), (1, .int 2)] [] i a q r (by rfl) ?_
  refine ko_eq (x1 := (43, [(3, .int 1), (2, .int 0), (0, .int 6), (1, .int 2)], [], (0, 0), ks i a q r)) (by rw [(by decide : (0 + 1 : Int32) = 1)]) ?_
  refine ft_go mi_k11 7 47 [(3, .int 1), (2, .int 0), (0, .int 6), (1, .int 2)] [.int 0] i a q r (by rfl) ?_
  exact ft_ret mi_k11 (by rfl) (hP 0 (oz236 kn0))
set_option maxRecDepth 100000 in
theorem kc11_l06_l13 {i : Nat → Int32} {a : Nat → List Int32} {q : Nat → List Int64} {r : Nat → Nat} (hI : kI i a q) (hr : kr r)  : km 1 11 [.int 6, .int 3] (ks i a q r) (kPI (ks i a q r) (fun v => v.toInt = 0)) := by
  have hG := kG_self kW0 hI hr
  refine km_ofPI (q := (mi_h11, mi_c11)) rfl (by decide) (Nat.le_of_ble_eq_true rfl) ?_
  intro P hP
  refine ft_go mi_k11 16 26 [(3, .int 0), (2, .int 6), (0, .int 6), (1, .int 3)] [.int (6 * 4), .ref (mi_RO + 3)] i a q r (by rfl) ?_
  refine ko_eq (x1 := (26, [(3, .int 0), (2, .int 6), (0, .int 6), (1, .int 3)], [.int 24, .ref (mi_RO + 3)], (0, 0), ks i a q r)) (by rw [(by decide : (6 * 4 : Int32) = 24)]) ?_
  refine ft_go mi_k11 2 28 [(3, .int 0), (2, .int 6), (0, .int 6), (1, .int 3)] [.int (24 + 3), .ref (mi_RO + 3)] i a q r (by rfl) ?_
  refine ko_eq (x1 := (28, [(3, .int 0), (2, .int 6), (0, .int 6), (1, .int 3)], [.int 27, .ref (mi_RO + 3)], (0, 0), ks i a q r)) (by rw [(by decide : (24 + 3 : Int32) = 27)]) ?_
  refine ko_iaro2 mi_k11.1 (l := [1, 10, 11, 2, 20, 0, 0, 0, 0, 30, 0, 0, 0, 41, 40, 0, 0, 0, 50, 0, 0, 0, 0, 60, 70, 0, 0, 0, 0, 80, 0, 81]) (n := 32) (c := 32) (ax := (0, 0, 0, 0, 0)) (mi_k11.2 _ _ (by rfl)) (by rfl) (by rfl) rfl rfl (oz1490 kn27) (oz1491 kn27) ?_
  have r1 : ((0 : Int) ≤ (([1, 10, 11, 2, 20, 0, 0, 0, 0, 30, 0, 0, 0, 41, 40, 0, 0, 0, 50, 0, 0, 0, 0, 60, 70, 0, 0, 0, 0, 80, 0, 81] : List Int32).getD (27 : Int32).toNatClampNeg 0).toInt) ∧ ((([1, 10, 11, 2, 20, 0, 0, 0, 0, 30, 0, 0, 0, 41, 40, 0, 0, 0, 50, 0, 0, 0, 0, 60, 70, 0, 0, 0, 0, 80, 0, 81] : List Int32).getD (27 : Int32).toNatClampNeg 0).toInt ≤ 81) := kro_rng (lo := 0) (hi := 81) (by decide) ((27 : Int32).toNatClampNeg)
  refine ko_eq (x1 := (29, [(3, .int 0), (2, .int 6), (0, .int 6), (1, .int 3)], [.int 0], (0, 0), ks i a q r)) (by rw [(by decide : (([1, 10, 11, 2, 20, 0, 0, 0, 0, 30, 0, 0, 0, 41, 40, 0, 0, 0, 50, 0, 0, 0, 0, 60, 70, 0, 0, 0, 0, 80, 0, 81] : List Int32).getD (27 : Int32).toNatClampNeg 0) = 0)]) ?_
  refine ft_go mi_k11 3 38 [(3, .int 0), (2, .int 6), (0, .int 6), (1, .int 3)] [.int 6, .ref (mi_RO + 4)] i a q r (by rfl) ?_
  refine ko_iaro2 mi_k11.1 (l := [(-1), 0, 0, 2, 1, 3, 0, 4]) (n := 8) (c := 8) (ax := (0, 0, 0, 0, 0)) (mi_k11.2 _ _ (by rfl)) (by rfl) (by rfl) rfl rfl (oz1130 kn6) (oz1485 kn6) ?_
  have r2 : ((-1 : Int) ≤ (([(-1), 0, 0, 2, 1, 3, 0, 4] : List Int32).getD (6 : Int32).toNatClampNeg 0).toInt) ∧ ((([(-1), 0, 0, 2, 1, 3, 0, 4] : List Int32).getD (6 : Int32).toNatClampNeg 0).toInt ≤ 4) := kro_rng (lo := -1) (hi := 4) (by decide) ((6 : Int32).toNatClampNeg)
  refine ko_eq (x1 := (39, [(3, .int 0), (2, .int 6), (0, .int 6), (1, .int 3)], [.int 0], (0, 0), ks i a q r)) (by rw [(by decide : (([(-1), 0, 0, 2, 1, 3, 0, 4] : List Int32).getD (6 : Int32).toNatClampNeg 0) = 0)]) ?_
  refine ft_go mi_k11 2 43 [(3, .int (0 + 1)), (2, .int 0), (0, .int 6), (1, .int 3)] [] i a q r (by rfl) ?_
  refine ko_eq (x1 := (43, [(3, .int 1), (2, .int 0), (0, .int 6), (1, .int 3)], [], (0, 0), ks i a q r)) (by rw [(by decide : (0 + 1 : Int32) = 1)]) ?_
  refine ft_go mi_k11 7 47 [(3, .int 1), (2, .int 0), (0, .int 6), (1, .int 3)] [.int 0] i a q r (by rfl) ?_
  exact ft_ret mi_k11 (by rfl) (hP 0 (oz236 kn0))
set_option maxRecDepth 100000 in
theorem kc11_l07_l10 {i : Nat → Int32} {a : Nat → List Int32} {q : Nat → List Int64} {r : Nat → Nat} (hI : kI i a q) (hr : kr r)  : km 1 11 [.int 7, .int 0] (ks i a q r) (kPI (ks i a q r) (fun v => v.toInt = 1)) := by
  have hG := kG_self kW0 hI hr
  refine km_ofPI (q := (mi_h11, mi_c11)) rfl (by decide) (Nat.le_of_ble_eq_true rfl) ?_
  intro P hP
  refine ft_go mi_k11 16 26 [(3, .int 0), (2, .int 7), (0, .int 7), (1, .int 0)] [.int (7 * 4), .ref (mi_RO + 3)] i a q r (by rfl) ?_
  refine ko_eq (x1 := (26, [(3, .int 0), (2, .int 7), (0, .int 7), (1, .int 0)], [.int 28, .ref (mi_RO + 3)], (0, 0), ks i a q r)) (by rw [(by decide : (7 * 4 : Int32) = 28)]) ?_
  refine ft_go mi_k11 2 28 [(3, .int 0), (2, .int 7), (0, .int 7), (1, .int 0)] [.int (28 + 0), .ref (mi_RO + 3)] i a q r (by rfl) ?_
  refine ko_eq (x1 := (28, [(3, .int 0), (2, .int 7), (0, .int 7), (1, .int 0)], [.int 28, .ref (mi_RO + 3)], (0, 0), ks i a q r)) (by rw [(by decide : (28 + 0 : Int32) = 28)]) ?_
  refine ko_iaro2 mi_k11.1 (l := [1, 10, 11, 2, 20, 0, 0, 0, 0, 30, 0, 0, 0, 41, 40, 0, 0, 0, 50, 0, 0, 0, 0, 60, 70, 0, 0, 0, 0, 80, 0, 81]) (n := 32) (c := 32) (ax := (0, 0, 0, 0, 0)) (mi_k11.2 _ _ (by rfl)) (by rfl) (by rfl) rfl rfl (oz1492 kn28) (oz1493 kn28) ?_
  have r1 : ((0 : Int) ≤ (([1, 10, 11, 2, 20, 0, 0, 0, 0, 30, 0, 0, 0, 41, 40, 0, 0, 0, 50, 0, 0, 0, 0, 60, 70, 0, 0, 0, 0, 80, 0, 81] : List Int32).getD (28 : Int32).toNatClampNeg 0).toInt) ∧ ((([1, 10, 11, 2, 20, 0, 0, 0, 0, 30, 0, 0, 0, 41, 40, 0, 0, 0, 50, 0, 0, 0, 0, 60, 70, 0, 0, 0, 0, 80, 0, 81] : List Int32).getD (28 : Int32).toNatClampNeg 0).toInt ≤ 81) := kro_rng (lo := 0) (hi := 81) (by decide) ((28 : Int32).toNatClampNeg)
  refine ko_eq (x1 := (29, [(3, .int 0), (2, .int 7), (0, .int 7), (1, .int 0)], [.int 0], (0, 0), ks i a q r)) (by rw [(by decide : (([1, 10, 11, 2, 20, 0, 0, 0, 0, 30, 0, 0, 0, 41, 40, 0, 0, 0, 50, 0, 0, 0, 0, 60, 70, 0, 0, 0, 0, 80, 0, 81] : List Int32).getD (28 : Int32).toNatClampNeg 0) = 0)]) ?_
  refine ft_go mi_k11 3 38 [(3, .int 0), (2, .int 7), (0, .int 7), (1, .int 0)] [.int 7, .ref (mi_RO + 4)] i a q r (by rfl) ?_
  refine ko_iaro2 mi_k11.1 (l := [(-1), 0, 0, 2, 1, 3, 0, 4]) (n := 8) (c := 8) (ax := (0, 0, 0, 0, 0)) (mi_k11.2 _ _ (by rfl)) (by rfl) (by rfl) rfl rfl (oz1133 kn7) (oz1494 kn7) ?_
  have r2 : ((-1 : Int) ≤ (([(-1), 0, 0, 2, 1, 3, 0, 4] : List Int32).getD (7 : Int32).toNatClampNeg 0).toInt) ∧ ((([(-1), 0, 0, 2, 1, 3, 0, 4] : List Int32).getD (7 : Int32).toNatClampNeg 0).toInt ≤ 4) := kro_rng (lo := -1) (hi := 4) (by decide) ((7 : Int32).toNatClampNeg)
  refine ko_eq (x1 := (39, [(3, .int 0), (2, .int 7), (0, .int 7), (1, .int 0)], [.int 4], (0, 0), ks i a q r)) (by rw [(by decide : (([(-1), 0, 0, 2, 1, 3, 0, 4] : List Int32).getD (7 : Int32).toNatClampNeg 0) = 4)]) ?_
  refine ft_go mi_k11 2 43 [(3, .int (0 + 1)), (2, .int 4), (0, .int 7), (1, .int 0)] [] i a q r (by rfl) ?_
  refine ko_eq (x1 := (43, [(3, .int 1), (2, .int 4), (0, .int 7), (1, .int 0)], [], (0, 0), ks i a q r)) (by rw [(by decide : (0 + 1 : Int32) = 1)]) ?_
  refine ft_go mi_k11 13 26 [(3, .int 1), (2, .int 4), (0, .int 7), (1, .int 0)] [.int (4 * 4), .ref (mi_RO + 3)] i a q r (by rfl) ?_
  refine ko_eq (x1 := (26, [(3, .int 1), (2, .int 4), (0, .int 7), (1, .int 0)], [.int 16, .ref (mi_RO + 3)], (0, 0), ks i a q r)) (by rw [(by decide : (4 * 4 : Int32) = 16)]) ?_
  refine ft_go mi_k11 2 28 [(3, .int 1), (2, .int 4), (0, .int 7), (1, .int 0)] [.int (16 + 0), .ref (mi_RO + 3)] i a q r (by rfl) ?_
  refine ko_eq (x1 := (28, [(3, .int 1), (2, .int 4), (0, .int 7), (1, .int 0)], [.int 16, .ref (mi_RO + 3)], (0, 0), ks i a q r)) (by rw [(by decide : (16 + 0 : Int32) = 16)]) ?_
  refine ko_iaro2 mi_k11.1 (l := [1, 10, 11, 2, 20, 0, 0, 0, 0, 30, 0, 0, 0, 41, 40, 0, 0, 0, 50, 0, 0, 0, 0, 60, 70, 0, 0, 0, 0, 80, 0, 81]) (n := 32) (c := 32) (ax := (0, 0, 0, 0, 0)) (mi_k11.2 _ _ (by rfl)) (by rfl) (by rfl) rfl rfl (oz1443 kn16) (oz1444 kn16) ?_
  have r3 : ((0 : Int) ≤ (([1, 10, 11, 2, 20, 0, 0, 0, 0, 30, 0, 0, 0, 41, 40, 0, 0, 0, 50, 0, 0, 0, 0, 60, 70, 0, 0, 0, 0, 80, 0, 81] : List Int32).getD (16 : Int32).toNatClampNeg 0).toInt) ∧ ((([1, 10, 11, 2, 20, 0, 0, 0, 0, 30, 0, 0, 0, 41, 40, 0, 0, 0, 50, 0, 0, 0, 0, 60, 70, 0, 0, 0, 0, 80, 0, 81] : List Int32).getD (16 : Int32).toNatClampNeg 0).toInt ≤ 81) := kro_rng (lo := 0) (hi := 81) (by decide) ((16 : Int32).toNatClampNeg)
  refine ko_eq (x1 := (29, [(3, .int 1), (2, .int 4), (0, .int 7), (1, .int 0)], [.int 0], (0, 0), ks i a q r)) (by rw [(by decide : (([1, 10, 11, 2, 20, 0, 0, 0, 0, 30, 0, 0, 0, 41, 40, 0, 0, 0, 50, 0, 0, 0, 0, 60, 70, 0, 0, 0, 0, 80, 0, 81] : List Int32).getD (16 : Int32).toNatClampNeg 0) = 0)]) ?_
  refine ft_go mi_k11 3 38 [(3, .int 1), (2, .int 4), (0, .int 7), (1, .int 0)] [.int 4, .ref (mi_RO + 4)] i a q r (by rfl) ?_
  refine ko_iaro2 mi_k11.1 (l := [(-1), 0, 0, 2, 1, 3, 0, 4]) (n := 8) (c := 8) (ax := (0, 0, 0, 0, 0)) (mi_k11.2 _ _ (by rfl)) (by rfl) (by rfl) rfl rfl (oz262 kn4) (oz1445 kn4) ?_
  have r4 : ((-1 : Int) ≤ (([(-1), 0, 0, 2, 1, 3, 0, 4] : List Int32).getD (4 : Int32).toNatClampNeg 0).toInt) ∧ ((([(-1), 0, 0, 2, 1, 3, 0, 4] : List Int32).getD (4 : Int32).toNatClampNeg 0).toInt ≤ 4) := kro_rng (lo := -1) (hi := 4) (by decide) ((4 : Int32).toNatClampNeg)
  refine ko_eq (x1 := (39, [(3, .int 1), (2, .int 4), (0, .int 7), (1, .int 0)], [.int 1], (0, 0), ks i a q r)) (by rw [(by decide : (([(-1), 0, 0, 2, 1, 3, 0, 4] : List Int32).getD (4 : Int32).toNatClampNeg 0) = 1)]) ?_
  refine ft_go mi_k11 2 43 [(3, .int (1 + 1)), (2, .int 1), (0, .int 7), (1, .int 0)] [] i a q r (by rfl) ?_
  refine ko_eq (x1 := (43, [(3, .int 2), (2, .int 1), (0, .int 7), (1, .int 0)], [], (0, 0), ks i a q r)) (by rw [(by decide : (1 + 1 : Int32) = 2)]) ?_
  refine ft_go mi_k11 13 26 [(3, .int 2), (2, .int 1), (0, .int 7), (1, .int 0)] [.int (1 * 4), .ref (mi_RO + 3)] i a q r (by rfl) ?_
  refine ko_eq (x1 := (26, [(3, .int 2), (2, .int 1), (0, .int 7), (1, .int 0)], [.int 4, .ref (mi_RO + 3)], (0, 0), ks i a q r)) (by rw [(by decide : (1 * 4 : Int32) = 4)]) ?_
  refine ft_go mi_k11 2 28 [(3, .int 2), (2, .int 1), (0, .int 7), (1, .int 0)] [.int (4 + 0), .ref (mi_RO + 3)] i a q r (by rfl) ?_
  refine ko_eq (x1 := (28, [(3, .int 2), (2, .int 1), (0, .int 7), (1, .int 0)], [.int 4, .ref (mi_RO + 3)], (0, 0), ks i a q r)) (by rw [(by decide : (4 + 0 : Int32) = 4)]) ?_
  refine ko_iaro2 mi_k11.1 (l := [1, 10, 11, 2, 20, 0, 0, 0, 0, 30, 0, 0, 0, 41, 40, 0, 0, 0, 50, 0, 0, 0, 0, 60, 70, 0, 0, 0, 0, 80, 0, 81]) (n := 32) (c := 32) (ax := (0, 0, 0, 0, 0)) (mi_k11.2 _ _ (by rfl)) (by rfl) (by rfl) rfl rfl (oz262 kn4) (oz1380 kn4) ?_
  have r5 : ((0 : Int) ≤ (([1, 10, 11, 2, 20, 0, 0, 0, 0, 30, 0, 0, 0, 41, 40, 0, 0, 0, 50, 0, 0, 0, 0, 60, 70, 0, 0, 0, 0, 80, 0, 81] : List Int32).getD (4 : Int32).toNatClampNeg 0).toInt) ∧ ((([1, 10, 11, 2, 20, 0, 0, 0, 0, 30, 0, 0, 0, 41, 40, 0, 0, 0, 50, 0, 0, 0, 0, 60, 70, 0, 0, 0, 0, 80, 0, 81] : List Int32).getD (4 : Int32).toNatClampNeg 0).toInt ≤ 81) := kro_rng (lo := 0) (hi := 81) (by decide) ((4 : Int32).toNatClampNeg)
  refine ko_eq (x1 := (29, [(3, .int 2), (2, .int 1), (0, .int 7), (1, .int 0)], [.int 20], (0, 0), ks i a q r)) (by rw [(by decide : (([1, 10, 11, 2, 20, 0, 0, 0, 0, 30, 0, 0, 0, 41, 40, 0, 0, 0, 50, 0, 0, 0, 0, 60, 70, 0, 0, 0, 0, 80, 0, 81] : List Int32).getD (4 : Int32).toNatClampNeg 0) = 20)]) ?_
  refine ft_go mi_k11 2 33 [(3, .int 2), (2, .int 1), (0, .int 7), (1, .int 0)] [.int 1] i a q r (by rfl) ?_
  exact ft_ret mi_k11 (by rfl) (hP 1 (oz1381 kn1))
set_option maxRecDepth 100000 in
theorem kc11_l07_l11 {i : Nat → Int32} {a : Nat → List Int32} {q : Nat → List Int64} {r : Nat → Nat} (hI : kI i a q) (hr : kr r)  : km 1 11 [.int 7, .int 1] (ks i a q r) (kPI (ks i a q r) (fun v => v.toInt = 7)) := by
  have hG := kG_self kW0 hI hr
  refine km_ofPI (q := (mi_h11, mi_c11)) rfl (by decide) (Nat.le_of_ble_eq_true rfl) ?_
  intro P hP
  refine ft_go mi_k11 16 26 [(3, .int 0), (2, .int 7), (0, .int 7), (1, .int 1)] [.int (7 * 4), .ref (mi_RO + 3)] i a q r (by rfl) ?_
  refine ko_eq (x1 := (26, [(3, .int 0), (2, .int 7), (0, .int 7), (1, .int 1)], [.int 28, .ref (mi_RO + 3)], (0, 0), ks i a q r)) (by rw [(by decide : (7 * 4 : Int32) = 28)]) ?_
  refine ft_go mi_k11 2 28 [(3, .int 0), (2, .int 7), (0, .int 7), (1, .int 1)] [.int (28 + 1), .ref (mi_RO + 3)] i a q r (by rfl) ?_
  refine ko_eq (x1 := (28, [(3, .int 0), (2, .int 7), (0, .int 7), (1, .int 1)], [.int 29, .ref (mi_RO + 3)], (0, 0), ks i a q r)) (by rw [(by decide : (28 + 1 : Int32) = 29)]) ?_
  refine ko_iaro2 mi_k11.1 (l := [1, 10, 11, 2, 20, 0, 0, 0, 0, 30, 0, 0, 0, 41, 40, 0, 0, 0, 50, 0, 0, 0, 0, 60, 70, 0, 0, 0, 0, 80, 0, 81]) (n := 32) (c := 32) (ax := (0, 0, 0, 0, 0)) (mi_k11.2 _ _ (by rfl)) (by rfl) (by rfl) rfl rfl (oz1498 kn29) (oz1499 kn29) ?_
  have r1 : ((0 : Int) ≤ (([1, 10, 11, 2, 20, 0, 0, 0, 0, 30, 0, 0, 0, 41, 40, 0, 0, 0, 50, 0, 0, 0, 0, 60, 70, 0, 0, 0, 0, 80, 0, 81] : List Int32).getD (29 : Int32).toNatClampNeg 0).toInt) ∧ ((([1, 10, 11, 2, 20, 0, 0, 0, 0, 30, 0, 0, 0, 41, 40, 0, 0, 0, 50, 0, 0, 0, 0, 60, 70, 0, 0, 0, 0, 80, 0, 81] : List Int32).getD (29 : Int32).toNatClampNeg 0).toInt ≤ 81) := kro_rng (lo := 0) (hi := 81) (by decide) ((29 : Int32).toNatClampNeg)
  refine ko_eq (x1 := (29, [(3, .int 0), (2, .int 7), (0, .int 7), (1, .int 1)], [.int 80], (0, 0), ks i a q r)) (by rw [(by decide : (([1, 10, 11, 2, 20, 0, 0, 0, 0, 30, 0, 0, 0, 41, 40, 0, 0, 0, 50, 0, 0, 0, 0, 60, 70, 0, 0, 0, 0, 80, 0, 81] : List Int32).getD (29 : Int32).toNatClampNeg 0) = 80)]) ?_
  refine ft_go mi_k11 2 33 [(3, .int 0), (2, .int 7), (0, .int 7), (1, .int 1)] [.int 7] i a q r (by rfl) ?_
  exact ft_ret mi_k11 (by rfl) (hP 7 (oz1500 kn7))
set_option maxRecDepth 100000 in
theorem kc11_l07_l12 {i : Nat → Int32} {a : Nat → List Int32} {q : Nat → List Int64} {r : Nat → Nat} (hI : kI i a q) (hr : kr r)  : km 1 11 [.int 7, .int 2] (ks i a q r) (kPI (ks i a q r) (fun v => v.toInt = 4)) := by
  have hG := kG_self kW0 hI hr
  refine km_ofPI (q := (mi_h11, mi_c11)) rfl (by decide) (Nat.le_of_ble_eq_true rfl) ?_
  intro P hP
  refine ft_go mi_k11 16 26 [(3, .int 0), (2, .int 7), (0, .int 7), (1, .int 2)] [.int (7 * 4), .ref (mi_RO + 3)] i a q r (by rfl) ?_
  refine ko_eq (x1 := (26, [(3, .int 0), (2, .int 7), (0, .int 7), (1, .int 2)], [.int 28, .ref (mi_RO + 3)], (0, 0), ks i a q r)) (by rw [(by decide : (7 * 4 : Int32) = 28)]) ?_
  refine ft_go mi_k11 2 28 [(3, .int 0), (2, .int 7), (0, .int 7), (1, .int 2)] [.int (28 + 2), .ref (mi_RO + 3)] i a q r (by rfl) ?_
  refine ko_eq (x1 := (28, [(3, .int 0), (2, .int 7), (0, .int 7), (1, .int 2)], [.int 30, .ref (mi_RO + 3)], (0, 0), ks i a q r)) (by rw [(by decide : (28 + 2 : Int32) = 30)]) ?_
  refine ko_iaro2 mi_k11.1 (l := [1, 10, 11, 2, 20, 0, 0, 0, 0, 30, 0, 0, 0, 41, 40, 0, 0, 0, 50, 0, 0, 0, 0, 60, 70, 0, 0, 0, 0, 80, 0, 81]) (n := 32) (c := 32) (ax := (0, 0, 0, 0, 0)) (mi_k11.2 _ _ (by rfl)) (by rfl) (by rfl) rfl rfl (oz1502 kn30) (oz1503 kn30) ?_
  have r1 : ((0 : Int) ≤ (([1, 10, 11, 2, 20, 0, 0, 0, 0, 30, 0, 0, 0, 41, 40, 0, 0, 0, 50, 0, 0, 0, 0, 60, 70, 0, 0, 0, 0, 80, 0, 81] : List Int32).getD (30 : Int32).toNatClampNeg 0).toInt) ∧ ((([1, 10, 11, 2, 20, 0, 0, 0, 0, 30, 0, 0, 0, 41, 40, 0, 0, 0, 50, 0, 0, 0, 0, 60, 70, 0, 0, 0, 0, 80, 0, 81] : List Int32).getD (30 : Int32).toNatClampNeg 0).toInt ≤ 81) := kro_rng (lo := 0) (hi := 81) (by decide) ((30 : Int32).toNatClampNeg)
  refine ko_eq (x1 := (29, [(3, .int 0), (2, .int 7), (0, .int 7), (1, .int 2)], [.int 0], (0, 0), ks i a q r)) (by rw [(by decide : (([1, 10, 11, 2, 20, 0, 0, 0, 0, 30, 0, 0, 0, 41, 40, 0, 0, 0, 50, 0, 0, 0, 0, 60, 70, 0, 0, 0, 0, 80, 0, 81] : List Int32).getD (30 : Int32).toNatClampNeg 0) = 0)]) ?_
  refine ft_go mi_k11 3 38 [(3, .int 0), (2, .int 7), (0, .int 7), (1, .int 2)] [.int 7, .ref (mi_RO + 4)] i a q r (by rfl) ?_
  refine ko_iaro2 mi_k11.1 (l := [(-1), 0, 0, 2, 1, 3, 0, 4]) (n := 8) (c := 8) (ax := (0, 0, 0, 0, 0)) (mi_k11.2 _ _ (by rfl)) (by rfl) (by rfl) rfl rfl (oz1133 kn7) (oz1494 kn7) ?_
  have r2 : ((-1 : Int) ≤ (([(-1), 0, 0, 2, 1, 3, 0, 4] : List Int32).getD (7 : Int32).toNatClampNeg 0).toInt) ∧ ((([(-1), 0, 0, 2, 1, 3, 0, 4] : List Int32).getD (7 : Int32).toNatClampNeg 0).toInt ≤ 4) := kro_rng (lo := -1) (hi := 4) (by decide) ((7 : Int32).toNatClampNeg)
  refine ko_eq (x1 := (39, [(3, .int 0), (2, .int 7), (0, .int 7), (1, .int 2)], [.int 4], (0, 0), ks i a q r)) (by rw [(by decide : (([(-1), 0, 0, 2, 1, 3, 0, 4] : List Int32).getD (7 : Int32).toNatClampNeg 0) = 4)]) ?_
  refine ft_go mi_k11 2 43 [(3, .int (0 + 1)), (2, .int 4), (0, .int 7), (1, .int 2)] [] i a q r (by rfl) ?_
  refine ko_eq (x1 := (43, [(3, .int 1), (2, .int 4), (0, .int 7), (1, .int 2)], [], (0, 0), ks i a q r)) (by rw [(by decide : (0 + 1 : Int32) = 1)]) ?_
  refine ft_go mi_k11 13 26 [(3, .int 1), (2, .int 4), (0, .int 7), (1, .int 2)] [.int (4 * 4), .ref (mi_RO + 3)] i a q r (by rfl) ?_
  refine ko_eq (x1 := (26, [(3, .int 1), (2, .int 4), (0, .int 7), (1, .int 2)], [.int 16, .ref (mi_RO + 3)], (0, 0), ks i a q r)) (by rw [(by decide : (4 * 4 : Int32) = 16)]) ?_
  refine ft_go mi_k11 2 28 [(3, .int 1), (2, .int 4), (0, .int 7), (1, .int 2)] [.int (16 + 2), .ref (mi_RO + 3)] i a q r (by rfl) ?_
  refine ko_eq (x1 := (28, [(3, .int 1), (2, .int 4), (0, .int 7), (1, .int 2)], [.int 18, .ref (mi_RO + 3)], (0, 0), ks i a q r)) (by rw [(by decide : (16 + 2 : Int32) = 18)]) ?_
  refine ko_iaro2 mi_k11.1 (l := [1, 10, 11, 2, 20, 0, 0, 0, 0, 30, 0, 0, 0, 41, 40, 0, 0, 0, 50, 0, 0, 0, 0, 60, 70, 0, 0, 0, 0, 80, 0, 81]) (n := 32) (c := 32) (ax := (0, 0, 0, 0, 0)) (mi_k11.2 _ _ (by rfl)) (by rfl) (by rfl) rfl rfl (oz195 kn18) (oz1450 kn18) ?_
  have r3 : ((0 : Int) ≤ (([1, 10, 11, 2, 20, 0, 0, 0, 0, 30, 0, 0, 0, 41, 40, 0, 0, 0, 50, 0, 0, 0, 0, 60, 70, 0, 0, 0, 0, 80, 0, 81] : List Int32).getD (18 : Int32).toNatClampNeg 0).toInt) ∧ ((([1, 10, 11, 2, 20, 0, 0, 0, 0, 30, 0, 0, 0, 41, 40, 0, 0, 0, 50, 0, 0, 0, 0, 60, 70, 0, 0, 0, 0, 80, 0, 81] : List Int32).getD (18 : Int32).toNatClampNeg 0).toInt ≤ 81) := kro_rng (lo := 0) (hi := 81) (by decide) ((18 : Int32).toNatClampNeg)
  refine ko_eq (x1 := (29, [(3, .int 1), (2, .int 4), (0, .int 7), (1, .int 2)], [.int 50], (0, 0), ks i a q r)) (by rw [(by decide : (([1, 10, 11, 2, 20, 0, 0, 0, 0, 30, 0, 0, 0, 41, 40, 0, 0, 0, 50, 0, 0, 0, 0, 60, 70, 0, 0, 0, 0, 80, 0, 81] : List Int32).getD (18 : Int32).toNatClampNeg 0) = 50)]) ?_
  refine ft_go mi_k11 2 33 [(3, .int 1), (2, .int 4), (0, .int 7), (1, .int 2)] [.int 4] i a q r (by rfl) ?_
  exact ft_ret mi_k11 (by rfl) (hP 4 (oz1446 kn4))
set_option maxRecDepth 100000 in
theorem kc11_l07_l13 {i : Nat → Int32} {a : Nat → List Int32} {q : Nat → List Int64} {r : Nat → Nat} (hI : kI i a q) (hr : kr r)  : km 1 11 [.int 7, .int 3] (ks i a q r) (kPI (ks i a q r) (fun v => v.toInt = 7)) := by
  have hG := kG_self kW0 hI hr
  refine km_ofPI (q := (mi_h11, mi_c11)) rfl (by decide) (Nat.le_of_ble_eq_true rfl) ?_
  intro P hP
  refine ft_go mi_k11 16 26 [(3, .int 0), (2, .int 7), (0, .int 7), (1, .int 3)] [.int (7 * 4), .ref (mi_RO + 3)] i a q r (by rfl) ?_
  refine ko_eq (x1 := (26, [(3, .int 0), (2, .int 7), (0, .int 7), (1, .int 3)], [.int 28, .ref (mi_RO + 3)], (0, 0), ks i a q r)) (by rw [(by decide : (7 * 4 : Int32) = 28)]) ?_
  refine ft_go mi_k11 2 28 [(3, .int 0), (2, .int 7), (0, .int 7), (1, .int 3)] [.int (28 + 3), .ref (mi_RO + 3)] i a q r (by rfl) ?_
  refine ko_eq (x1 := (28, [(3, .int 0), (2, .int 7), (0, .int 7), (1, .int 3)], [.int 31, .ref (mi_RO + 3)], (0, 0), ks i a q r)) (by rw [(by decide : (28 + 3 : Int32) = 31)]) ?_
  refine ko_iaro2 mi_k11.1 (l := [1, 10, 11, 2, 20, 0, 0, 0, 0, 30, 0, 0, 0, 41, 40, 0, 0, 0, 50, 0, 0, 0, 0, 60, 70, 0, 0, 0, 0, 80, 0, 81]) (n := 32) (c := 32) (ax := (0, 0, 0, 0, 0)) (mi_k11.2 _ _ (by rfl)) (by rfl) (by rfl) rfl rfl (oz1509 kn31) (oz1510 kn31) ?_
  have r1 : ((0 : Int) ≤ (([1, 10, 11, 2, 20, 0, 0, 0, 0, 30, 0, 0, 0, 41, 40, 0, 0, 0, 50, 0, 0, 0, 0, 60, 70, 0, 0, 0, 0, 80, 0, 81] : List Int32).getD (31 : Int32).toNatClampNeg 0).toInt) ∧ ((([1, 10, 11, 2, 20, 0, 0, 0, 0, 30, 0, 0, 0, 41, 40, 0, 0, 0, 50, 0, 0, 0, 0, 60, 70, 0, 0, 0, 0, 80, 0, 81] : List Int32).getD (31 : Int32).toNatClampNeg 0).toInt ≤ 81) := kro_rng (lo := 0) (hi := 81) (by decide) ((31 : Int32).toNatClampNeg)
  refine ko_eq (x1 := (29, [(3, .int 0), (2, .int 7), (0, .int 7), (1, .int 3)], [.int 81], (0, 0), ks i a q r)) (by rw [(by decide : (([1, 10, 11, 2, 20, 0, 0, 0, 0, 30, 0, 0, 0, 41, 40, 0, 0, 0, 50, 0, 0, 0, 0, 60, 70, 0, 0, 0, 0, 80, 0, 81] : List Int32).getD (31 : Int32).toNatClampNeg 0) = 81)]) ?_
  refine ft_go mi_k11 2 33 [(3, .int 0), (2, .int 7), (0, .int 7), (1, .int 3)] [.int 7] i a q r (by rfl) ?_
  exact ft_ret mi_k11 (by rfl) (hP 7 (oz1500 kn7))
set_option maxRecDepth 100000 in
theorem kc208_l01 {i : Nat → Int32} {a : Nat → List Int32} {q : Nat → List Int64} {r : Nat → Nat} (hI : kI i a q) (hr : kr r)  : km 1 208 [.int 1] (ks i a q r) (kPI (ks i a q r) (fun v => v.toInt = 0)) := by
  have hG := kG_self kW0 hI hr
  refine km_ofPI (q := (mi_h208, mi_c208)) rfl (by decide) (Nat.le_of_ble_eq_true rfl) ?_
  intro P hP
  refine ft_go mi_k208 3 45 [(0, .int 1)] [.int 0] i a q r (by rfl) ?_
  exact ft_ret mi_k208 (by rfl) (hP 0 (oz236 kn0))
set_option maxRecDepth 100000 in
theorem kc208_l02 {i : Nat → Int32} {a : Nat → List Int32} {q : Nat → List Int64} {r : Nat → Nat} (hI : kI i a q) (hr : kr r)  : km 1 208 [.int 2] (ks i a q r) (kPI (ks i a q r) (fun v => v.toInt = 0)) := by
  have hG := kG_self kW0 hI hr
  refine km_ofPI (q := (mi_h208, mi_c208)) rfl (by decide) (Nat.le_of_ble_eq_true rfl) ?_
  intro P hP
  refine ft_go mi_k208 3 45 [(0, .int 2)] [.int 0] i a q r (by rfl) ?_
  exact ft_ret mi_k208 (by rfl) (hP 0 (oz236 kn0))
