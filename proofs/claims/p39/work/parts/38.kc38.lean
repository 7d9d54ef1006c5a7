theorem kn21 : (21 : Int32).toInt = 21 := by decide
theorem kn22 : (22 : Int32).toInt = 22 := by decide
theorem kn23 : (23 : Int32).toInt = 23 := by decide
theorem oz1414 {a0 : Int} (h0 : a0 = 10) : (0 : Int) ≤ a0 := by omega
theorem oz1415 {a0 : Int} (h0 : a0 = 10) : a0 < 32 := by omega
theorem oz1416 {a0 : Int} (h0 : a0 = 11) : (0 : Int) ≤ a0 := by omega
theorem oz1417 {a0 : Int} (h0 : a0 = 11) : a0 < 32 := by omega
theorem oz1418 {a0 : Int} (h0 : a0 = 12) : (0 : Int) ≤ a0 := by omega
theorem oz1419 {a0 : Int} (h0 : a0 = 12) : a0 < 32 := by omega
theorem oz1420 {a0 : Int} (h0 : a0 = 3) : a0 < 8 := by omega
theorem oz1421 {a0 : Int} (h0 : a0 = 3) : a0 = 3 := by omega
theorem oz1422 {a0 a1 : Int} (h0 : a0 = 3) (h1 : a1 = a0) : a1 = 3 := by omega
theorem oz1423 {a0 : Int} (h0 : a0 = 13) : (0 : Int) ≤ a0 := by omega
theorem oz1424 {a0 : Int} (h0 : a0 = 13) : a0 < 32 := by omega
theorem oz1425 {a0 : Int} (h0 : a0 = 14) : (0 : Int) ≤ a0 := by omega
theorem oz1426 {a0 : Int} (h0 : a0 = 14) : a0 < 32 := by omega
theorem oz1427 {a0 : Int} (h0 : a0 = 15) : (0 : Int) ≤ a0 := by omega
theorem oz1428 {a0 : Int} (h0 : a0 = 15) : a0 < 32 := by omega
theorem oz1429 {a0 a1 a2 : Int} (h0 : (a0 + 7) ≤ 900) (h1 : a1 = a0 + a2) (h2 : a2 = 1) : a1 ≤ 1000 := by omega
theorem oz1430 {a0 a1 : Int} (h0 : (a0 + 5) ≤ 39) (h1 : a1 = 1) : a0 + a1 ≤ 2147483647 := by omega
theorem oz1431 {a0 : Int} (h0 : (0 : Int) ≤ a0) (h1 : (a0 + 4) ≤ 39) : ((0 : Int) ≤ a0) ∧ ((a0 + 4) ≤ 39) := by omega
theorem oz1432 {a0 : Int} (h0 : (0 : Int) ≤ a0) (h1 : (a0 + 6) ≤ 900) : ((0 : Int) ≤ a0) ∧ ((a0 + 4) ≤ 900) := by omega
theorem oz1433 {a0 : Int} (h0 : (0 : Int) ≤ a0) (h1 : (a0 + 4) ≤ 39) : ((0 : Int) ≤ a0) ∧ ((a0 + 2) ≤ 39) := by omega
theorem oz1434 {a0 a1 : Int} (h0 : (0 : Int) ≤ a0) (h1 : (a1 + 6) ≤ 900) (h2 : a0 = (a1 + 4)) : ((0 : Int) ≤ a0) ∧ ((a0 + 2) ≤ 900) := by omega
theorem oz1435 {a0 a1 a2 : Int} (h0 : a0 = (a1 + 4)) (h1 : a2 = (a0 + 2)) : a2 = (a1 + 6) := by omega
theorem oz1436 {a0 a1 a2 : Int} (h0 : (0 : Int) ≤ a0) (h1 : (a0 + 5) ≤ 39) (h2 : a1 = a0 + a2) (h3 : a2 = 1) : ((0 : Int) ≤ a1) ∧ ((a1 + 4) ≤ 39) := by omega
theorem oz1437 {a0 a1 a2 a3 : Int} (h0 : a0 ≤ a1) (h1 : (a1 + 7) ≤ 900) (h2 : a2 = a1 + a3) (h3 : a0 = 24) (h4 : a3 = 1) : ((0 : Int) ≤ a2) ∧ ((a2 + 6) ≤ 900) := by omega
theorem oz1438 {a0 a1 a2 a3 : Int} (h0 : a0 = a1 + a2) (h1 : a3 = (a0 + 6)) (h2 : a2 = 1) : a3 = (a1 + 7) := by omega
theorem oz1439 {a0 a1 a2 : Int} (h0 : (0 : Int) ≤ a0) (h1 : (a0 + 7) ≤ 900) (h2 : a1 = a0 + a2) (h3 : a2 = 1) : ((0 : Int) ≤ a1) ∧ ((a1 + 6) ≤ 900) := by omega
theorem oz1440 {a0 a1 : Int} (h0 : a0 ≤ a1) (h1 : (a1 + 5) ≤ 39) (h2 : a0 = 40) : False := by omega
theorem oz1441 {a0 : Int} (h0 : a0 = 0) : ((0 : Int) ≤ a0) ∧ ((a0 + 5) ≤ 39) := by omega
theorem oz1442 {a0 : Int} (h0 : a0 = 0) : ((0 : Int) ≤ a0) ∧ ((a0 + 7) ≤ 900) := by omega
theorem oz1443 {a0 : Int} (h0 : a0 = 16) : (0 : Int) ≤ a0 := by omega
theorem oz1444 {a0 : Int} (h0 : a0 = 16) : a0 < 32 := by omega
theorem oz1445 {a0 : Int} (h0 : a0 = 4) : a0 < 8 := by omega
theorem oz1446 {a0 : Int} (h0 : a0 = 4) : a0 = 4 := by omega
theorem oz1447 {a0 a1 : Int} (h0 : a0 = 4) (h1 : a1 = a0) : a1 = 4 := by omega
theorem oz1448 {a0 : Int} (h0 : a0 = 17) : (0 : Int) ≤ a0 := by omega
theorem oz1449 {a0 : Int} (h0 : a0 = 17) : a0 < 32 := by omega
theorem oz1450 {a0 : Int} (h0 : a0 = 18) : a0 < 32 := by omega
theorem oz1451 {a0 a1 a2 : Int} (h0 : (0 : Int) ≤ a0) (h1 : (a0 + 3) ≤ 39) (h2 : a1 = a0 + a2) (h3 : a2 = 1) : ((0 : Int) ≤ a1) ∧ ((a1 + 1) ≤ 39) := by omega
theorem oz1452 {a0 a1 a2 a3 : Int} (h0 : a0 ≤ a1) (h1 : (a1 + 4) ≤ 900) (h2 : a2 = a1 + a3) (h3 : a0 = 24) (h4 : a3 = 1) : ((0 : Int) ≤ a2) ∧ ((a2 + 1) ≤ 900) := by omega
theorem oz1453 {a0 a1 a2 a3 a4 : Int} (h0 : a0 ≤ a1) (h1 : (a1 + 4) ≤ 900) (h2 : a2 = a1 + a3) (h3 : a4 = (a2 + 1)) (h4 : a0 = 24) (h5 : a3 = 1) : ((0 : Int) ≤ a4) ∧ ((a4 + 2) ≤ 900) := by omega
theorem oz1454 {a0 a1 a2 a3 a4 : Int} (h0 : a0 = a1 + a2) (h1 : a3 = (a0 + 1)) (h2 : a4 = (a3 + 2)) (h3 : a2 = 1) : a4 = (a1 + 4) := by omega
theorem oz1455 {a0 a1 a2 : Int} (h0 : (0 : Int) ≤ a0) (h1 : (a0 + 4) ≤ 900) (h2 : a1 = a0 + a2) (h3 : a2 = 1) : ((0 : Int) ≤ a1) ∧ ((a1 + 1) ≤ 900) := by omega
theorem oz1456 {a0 a1 a2 : Int} (h0 : a0 = 4) (h1 : a1 = a0) (h2 : a2 = a1) : a2 = 4 := by omega
theorem oz1457 {a0 a1 a2 a3 : Int} (h0 : (0 : Int) ≤ a0) (h1 : (a1 + 4) ≤ 900) (h2 : a2 = a1 + a3) (h3 : a0 = (a2 + 1)) (h4 : a3 = 1) : ((0 : Int) ≤ a0) ∧ ((a0 + 2) ≤ 900) := by omega
theorem oz1458 {a0 : Int} (h0 : a0 = 19) : a0 < 32 := by omega
theorem oz1459 {a0 a1 a2 : Int} (h0 : (a0 + 8) ≤ 900) (h1 : a1 = a0 + a2) (h2 : a2 = 1) : a1 ≤ 1000 := by omega
theorem oz1460 {a0 : Int} (h0 : (0 : Int) ≤ a0) (h1 : (a0 + 7) ≤ 900) : ((0 : Int) ≤ a0) ∧ ((a0 + 3) ≤ 900) := by omega
theorem oz1461 {a0 a1 : Int} (h0 : (0 : Int) ≤ a0) (h1 : (a1 + 7) ≤ 900) (h2 : a0 = (a1 + 3)) : ((0 : Int) ≤ a0) ∧ ((a0 + 4) ≤ 900) := by omega
theorem oz1462 {a0 a1 a2 : Int} (h0 : a0 = (a1 + 3)) (h1 : a2 = (a0 + 4)) : a2 = (a1 + 7) := by omega
theorem oz1463 {a0 a1 a2 a3 : Int} (h0 : a0 ≤ a1) (h1 : (a1 + 8) ≤ 900) (h2 : a2 = a1 + a3) (h3 : a0 = 24) (h4 : a3 = 1) : ((0 : Int) ≤ a2) ∧ ((a2 + 7) ≤ 900) := by omega
theorem oz1464 {a0 a1 a2 a3 : Int} (h0 : a0 = a1 + a2) (h1 : a3 = (a0 + 7)) (h2 : a2 = 1) : a3 = (a1 + 8) := by omega
theorem oz1465 {a0 a1 a2 : Int} (h0 : (0 : Int) ≤ a0) (h1 : (a0 + 8) ≤ 900) (h2 : a1 = a0 + a2) (h3 : a2 = 1) : ((0 : Int) ≤ a1) ∧ ((a1 + 7) ≤ 900) := by omega
theorem oz1466 {a0 : Int} (h0 : a0 = 0) : ((0 : Int) ≤ a0) ∧ ((a0 + 8) ≤ 900) := by omega
theorem oz1467 {a0 : Int} (h0 : a0 = 20) : (0 : Int) ≤ a0 := by omega
theorem oz1468 {a0 : Int} (h0 : a0 = 20) : a0 < 32 := by omega
theorem oz1469 {a0 : Int} (h0 : a0 = 5) : a0 < 8 := by omega
theorem oz1470 {a0 : Int} (h0 : a0 = 5) : a0 = 5 := by omega
theorem oz1471 {a0 a1 : Int} (h0 : a0 = 5) (h1 : a1 = a0) : a1 = 5 := by omega
theorem oz1472 {a0 : Int} (h0 : a0 = 21) : (0 : Int) ≤ a0 := by omega
theorem oz1473 {a0 : Int} (h0 : a0 = 21) : a0 < 32 := by omega
theorem oz1474 {a0 : Int} (h0 : a0 = 22) : (0 : Int) ≤ a0 := by omega
theorem oz1475 {a0 : Int} (h0 : a0 = 22) : a0 < 32 := by omega
theorem oz1476 {a0 : Int} (h0 : a0 = 23) : (0 : Int) ≤ a0 := by omega
theorem oz1477 {a0 : Int} (h0 : a0 = 23) : a0 < 32 := by omega
set_option maxRecDepth 100000 in
theorem kc11_l02_l12 {i : Nat → Int32} {a : Nat → List Int32} {q : Nat → List Int64} {r : Nat → Nat} (hI : kI i a q) (hr : kr r)  : km 1 11 [.int 2, .int 2] (ks i a q r) (kPI (ks i a q r) (fun v => v.toInt = 0)) := by
  have hG := kG_self kW0 hI hr
  refine km_ofPI (q := (mi_h11, mi_c11)) rfl (by decide) (Nat.le_of_ble_eq_true rfl) ?_
  intro P hP
  refine ft_go mi_k11 16 26 [(3, .int 0), (2, .int 2), (0, .int 2), (1, .int 2)] [.int (2 * 4), .ref (mi_RO + 3)] i a q r (by rfl) ?_
  refine ko_eq (x1 := (26, [(3, .int 0), (2, .int 2), (0, .int 2), (1, .int 2)], [.int 8, .ref (mi_RO + 3)], (0, 0), ks i a q r)) (by rw [(by decide : (2 * 4 : Int32) = 8)]) ?_
  refine ft_go mi_k11 2 28 [(3, .int 0), (2, .int 2), (0, .int 2), (1, .int 2)] [.int (8 + 2), .ref (mi_RO + 3)] i a q r (by rfl) ?_
  refine ko_eq (x1 := (28, [(3, .int 0), (2, .int 2), (0, .int 2), (1, .int 2)], [.int 10, .ref (mi_RO + 3)], (0, 0), ks i a q r)) (by rw [(by decide : (8 + 2 : Int32) = 10)]) ?_
  refine ko_iaro2 mi_k11.1 (l := [1, 10, 11, 2, 20, 0, 0, 0, 0, 30, 0, 0, 0, 41, 40, 0, 0, 0, 50, 0, 0, 0, 0, 60, 70, 0, 0, 0, 0, 80, 0, 81]) (n := 32) (c := 32) (ax := (0, 0, 0, 0, 0)) (mi_k11.2 _ _ (by rfl)) (by rfl) (by rfl) rfl rfl (oz1414 kn10) (oz1415 kn10) ?_
  have r1 : ((0 : Int) ≤ (([1, 10, 11, 2, 20, 0, 0, 0, 0, 30, 0, 0, 0, 41, 40, 0, 0, 0, 50, 0, 0, 0, 0, 60, 70, 0, 0, 0, 0, 80, 0, 81] : List Int32).getD (10 : Int32).toNatClampNeg 0).toInt) ∧ ((([1, 10, 11, 2, 20, 0, 0, 0, 0, 30, 0, 0, 0, 41, 40, 0, 0, 0, 50, 0, 0, 0, 0, 60, 70, 0, 0, 0, 0, 80, 0, 81] : List Int32).getD (10 : Int32).toNatClampNeg 0).toInt ≤ 81) := kro_rng (lo := 0) (hi := 81) (by decide) ((10 : Int32).toNatClampNeg)
  refine ko_eq (x1 := (29, [(3, .int 0), (2, .int 2), (0, .int 2), (1, .int 2)], [.int 0], (0, 0), ks i a q r)) (by rw [(by decide : (([1, 10, 11, 2, 20, 0, 0, 0, 0, 30, 0, 0, 0, 41, 40, 0, 0, 0, 50, 0, 0, 0, 0, 60, 70, 0, 0, 0, 0, 80, 0, 81] : List Int32).getD (10 : Int32).toNatClampNeg 0) = 0)]) ?_
  refine ft_go mi_k11 3 38 [(3, .int 0), (2, .int 2), (0, .int 2), (1, .int 2)] [.int 2, .ref (mi_RO + 4)] i a q r (by rfl) ?_
  refine ko_iaro2 mi_k11.1 (l := [(-1), 0, 0, 2, 1, 3, 0, 4]) (n := 8) (c := 8) (ax := (0, 0, 0, 0, 0)) (mi_k11.2 _ _ (by rfl)) (by rfl) (by rfl) rfl rfl (oz256 kn2) (oz1410 kn2) ?_
  have r2 : ((-1 : Int) ≤ (([(-1), 0, 0, 2, 1, 3, 0, 4] : List Int32).getD (2 : Int32).toNatClampNeg 0).toInt) ∧ ((([(-1), 0, 0, 2, 1, 3, 0, 4] : List Int32).getD (2 : Int32).toNatClampNeg 0).toInt ≤ 4) := kro_rng (lo := -1) (hi := 4) (by decide) ((2 : Int32).toNatClampNeg)
  refine ko_eq (x1 := (39, [(3, .int 0), (2, .int 2), (0, .int 2), (1, .int 2)], [.int 0], (0, 0), ks i a q r)) (by rw [(by decide : (([(-1), 0, 0, 2, 1, 3, 0, 4] : List Int32).getD (2 : Int32).toNatClampNeg 0) = 0)]) ?_
  refine ft_go mi_k11 2 43 [(3, .int (0 + 1)), (2, .int 0), (0, .int 2), (1, .int 2)] [] i a q r (by rfl) ?_
  refine ko_eq (x1 := (43, [(3, .int 1), (2, .int 0), (0, .int 2), (1, .int 2)], [], (0, 0), ks i a q r)) (by rw [(by decide : (0 + 1 : Int32) = 1)]) ?_
  refine ft_go mi_k11 7 47 [(3, .int 1), (2, .int 0), (0, .int 2), (1, .int 2)] [.int 0] i a q r (by rfl) ?_
  exact ft_ret mi_k11 (by rfl) (hP 0 (oz236 kn0))
set_option maxRecDepth 100000 in
theorem kc11_l02_l13 {i : Nat → Int32} {a : Nat → List Int32} {q : Nat → List Int64} {r : Nat → Nat} (hI : kI i a q) (hr : kr r)  : km 1 11 [.int 2, .int 3] (ks i a q r) (kPI (ks i a q r) (fun v => v.toInt = 0)) := by
  have hG := kG_self kW0 hI hr
  refine km_ofPI (q := (mi_h11, mi_c11)) rfl (by decide) (Nat.le_of_ble_eq_true rfl) ?_
  intro P hP
  refine ft_go mi_k11 16 26 [(3, .int 0), (2, .int 2), (0, .int 2), (1, .int 3)] [.int (2 * 4), .ref (mi_RO + 3)] i a q r (by rfl) ?_
  refine ko_eq (x1 := (26, [(3, .int 0), (2, .int 2), (0, .int 2), (1, .int 3)], [.int 8, .ref (mi_RO + 3)], (0, 0), ks i a q r)) (by rw [(by decide : (2 * 4 : Int32) = 8)]) ?_
  refine ft_go mi_k11 2 28 [(3, .int 0), (2, .int 2), (0, .int 2), (1, .int 3)] [.int (8 + 3), .ref (mi_RO + 3)] i a q r (by rfl) ?_
  refine ko_eq (x1 := (28, [(3, .int 0), (2, .int 2), (0, .int 2), (1, .int 3)], [.int 11, .ref (mi_RO + 3)], (0, 0), ks i a q r)) (by rw [(by decide : (8 + 3 : Int32) = 11)]) ?_
  refine ko_iaro2 mi_k11.1 (l := [1, 10, 11, 2, 20, 0, 0, 0, 0, 30, 0, 0, 0, 41, 40, 0, 0, 0, 50, 0, 0, 0, 0, 60, 70, 0, 0, 0, 0, 80, 0, 81]) (n := 32) (c := 32) (ax := (0, 0, 0, 0, 0)) (mi_k11.2 _ _ (by rfl)) (by rfl) (by rfl) rfl rfl (oz1416 kn11) (oz1417 kn11) ?_
  have r1 : ((0 : Int) ≤ (([1, 10, 11, 2, 20, 0, 0, 0, 0, 30, 0, 0, 0, 41, 40, 0, 0, 0, 50, 0, 0, 0, 0, 60, 70, 0, 0, 0, 0, 80, 0, 81] : List Int32).getD (11 : Int32).toNatClampNeg 0).toInt) ∧ ((([1, 10, 11, 2, 20, 0, 0, 0, 0, 30, 0, 0, 0, 41, 40, 0, 0, 0, 50, 0, 0, 0, 0, 60, 70, 0, 0, 0, 0, 80, 0, 81] : List Int32).getD (11 : Int32).toNatClampNeg 0).toInt ≤ 81) := kro_rng (lo := 0) (hi := 81) (by decide) ((11 : Int32).toNatClampNeg)
  refine ko_eq (x1 := (29, [(3, .int 0), (2, .int 2), (0, .int 2), (1, .int 3)], [.int 0], (0, 0), ks i a q r)) (by rw [(by decide : (([1, 10, 11, 2, 20, 0, 0, 0, 0, 30, 0, 0, 0, 41, 40, 0, 0, 0, 50, 0, 0, 0, 0, 60, 70, 0, 0, 0, 0, 80, 0, 81] : List Int32).getD (11 : Int32).toNatClampNeg 0) = 0)]) ?_
  refine ft_go mi_k11 3 38 [(3, .int 0), (2, .int 2), (0, .int 2), (1, .int 3)] [.int 2, .ref (mi_RO + 4)] i a q r (by rfl) ?_
  refine ko_iaro2 mi_k11.1 (l := [(-1), 0, 0, 2, 1, 3, 0, 4]) (n := 8) (c := 8) (ax := (0, 0, 0, 0, 0)) (mi_k11.2 _ _ (by rfl)) (by rfl) (by rfl) rfl rfl (oz256 kn2) (oz1410 kn2) ?_
  have r2 : ((-1 : Int) ≤ (([(-1), 0, 0, 2, 1, 3, 0, 4] : List Int32).getD (2 : Int32).toNatClampNeg 0).toInt) ∧ ((([(-1), 0, 0, 2, 1, 3, 0, 4] : List Int32).getD (2 : Int32).toNatClampNeg 0).toInt ≤ 4) := kro_rng (lo := -1) (hi := 4) (by decide) ((2 : Int32).toNatClampNeg)
  refine ko_eq (x1 := (39, [(3, .int 0), (2, .int 2), (0, .int 2), (1, .int 3)], [.int 0], (0, 0), ks i a q r)) (by rw [(by decide : (([(-1), 0, 0, 2, 1, 3, 0, 4] : List Int32).getD (2 : Int32).toNatClampNeg 0) = 0)]) ?_
  refine ft_go mi_k11 2 43 [(3, .int (0 + 1)), (2, .int 0), (0, .int 2), (1, .int 3)] [] i a q r (by rfl) ?_
  refine ko_eq (x1 := (43, [(3, .int 1), (2, .int 0), (0, .int 2), (1, .int 3)], [], (0, 0), ks i a q r)) (by rw [(by decide : (0 + 1 : Int32) = 1)]) ?_
  refine ft_go mi_k11 7 47 [(3, .int 1), (2, .int 0), (0, .int 2), (1, .int 3)] [.int 0] i a q r (by rfl) ?_
  exact ft_ret mi_k11 (by rfl) (hP 0 (oz236 kn0))
set_option maxRecDepth 100000 in
theorem kc11_l03_l10 {i : Nat → Int32} {a : Nat → List Int32} {q : Nat → List Int64} {r : Nat → Nat} (hI : kI i a q) (hr : kr r)  : km 1 11 [.int 3, .int 0] (ks i a q r) (kPI (ks i a q r) (fun v => v.toInt = 0)) := by
  have hG := kG_self kW0 hI hr
  refine km_ofPI (q := (mi_h11, mi_c11)) rfl (by decide) (Nat.le_of_ble_eq_true rfl) ?_
  intro P hP
  refine ft_go mi_k11 16 26 [(3, .int 0), (2, .int 3), (0, .int 3), (1, .int 0)] [.int (3 * 4), .ref (mi_RO + 3)] i a q r (by rfl) ?_
  refine ko_eq (x1 := (26, [(3, .int 0), (2, .int 3), (0, .int 3), (1, .int 0)], [.int 12, .ref (mi_RO + 3)], (0, 0), ks i a q r)) (by rw [(by decide : (3 * 4 : Int32) = 12)]) ?_
  refine ft_go mi_k11 2 28 [(3, .int 0), (2, .int 3), (0, .int 3), (1, .int 0)] [.int (12 + 0), .ref (mi_RO + 3)] i a q r (by rfl) ?_
  refine ko_eq (x1 := (28, [(3, .int 0), (2, .int 3), (0, .int 3), (1, .int 0)], [.int 12, .ref (mi_RO + 3)], (0, 0), ks i a q r)) (by rw [(by decide : (12 + 0 : Int32) = 12)]) ?_
  refine ko_iaro2 mi_k11.1 (l := [1, 10, 11, 2, 20, 0, 0, 0, 0, 30, 0, 0, 0, 41, 40, 0, 0, 0, 50, 0, 0, 0, 0, 60, 70, 0, 0, 0, 0, 80, 0, 81]) (n := 32) (c := 32) (ax := (0, 0, 0, 0, 0)) (mi_k11.2 _ _ (by rfl)) (by rfl) (by rfl) rfl rfl (oz1418 kn12) (oz1419 kn12) ?_
  have r1 : ((0 : Int) ≤ (([1, 10, 11, 2, 20, 0, 0, 0, 0, 30, 0, 0, 0, 41, 40, 0, 0, 0, 50, 0, 0, 0, 0, 60, 70, 0, 0, 0, 0, 80, 0, 81] : List Int32).getD (12 : Int32).toNatClampNeg 0).toInt) ∧ ((([1, 10, 11, 2, 20, 0, 0, 0, 0, 30, 0, 0, 0, 41, 40, 0, 0, 0, 50, 0, 0, 0, 0, 60, 70, 0, 0, 0, 0, 80, 0, 81] : List Int32).getD (12 : Int32).toNatClampNeg 0).toInt ≤ 81) := kro_rng (lo := 0) (hi := 81) (by decide) ((12 : Int32).toNatClampNeg)
  refine ko_eq (x1 := (29, [(3, .int 0), (2, .int 3), (0, .int 3), (1, .int 0)], [.int 0], (0, 0), ks i a q r)) (by rw [(by decide : (([1, 10, 11, 2, 20, 0, 0, 0, 0, 30, 0, 0, 0, 41, 40, 0, 0, 0, 50, 0, 0, 0, 0, 60, 70, 0, 0, 0, 0, 80, 0, 81] : List Int32).getD (12 : Int32).toNatClampNeg 0) = 0)]) ?_
  refine ft_go mi_k11 3 38 [(3, .int 0), (2, .int 3), (0, .int 3), (1, .int 0)] [.int 3, .ref (mi_RO + 4)] i a q r (by rfl) ?_
  refine ko_iaro2 mi_k11.1 (l := [(-1), 0, 0, 2, 1, 3, 0, 4]) (n := 8) (c := 8) (ax := (0, 0, 0, 0, 0)) (mi_k11.2 _ _ (by rfl)) (by rfl) (by rfl) rfl rfl (oz260 kn3) (oz1420 kn3) ?_
  have r2 : ((-1 : Int) ≤ (([(-1), 0, 0, 2, 1, 3, 0, 4] : List Int32).getD (3 : Int32).toNatClampNeg 0).toInt) ∧ ((([(-1), 0, 0, 2, 1, 3, 0, 4] : List Int32).getD (3 : Int32).toNatClampNeg 0).toInt ≤ 4) := kro_rng (lo := -1) (hi := 4) (by decide) ((3 : Int32).toNatClampNeg)
  refine ko_eq (x1 := (39, [(3, .int 0), (2, .int 3), (0, .int 3), (1, .int 0)], [.int 2], (0, 0), ks i a q r)) (by rw [(by decide : (([(-1), 0, 0, 2, 1, 3, 0, 4] : List Int32).getD (3 : Int32).toNatClampNeg 0) = 2)]) ?_
  refine ft_go mi_k11 2 43 [(3, .int (0 + 1)), (2, .int 2), (0, .int 3), (1, .int 0)] [] i a q r (by rfl) ?_
  refine ko_eq (x1 := (43, [(3, .int 1), (2, .int 2), (0, .int 3), (1, .int 0)], [], (0, 0), ks i a q r)) (by rw [(by decide : (0 + 1 : Int32) = 1)]) ?_
  refine ft_go mi_k11 13 26 [(3, .int 1), (2, .int 2), (0, .int 3), (1, .int 0)] [.int (2 * 4), .ref (mi_RO + 3)] i a q r (by rfl) ?_
  refine ko_eq (x1 := (26, [(3, .int 1), (2, .int 2), (0, .int 3), (1, .int 0)], [.int 8, .ref (mi_RO + 3)], (0, 0), ks i a q r)) (by rw [(by decide : (2 * 4 : Int32) = 8)]) ?_
  refine ft_go mi_k11 2 28 [(3, .int 1), (2, .int 2), (0, .int 3), (1, .int 0)] [.int (8 + 0), .ref (mi_RO + 3)] i a q r (by rfl) ?_
  refine ko_eq (x1 := (28, [(3, .int 1), (2, .int 2), (0, .int 3), (1, .int 0)], [.int 8, .ref (mi_RO + 3)], (0, 0), ks i a q r)) (by rw [(by decide : (8 + 0 : Int32) = 8)]) ?_
  refine ko_iaro2 mi_k11.1 (l := [1, 10, 11, 2, 20, 0, 0, 0, 0, 30, 0, 0, 0, 41, 40, 0, 0, 0, 50, 0, 0, 0, 0, 60, 70, 0, 0, 0, 0, 80, 0, 81]) (n := 32) (c := 32) (ax := (0, 0, 0, 0, 0)) (mi_k11.2 _ _ (by rfl)) (by rfl) (by rfl) rfl rfl (oz85 kn8) (oz1409 kn8) ?_
  have r3 : ((0 : Int) ≤ (([1, 10, 11, 2, 20, 0, 0, 0, 0, 30, 0, 0, 0, 41, 40, 0, 0, 0, 50, 0, 0, 0, 0, 60, 70, 0, 0, 0, 0, 80, 0, 81] : List Int32).getD (8 : Int32).toNatClampNeg 0).toInt) ∧ ((([1, 10, 11, 2, 20, 0, 0, 0, 0, 30, 0, 0, 0, 41, 40, 0, 0, 0, 50, 0, 0, 0, 0, 60, 70, 0, 0, 0, 0, 80, 0, 81] : List Int32).getD (8 : Int32).toNatClampNeg 0).toInt ≤ 81) := kro_rng (lo := 0) (hi := 81) (by decide) ((8 : Int32).toNatClampNeg)
  refine ko_eq (x1 := (29, [(3, .int 1), (2, .int 2), (0, .int 3), (1, .int 0)], [.int 0], (0, 0), ks i a q r)) (by rw [(by decide : (([1, 10, 11, 2, 20, 0, 0, 0, 0, 30, 0, 0, 0, 41, 40, 0, 0, 0, 50, 0, 0, 0, 0, 60, 70, 0, 0, 0, 0, 80, 0, 81] : List Int32).getD (8 : Int32).toNatClampNeg 0) = 0)]) ?_
  refine ft_go mi_k11 3 38 [(3, .int 1), (2, .int 2), (0, .int 3), (1, .int 0)] [.int 2, .ref (mi_RO + 4)] i a q r (by rfl) ?_
  refine ko_iaro2 mi_k11.1 (l := [(-1), 0, 0, 2, 1, 3, 0, 4]) (n := 8) (c := 8) (ax := (0, 0, 0, 0, 0)) (mi_k11.2 _ _ (by rfl)) (by rfl) (by rfl) rfl rfl (oz256 kn2) (oz1410 kn2) ?_
  have r4 : ((-1 : Int) ≤ (([(-1), 0, 0, 2, 1, 3, 0, 4] : List Int32).getD (2 : Int32).toNatClampNeg 0).toInt) ∧ ((([(-1), 0, 0, 2, 1, 3, 0, 4] : List Int32).getD (2 : Int32).toNatClampNeg 0).toInt ≤ 4) := kro_rng (lo := -1) (hi := 4) (by decide) ((2 : Int32).toNatClampNeg)
  refine ko_eq (x1 := (39, [(3, .int 1), (2, .int 2), (0, .int 3), (1, .int 0)], [.int 0], (0, 0), ks i a q r)) (by rw [(by decide : (([(-1), 0, 0, 2, 1, 3, 0, 4] : List Int32).getD (2 : Int32).toNatClampNeg 0) = 0)]) ?_
  refine ft_go mi_k11 2 43 [(3, .int (1 + 1)), (2, .int 0), (0, .int 3), (1, .int 0)] [] i a q r (by rfl) ?_
  refine ko_eq (x1 := (43, [(3, .int 2), (2, .int 0), (0, .int 3), (1, .int 0)], [], (0, 0), ks i a q r)) (by rw [(by decide : (1 + 1 : Int32) = 2)]) ?_
  refine ft_go mi_k11 7 47 [(3, .int 2), (2, .int 0), (0, .int 3), (1, .int 0)] [.int 0] i a q r (by rfl) ?_
  exact ft_ret mi_k11 (by rfl) (hP 0 (oz236 kn0))
set_option maxRecDepth 100000 in
theorem kc11_l03_l11 {i : Nat → Int32} {a : Nat → List Int32} {q : Nat → List Int64} {r : Nat → Nat} (hI : kI i a q) (hr : kr r)  : km 1 11 [.int 3, .int 1] (ks i a q r) (kPI (ks i a q r) (fun v => v.toInt = 3)) := by
  have hG := kG_self kW0 hI hr
  refine km_ofPI (q := (mi_h11, mi_c11)) rfl (by decide) (Nat.le_of_ble_eq_true rfl) ?_
  intro P hP
  refine ft_go mi_k11 16 26 [(3, .int 0), (2, .int 3), (0, .int 3), (1, .int 1)] [.int (3 * 4), .ref (mi_RO + 3)] i a q r (by rfl) ?_
  refine ko_eq (x1 := (26, [(3, .int 0), (2, .int 3), (0, .int 3), (1, .int 1)], [.int 12, .ref (mi_RO + 3)], (0, 0), ks i a q r)) (by rw [(by decide : (3 * 4 : Int32) = 12)]) ?_
  refine ft_go mi_k11 2 28 [(3, .int 0), (2, .int 3), (0, .int 3), (1, .int 1)] [.int (12 + 1), .ref (mi_RO + 3)] i a q r (by rfl) ?_
  refine ko_eq (x1 := (28, [(3, .int 0), (2, .int 3), (0, .int 3), (1, .int 1)], [.int 13, .ref (mi_RO + 3)], (0, 0), ks i a q r)) (by rw [(by decide : (12 + 1 : Int32) = 13)]) ?_
  refine ko_iaro2 mi_k11.1 (l := [1, 10, 11, 2, 20, 0, 0, 0, 0, 30, 0, 0, 0, 41, 40, 0, 0, 0, 50, 0, 0, 0, 0, 60, 70, 0, 0, 0, 0, 80, 0, 81]) (n := 32) (c := 32) (ax := (0, 0, 0, 0, 0)) (mi_k11.2 _ _ (by rfl)) (by rfl) (by rfl) rfl rfl (oz1423 kn13) (oz1424 kn13) ?_
  have r1 : ((0 : Int) ≤ (([1, 10, 11, 2, 20, 0, 0, 0, 0, 30, 0, 0, 0, 41, 40, 0, 0, 0, 50, 0, 0, 0, 0, 60, 70, 0, 0, 0, 0, 80, 0, 81] : List Int32).getD (13 : Int32).toNatClampNeg 0).toInt) ∧ ((([1, 10, 11, 2, 20, 0, 0, 0, 0, 30, 0, 0, 0, 41, 40, 0, 0, 0, 50, 0, 0, 0, 0, 60, 70, 0, 0, 0, 0, 80, 0, 81] : List Int32).getD (13 : Int32).toNatClampNeg 0).toInt ≤ 81) := kro_rng (lo := 0) (hi := 81) (by decide) ((13 : Int32).toNatClampNeg)
  refine ko_eq (x1 := (29, [(3, .int 0), (2, .int 3), (0, .int 3), (1, .int 1)], [.int 41], (0, 0), ks i a q r)) (by rw [(by decide : (([1, 10, 11, 2, 20, 0, 0, 0, 0, 30, 0, 0, 0, 41, 40, 0, 0, 0, 50, 0, 0, 0, 0, 60, 70, 0, 0, 0, 0, 80, 0, 81] : List Int32).getD (13 : Int32).toNatClampNeg 0) = 41)]) ?_
  refine ft_go mi_k11 2 33 [(3, .int 0), (2, .int 3), (0, .int 3), (1, .int 1)] [.int 3] i a q r (by rfl) ?_
  exact ft_ret mi_k11 (by rfl) (hP 3 (oz1421 kn3))
set_option maxRecDepth 100000 in
theorem kc11_l03_l12 {i : Nat → Int32} {a : Nat → List Int32} {q : Nat → List Int64} {r : Nat → Nat} (hI : kI i a q) (hr : kr r)  : km 1 11 [.int 3, .int 2] (ks i a q r) (kPI (ks i a q r) (fun v => v.toInt = 3)) := by
  have hG := kG_self kW0 hI hr
  refine km_ofPI (q := (mi_h11, mi_c11)) rfl (by decide) (Nat.le_of_ble_eq_true rfl) ?_
  intro P hP
  refine ft_go mi_k11 16 26 [(3, .int 0), (2, .int 3), (0, .int 3), (1, .int 2)] [.int (3 * 4), .ref (mi_RO + 3)] i a q r (by rfl) ?_
  refine ko_eq (x1 := (26, [(3, .int 0), (2, .int 3), (0, .int 3), (1, .int 2)], [.int 12, .ref (mi_RO + 3)], (0, 0), ks i a q r)) (by rw [(by decide : (3 * 4 : Int32) = 12)]) ?_
  refine ft_go mi_k11 2 28 [(3, .int 0), (2, .int 3), (0, .int 3), (1, .int 2)] [.int (12 + 2), .ref (mi_RO + 3)] i a q r (by rfl) ?_
  refine ko_eq (x1 := (28, [(3, .int 0), (2, .int 3), (0, .int 3), (1, .int 2)], [.int 14, .ref (mi_RO + 3)], (0, 0), ks i a q r)) (by rw [(by decide : (12 + 2 : Int32) = 14)]) ?_
  refine ko_iaro2 mi_k11.1 (l := [1, 10, 11, 2, 20, 0, 0, 0, 0, 30, 0, 0, 0, 41, 40, 0, 0, 0, 50, 0, 0, 0, 0, 60, 70, 0, 0, 0, 0, 80, 0, 81]) (n := 32) (c := 32) (ax := (0, 0, 0, 0, 0)) (mi_k11.2 _ _ (by rfl)) (by rfl) (by rfl) rfl rfl (oz1425 kn14) (oz1426 kn14) ?_
  have r1 : ((0 : Int) ≤ (([1, 10, 11, 2, 20, 0, 0, 0, 0, 30, 0, 0, 0, 41, 40, 0, 0, 0, 50, 0, 0, 0, 0, 60, 70, 0, 0, 0, 0, 80, 0, 81] : List Int32).getD (14 : Int32).toNatClampNeg 0).toInt) ∧ ((([1, 10, 11, 2, 20, 0, 0, 0, 0, 30, 0, 0, 0, 41, 40, 0, 0, 0, 50, 0, 0, 0, 0, 60, 70, 0, 0, 0, 0, 80, 0, 81] : List Int32).getD (14 : Int32).toNatClampNeg 0).toInt ≤ 81) := kro_rng (lo := 0) (hi := 81) (by decide) ((14 : Int32).toNatClampNeg)
  refine ko_eq (x1 := (29, [(3, .int 0), (2, .int 3), (0, .int 3), (1, .int 2)], [.int 40], (0, 0), ks i a q r)) (by rw [(by decide : (([1, 10, 11, 2, 20, 0, 0, 0, 0, 30, 0, 0, 0, 41, 40, 0, 0, 0, 50, 0, 0, 0, 0, 60, 70, 0, 0, 0, 0, 80, 0, 81] : List Int32).getD (14 : Int32).toNatClampNeg 0) = 40)]) ?_
  refine ft_go mi_k11 2 33 [(3, .int 0), (2, .int 3), (0, .int 3), (1, .int 2)] [.int 3] i a q r (by rfl) ?_
  exact ft_ret mi_k11 (by rfl) (hP 3 (oz1421 kn3))
set_option maxRecDepth 100000 in
theorem kc11_l03_l13 {i : Nat → Int32} {a : Nat → List Int32} {q : Nat → List Int64} {r : Nat → Nat} (hI : kI i a q) (hr : kr r)  : km 1 11 [.int 3, .int 3] (ks i a q r) (kPI (ks i a q r) (fun v => v.toInt = 0)) := by
  have hG := kG_self kW0 hI hr
  refine km_ofPI (q := (mi_h11, mi_c11)) rfl (by decide) (Nat.le_of_ble_eq_true rfl) ?_
  intro P hP
  refine ft_go mi_k11 16 26 [(3, .int 0), (2, .int 3), (0, .int 3), (1, .int 3)] [.int (3 * 4), .ref (mi_RO + 3)] i a q r (by rfl) ?_
  refine ko_eq (x1 := (26, [(3, .int 0), (2, .int 3), (0, .int 3), (1, .int 3)], [.int 12, .ref (mi_RO + 3)], (0, 0), ks i a q r)) (by rw [(by decide : (3 * 4 : Int32) = 12)]) ?_
  refine ft_go mi_k11 2 28 [(3, .int 0), (2, .int 3), (0, .int 3), (1, .int 3)] [.int (12 + 3), .ref (mi_RO + 3)] i a q r (by rfl) ?_
  refine ko_eq (x1 := (28, [(3, .int 0), (2, .int 3), (0, .int 3), (1, .int 3)], [.int 15, .ref (mi_RO + 3)], (0, 0), ks i a q r)) (by rw [(by decide : (12 + 3 : Int32) = 15)]) ?_
  refine ko_iaro2 mi_k11.1 (l := [1, 10, 11, 2, 20, 0, 0, 0, 0, 30, 0, 0, 0, 41, 40, 0, 0, 0, 50, 0, 0, 0, 0, 60, 70, 0, 0, 0, 0, 80, 0, 81]) (n := 32) (c := 32) (ax := (0, 0, 0, 0, 0)) (mi_k11.2 _ _ (by rfl)) (by rfl) (by rfl) rfl rfl (oz1427 kn15) (oz1428 kn15) ?_
  have r1 : ((0 : Int) ≤ (([1, 10, 11, 2, 20, 0, 0, 0, 0, 30, 0, 0, 0, 41, 40, 0, 0, 0, 50, 0, 0, 0, 0, 60, 70, 0, 0, 0, 0, 80, 0, 81] : List Int32).getD (15 : Int32).toNatClampNeg 0).toInt) ∧ ((([1, 10, 11, 2, 20, 0, 0, 0, 0, 30, 0, 0, 0, 41, 40, 0, 0, 0, 50, 0, 0, 0, 0, 60, 70, 0, 0, 0, 0, 80, 0, 81] : List Int32).getD (15 : Int32).toNatClampNeg 0).toInt ≤ 81) := kro_rng (lo := 0) (hi := 81) (by decide) ((15 : Int32).toNatClampNeg)
  refine ko_eq (x1 := (29, [(3, .int 0), (2, .int 3), (0, .int 3), (1, .int 3)], [.int 0], (0, 0), ks i a q r)) (by rw [(by decide : (([1, 10, 11, 2, 20, 0, 0, 0, 0, 30, 0, 0, 0, 41, 40, 0, 0, 0, 50, 0, 0, 0, 0, 60, 70, 0, 0, 0, 0, 80, 0, 81] : List Int32).getD (15 : Int32).toNatClampNeg 0) = 0)]) ?_
  refine ft_go mi_k11 3 38 [(3, .int 0), (2, .int 3), (0, .int 3), (1, .int 3)] [.int 3, .ref (mi_RO + 4)] i a q r (by rfl) ?_
  refine ko_iaro2 mi_k11.1 (l := [(-1), 0, 0, 2, 1, 3, 0, 4]) (n := 8) (c := 8) (ax := (0, 0, 0, 0, 0)) (mi_k11.2 _ _ (by rfl)) (by rfl) (by rfl) rfl rfl (oz260 kn3) (oz1420 kn3) ?_
  have r2 : ((-1 : Int) ≤ (([(-1), 0, 0, 2, 1, 3, 0, 4] : List Int32).getD (3 : Int32).toNatClampNeg 0).toInt) ∧ ((([(-1), 0, 0, 2, 1, 3, 0, 4] : List Int32).getD (3 : Int32).toNatClampNeg 0).toInt ≤ 4) := kro_rng (lo := -1) (hi := 4) (by decide) ((3 : Int32).toNatClampNeg)
  refine ko_eq (x1 := (39, [(3, .int 0), (2, .int 3), (0, .int 3), (1, .int 3)], [.int 2], (0, 0), ks i a q r)) (by rw [(by decide : (([(-1), 0, 0, 2, 1, 3, 0, 4] : List Int32).getD (3 : Int32).toNatClampNeg 0) = 2)]) ?_
  refine ft_go mi_k11 2 43 [(3, .int (0 + 1)), (2, .int 2), (0, .int 3), (1, .int 3)] [] i a q r (by rfl) ?_
  refine ko_eq (x1 := (43, [(3, .int 1), (2, .int 2), (0, .int 3), (1, .int 3)], [], (0, 0), ks i a q r)) (by rw [(by decide : (0 + 1 : Int32) = 1)]) ?_
  refine ft_go mi_k11 13 26 [(3, .int 1), (2, .int 2), (0, .int 3), (1, .int 3)] [.int (2 * 4), .ref (mi_RO + 3)] i a q r (by rfl) ?_
  refine ko_eq (x1 := (26, [(3, .int 1), (2, .int 2), (0, .int 3), (1, .int 3)], [.int 8, .ref (mi_RO + 3)], (0, 0), ks i a q r)) (by rw [(by decide : (2 * 4 : Int32) = 8)]) ?_
  refine ft_go mi_k11 2 28 [(3, .int 1), (2, .int 2), (0, .int 3), (1, .int 3)] [.int (8 + 3), .ref (mi_RO + 3)] i a q r (by rfl) ?_
  refine ko_eq (x1 := (28, [(3, .int 1), (2, .int 2), (0, .int 3), (1, .int 3)], [.int 11, .ref (mi_RO + 3)], (0, 0), ks i a q r)) (by rw [(by decide : (8 + 3 : Int32) = 11)]) ?_
  refine ko_iaro2 mi_k11.1 (l := [1, 10, 11, 2, 20, 0, 0, 0, 0, 30, 0, 0, 0, 41, 40, 0, 0, 0, 50, 0, 0, 0, 0, 60, 70, 0, 0, 0, 0, 80, 0, 81]) (n := 32) (c := 32) (ax := (0, 0, 0, 0, 0)) (mi_k11.2 _ _ (by rfl)) (by rfl) (by rfl) rfl rfl (oz1416 kn11) (oz1417 kn11) ?_
  have r3 : ((0 : Int) ≤ (([1, 10, 11, 2, 20, 0, 0, 0, 0, 30, 0, 0, 0, 41, 40, 0, 0, 0, 50, 0, 0, 0, 0, 60, 70, 0, 0, 0, 0, 80, 0, 81] : List Int32).getD (11 : Int32).toNatClampNeg 0).toInt) ∧ ((([1, 10, 11, 2, 20, 0, 0, 0, 0, 30, 0, 0, 0, 41, 40, 0, 0, 0, 50, 0, 0, 0, 0, 60, 70, 0, 0, 0, 0, 80, 0, 81] : List Int32).getD (11 : Int32).toNatClampNeg 0).toInt ≤ 81) := kro_rng (lo := 0) (hi := 81) (by decide) ((11 : Int32).toNatClampNeg)
  refine ko_eq (x1 := (29, [(3, .int 1), (2, .int 2), (0, .int 3), (1, .int 3)], [.int 0], (0, 0), ks i a q r)) (by rw [(by decide : (([1, 10, 11, 2, 20, 0, 0, 0, 0, 30, 0, 0, 0, 41, 40, 0, 0, 0, 50, 0, 0, 0, 0, 60, 70, 0, 0, 0, 0, 80, 0, 81] : List Int32).getD (11 : Int32).toNatClampNeg 0) = 0)]) ?_
  refine ft_go mi_k11 3 38 [(3, .int 1), (2, .int 2), (0, .int 3), (1, .int 3)] [.int 2, .ref (mi_RO + 4)] i a q r (by rfl) ?_
  refine ko_iaro2 mi_k11.1 (l := [(-1), 0, 0, 2, 1, 3, 0, 4]) (n := 8) (c := 8) (ax := (0, 0, 0, 0, 0)) (mi_k11.2 _ _ (by rfl)) (by rfl) (by rfl) rfl rfl (oz256 kn2) (oz1410 kn2) ?_
  have r4 : ((-1 : Int) ≤ (([(-1), 0, 0, 2, 1, 3, 0, 4] : List Int32).getD (2 : Int32).toNatClampNeg 0).toInt) ∧ ((([(-1), 0, 0, 2, 1, 3, 0, 4] : List Int32).getD (2 : Int32).toNatClampNeg 0).toInt ≤ 4) := kro_rng (lo := -1) (hi := 4) (by decide) ((2 : Int32).toNatClampNeg)
  refine ko_eq (x1 := (39, [(3, .int 1), (2, .int 2), (0, .int 3), (1, .int 3)], [.int 0], (0, 0), ks i a q r)) (by rw [(by decide : (([(-1), 0, 0, 2, 1, 3, 0, 4] : List Int32).getD (2 : Int32).toNatClampNeg 0) = 0)]) ?_
  refine ft_go mi_k11 2 43 [(3, .int (1 + 1)), (2, .int 0), (0, .int 3), (1, .int 3)] [] i a q r (by rfl) ?_
  refine ko_eq (x1 := (43, [(3, .int 2), (2, .int 0), (0, .int 3), (1, .int 3)], [], (0, 0), ks i a q r)) (by rw [(by decide : (1 + 1 : Int32) = 2)]) ?_
  refine ft_go mi_k11 7 47 [(3, .int 2), (2, .int 0), (0, .int 3), (1, .int 3)] [.int 0] i a q r (by rfl) ?_
  exact ft_ret mi_k11 (by rfl) (hP 0 (oz236 kn0))
set_option maxRecDepth 100000 in
theorem kc11_l04_l10 {i : Nat → Int32} {a : Nat → List Int32} {q : Nat → List Int64} {r : Nat → Nat} (hI : kI i a q) (hr : kr r)  : km 1 11 [.int 4, .int 0] (ks i a q r) (kPI (ks i a q r) (fun v => v.toInt = 1)) := by
  have hG := kG_self kW0 hI hr
  refine km_ofPI (q := (mi_h11, mi_c11)) rfl (by decide) (Nat.le_of_ble_eq_true rfl) ?_
  intro P hP
  refine ft_go mi_k11 16 26 [(3, .int 0), (2, .int 4), (0, .int 4), (1, .int 0)] [.int (4 * 4), .ref (mi_RO + 3)] i a q r (by rfl) ?_
  refine ko_eq (x1 := (26, [(3, .int 0), (2, .int 4), (0, .int 4), (1, .int 0)], [.int 16, .ref (mi_RO + 3)], (0, 0), ks i a q r)) (by rw [(by decide : (4 * 4 : Int32) = 16)]) ?_
  refine ft_go mi_k11 2 28 [(3, .int 0), (2, .int 4), (0, .int 4), (1, .int 0)] [.int (16 + 0), .ref (mi_RO + 3)] i a q r (by rfl) ?_
  refine ko_eq (x1 := (28, [(3, .int 0), (2, .int 4), (0, .int 4), (1, .int 0)], [.int 16, .ref (mi_RO + 3)], (0, 0), ks i a q r)) (by rw [(by decide : (16 + 0 : Int32) = 16)]) ?_
  refine ko_iaro2 mi_k11.1 (l := [1, 10, 11, 2, 20, 0, 0, 0, 0, 30, 0, 0, 0, 41, 40, 0, 0, 0, 50, 0, 0, 0, 0, 60, 70, 0, 0, 0, 0, 80, 0, 81]) (n := 32) (c := 32) (ax := (0, 0, 0, 0, 0)) (mi_k11.2 _ _ (by rfl)) (by rfl) (by rfl) rfl rfl (oz1443 kn16) (oz1444 kn16) ?_
  have r1 : ((0 : Int) ≤ (([1, 10, 11, 2, 20, 0, 0, 0, 0, 30, 0, 0, 0, 41, 40, 0, 0, 0, 50, 0, 0, 0, 0, 60, 70, 0, 0, 0, 0, 80, 0, 81] : List Int32).getD (16 : Int32).toNatClampNeg 0).toInt) ∧ ((([1, 10, 11, 2, 20, 0, 0, 0, 0, 30, 0, 0, 0, 41, 40, 0, 0, 0, 50, 0, 0, 0, 0, 60, 70, 0, 0, 0, 0, 80, 0, 81] : List Int32).getD (16 : Int32).toNatClampNeg 0).toInt ≤ 81) := kro_rng (lo := 0) (hi := 81) (by decide) ((16 : Int32).toNatClampNeg)
  refine ko_eq (x1 := (29, [(3, .int 0), (2, .int 4), (0, .int 4), (1, .int 0)], [.int 0], (0, 0), ks i a q r)) (by rw [(by decide : (([1, 10, 11, 2, 20, 0, 0, 0, 0, 30, 0, 0, 0, 41, 40, 0, 0, 0, 50, 0, 0, 0, 0, 60, 70, 0, 0, 0, 0, 80, 0, 81] : List Int32).getD (16 : Int32).toNatClampNeg 0) = 0)]) ?_
  refine ft_go mi_k11 3 38 [(3, .int 0), (2, .int 4), (0, .int 4), (1, .int 0)] [.int 4, .ref (mi_RO + 4)] i a q r (by rfl) ?_
  refine ko_iaro2 mi_k11.1 (l := [(-1), 0, 0, 2, 1, 3, 0, 4]) (n := 8) (c := 8) (ax := (0, 0, 0, 0, 0)) (mi_k11.2 _ _ (by rfl)) (by rfl) (by rfl) rfl rfl (oz262 kn4) (oz1445 kn4) ?_
  have r2 : ((-1 : Int) ≤ (([(-1), 0, 0, 2, 1, 3, 0, 4] : List Int32).getD (4 : Int32).toNatClampNeg 0).toInt) ∧ ((([(-1), 0, 0, 2, 1, 3, 0, 4] : List Int32).getD (4 : Int32).toNatClampNeg 0).toInt ≤ 4) := kro_rng (lo := -1) (hi := 4) (by decide) ((4 : Int32).toNatClampNeg)
  refine ko_eq (x1 := (39, [(3, .int 0), (2, .int 4), (0, .int 4), (1, .int 0)], [.int 1], (0, 0), ks i a q r)) (by rw [(by decide : (([(-1), 0, 0, 2, 1, 3, 0, 4] : List Int32).getD (4 : Int32).toNatClampNeg 0) = 1)]) ?_
  refine ft_go mi_k11 2 43 [(3, .int (0 + 1)), (2, .int 1), (0, .int 4), (1, .int 0)] [] i a q r (by rfl) ?_
  refine ko_eq (x1 := (43, [(3, .int 1), (2, .int 1), (0, .int 4), (1, .int 0)], [], (0, 0), ks i a q r)) (by rw [(by decide : (0 + 1 : Int32) = 1)]) ?_
  refine ft_go mi_k11 13 26 [(3, .int 1), (2, .int 1), (0, .int 4), (1, .int 0)] [.int (1 * 4), .ref (mi_RO + 3)] i a q r (by rfl) ?_
  refine ko_eq (x1 := (26, [(3, .int 1), (2, .int 1), (0, .int 4), (1, .int 0)], [.int 4, .ref (mi_RO + 3)], (0, 0), ks i a q r)) (by rw [(by decide : (1 * 4 : Int32) = 4)]) ?_
  refine ft_go mi_k11 2 28 [(3, .int 1), (2, .int 1), (0, .int 4), (1, .int 0)] [.int (4 + 0), .ref (mi_RO + 3)] i a q r (by rfl) ?_
  refine ko_eq (x1 := (28, [(3, .int 1), (2, .int 1), (0, .int 4), (1, .int 0)], [.int 4, .ref (mi_RO + 3)], (0, 0), ks i a q r)) (by rw [(by decide : (4 + 0 : Int32) = 4)]) ?_
  refine ko_iaro2 mi_k11.1 (l := [1, 10, 11, 2, 20, 0, 0, 0, 0, 30, 0, 0, 0, 41, 40, 0, 0, 0, 50, 0, 0, 0, 0, 60, 70, 0, 0, 0, 0, 80, 0, 81]) (n := 32) (c := 32) (ax := (0, 0, 0, 0, 0)) (mi_k11.2 _ _ (by rfl)) (by rfl) (by rfl) rfl rfl (oz262 kn4) (oz1380 kn4) ?_
  have r3 : ((0 : Int) ≤ (([1, 10, 11, 2, 20, 0, 0, 0, 0, 30, 0, 0, 0, 41, 40, 0, 0, 0, 50, 0, 0, 0, 0, 60, 70, 0, 0, 0, 0, 80, 0, 81] : List Int32).getD (4 : Int32).toNatClampNeg 0).toInt) ∧ ((([1, 10, 11, 2, 20, 0, 0, 0, 0, 30, 0, 0, 0, 41, 40, 0, 0, 0, 50, 0, 0, 0, 0, 60, 70, 0, 0, 0, 0, 80, 0, 81] : List Int32).getD (4 : Int32).toNatClampNeg 0).toInt ≤ 81) := kro_rng (lo := 0) (hi := 81) (by decide) ((4 : Int32).toNatClampNeg)
  refine ko_eq (x1 := (29, [(3, .int 1), (2, .int 1), (0, .int 4), (1, .int 0)], [.int 20], (0, 0), ks i a q r)) (by rw [(by decide : (([1, 10, 11, 2, 20, 0, 0, 0, 0, 30, 0, 0, 0, 41, 40, 0, 0, 0, 50, 0, 0, 0, 0, 60, 70, 0, 0, 0, 0, 80, 0, 81] : List Int32).getD (4 : Int32).toNatClampNeg 0) = 20)]) ?_
  refine ft_go mi_k11 2 33 [(3, .int 1), (2, .int 1), (0, .int 4), (1, .int 0)] [.int 1] i a q r (by rfl) ?_
  exact ft_ret mi_k11 (by rfl) (hP 1 (oz1381 kn1))
set_option maxRecDepth 100000 in
theorem kc11_l04_l11 {i : Nat → Int32} {a : Nat → List Int32} {q : Nat → List Int64} {r : Nat → Nat} (hI : kI i a q) (hr : kr r)  : km 1 11 [.int 4, .int 1] (ks i a q r) (kPI (ks i a q r) (fun v => v.toInt = 0)) := by
  have hG := kG_self kW0 hI hr
  refine km_ofPI (q := (mi_h11, mi_c11)) rfl (by decide) (Nat.le_of_ble_eq_true rfl) ?_
  intro P hP
  refine ft_go mi_k11 16 26 [(3, .int 0), (2, .int 4), (0, .int 4), (1, .int 1)] [.int (4 * 4), .ref (mi_RO + 3)] i a q r (by rfl) ?_
  refine ko_eq (x1 := (26, [(3, .int 0), (2, .int 4), (0, .int 4), (1, .int 1)], [.int 16, .ref (mi_RO + 3)], (0, 0), ks i a q r)) (by rw [(by decide : (4 * 4 : Int32) = 16)]) ?_
  refine ft_go mi_k11 2 28 [(3, .int 0), (2, .int 4), (0, .int 4), (1, .int 1)] [.int (16 + 1), .ref (mi_RO + 3)] i a q r (by rfl) ?_
  refine ko_eq (x1 := (28, [(3, .int 0), (2, .int 4), (0, .int 4), (1, .int 1)], [.int 17, .ref (mi_RO + 3)], (0, 0), ks i a q r)) (by rw [(by decide : (16 + 1 : Int32) = 17)]) ?_
  refine ko_iaro2 mi_k11.1 (l := [1, 10, 11, 2, 20, 0, 0, 0, 0, 30, 0, 0, 0, 41, 40, 0, 0, 0, 50, 0, 0, 0, 0, 60, 70, 0, 0, 0, 0, 80, 0, 81]) (n := 32) (c := 32) (ax := (0, 0, 0, 0, 0)) (mi_k11.2 _ _ (by rfl)) (by rfl) (by rfl) rfl rfl (oz1448 kn17) (oz1449 kn17) ?_
  have r1 : ((0 : Int) ≤ (([1, 10, 11, 2, 20, 0, 0, 0, 0, 30, 0, 0, 0, 41, 40, 0, 0, 0, 50, 0, 0, 0, 0, 60, 70, 0, 0, 0, 0, 80, 0, 81] : List Int32).getD (17 : Int32).toNatClampNeg 0).toInt) ∧ ((([1, 10, 11, 2, 20, 0, 0, 0, 0, 30, 0, 0, 0, 41, 40, 0, 0, 0, 50, 0, 0, 0, 0, 60, 70, 0, 0, 0, 0, 80, 0, 81] : List Int32).getD (17 : Int32).toNatClampNeg 0).toInt ≤ 81) := kro_rng (lo := 0) (hi := 81) (by decide) ((17 : Int32).toNatClampNeg)
  refine ko_eq (x1 := (29, [(3, .int 0), (2, .int 4), (0, .int 4), (1, .int 1)], [.int 0], (0, 0), ks i a q r)) (by rw [(by decide : (([1, 10, 11, 2, 20, 0, 0, 0, 0, 30, 0, 0, 0, 41, 40, 0, 0, 0, 50, 0, 0, 0, 0, 60, 70, 0, 0, 0, 0, 80, 0, 81] : List Int32).getD (17 : Int32).toNatClampNeg 0) = 0)]) ?_
  refine ft_go mi_k11 3 38 [(3, .int 0), (2, .int 4), (0, .int 4), (1, .int 1)] [.int 4, .ref (mi_RO + 4)] i a q r (by rfl) ?_
  refine ko_iaro2 mi_k11.1 (l := [(-1), 0, 0, 2, 1, 3, 0, 4]) (n := 8) (c := 8) (ax := (0, 0, 0, 0, 0)) (mi_k11.2 _ _ (by rfl)) (by rfl) (by rfl) rfl rfl (oz262 kn4) (oz1445 kn4) ?_
  have r2 : ((-1 : Int) ≤ (([(-1), 0, 0, 2, 1, 3, 0, 4] : List Int32).getD (4 : Int32).toNatClampNeg 0).toInt) ∧ ((([(-1), 0, 0, 2, 1, 3, 0, 4] : List Int32).getD (4 : Int32).toNatClampNeg 0).toInt ≤ 4) := kro_rng (lo := -1) (hi := 4) (by decide) ((4 : Int32).toNatClampNeg)
  refine ko_eq (x1 := (39, [(3, .int 0), (2, .int 4), (0, .int 4), (1, .int 1)], [.int 1], (0, 0), ks i a q r)) (by rw [(by decide : (([(-1), 0, 0, 2, 1, 3, 0, 4] : List Int32).getD (4 : Int32).toNatClampNeg 0) = 1)]) ?_
  refine ft_go mi_k11 2 43 [(3, .int (0 + 1)), (2, .int 1), (0, .int 4), (1, .int 1)] [] i a q r (by rfl) ?_
  refine ko_eq (x1 := (43, [(3, .int 1), (2, .int 1), (0, .int 4), (1, .int 1)], [], (0, 0), ks i a q r)) (by rw [(by decide : (0 + 1 : Int32) = 1)]) ?_
  refine ft_go mi_k11 13 26 [(3, .int 1), (2, .int 1), (0, .int 4), (1, .int 1)] [.int (1 * 4), .ref (mi_RO + 3)] i a q r (by rfl) ?_
  refine ko_eq (x1 := (26, [(3, .int 1), (2, .int 1), (0, .int 4), (1, .int 1)], [.int 4, .ref (mi_RO + 3)], (0, 0), ks i a q r)) (by rw [(by decide : (1 * 4 : Int32) = 4)]) ?_
  refine ft_go mi_k11 2 28 [(3, .int 1), (2, .int 1), (0, .int 4), (1, .int 1)] [.int (4 + 1), .ref (mi_RO + 3)] i a q r (by rfl) ?_
  refine ko_eq (x1 := (28, [(3, .int 1), (2, .int 1), (0, .int 4), (1, .int 1)], [.int 5, .ref (mi_RO + 3)], (0, 0), ks i a q r)) (by rw [(by decide : (4 + 1 : Int32) = 5)]) ?_
  refine ko_iaro2 mi_k11.1 (l := [1, 10, 11, 2, 20, 0, 0, 0, 0, 30, 0, 0, 0, 41, 40, 0, 0, 0, 50, 0, 0, 0, 0, 60, 70, 0, 0, 0, 0, 80, 0, 81]) (n := 32) (c := 32) (ax := (0, 0, 0, 0, 0)) (mi_k11.2 _ _ (by rfl)) (by rfl) (by rfl) rfl rfl (oz264 kn5) (oz1384 kn5) ?_
  have r3 : ((0 : Int) ≤ (([1, 10, 11, 2, 20, 0, 0, 0, 0, 30, 0, 0, 0, 41, 40, 0, 0, 0, 50, 0, 0, 0, 0, 60, 70, 0, 0, 0, 0, 80, 0, 81] : List Int32).getD (5 : Int32).toNatClampNeg 0).toInt) ∧ ((([1, 10, 11, 2, 20, 0, 0, 0, 0, 30, 0, 0, 0, 41, 40, 0, 0, 0, 50, 0, 0, 0, 0, 60, 70, 0, 0, 0, 0, 80, 0, 81] : List Int32).getD (5 : Int32).toNatClampNeg 0).toInt ≤ 81) := kro_rng (lo := 0) (hi := 81) (by decide) ((5 : Int32).toNatClampNeg)
  refine ko_eq (x1 := (29, [(3, .int 1), (2, .int 1), (0, .int 4), (1, .int 1)], [.int 0], (0, 0), ks i a q r)) (by rw [(by decide : (([1, 10, 11, 2, 20, 0, 0, 0, 0, 30, 0, 0, 0, 41, 40, 0, 0, 0, 50, 0, 0, 0, 0, 60, 70, 0, 0, 0, 0, 80, 0, 81] : List Int32).getD (5 : Int32).toNatClampNeg 0) = 0)]) ?_
  refine ft_go mi_k11 3 38 [(3, .int 1), (2, .int 1), (0, .int 4), (1, .int 1)] [.int 1, .ref (mi_RO + 4)] i a q r (by rfl) ?_
  refine ko_iaro2 mi_k11.1 (l := [(-1), 0, 0, 2, 1, 3, 0, 4]) (n := 8) (c := 8) (ax := (0, 0, 0, 0, 0)) (mi_k11.2 _ _ (by rfl)) (by rfl) (by rfl) rfl rfl (oz246 kn1) (oz1382 kn1) ?_
  have r4 : ((-1 : Int) ≤ (([(-1), 0, 0, 2, 1, 3, 0, 4] : List Int32).getD (1 : Int32).toNatClampNeg 0).toInt) ∧ ((([(-1), 0, 0, 2, 1, 3, 0, 4] : List Int32).getD (1 : Int32).toNatClampNeg 0).toInt ≤ 4) := kro_rng (lo := -1) (hi := 4) (by decide) ((1 : Int32).toNatClampNeg)
  refine ko_eq (x1 := (39, [(3, .int 1), (2, .int 1), (0, .int 4), (1, .int 1)], [.int 0], (0, 0), ks i a q r)) (by rw [(by decide : (([(-1), 0, 0, 2, 1, 3, 0, 4] : List Int32).getD (1 : Int32).toNatClampNeg 0) = 0)]) ?_
  refine ft_go mi_k11 2 43 [(3, .int (1 + 1)), (2, .int 0), (0, .int 4), (1, .int 1)] [] i a q r (by rfl) ?_
  refine ko_eq (x1 := (43, [(3, .int 2), (2, .int 0), (0, .int 4), (1, .int 1)], [], (0, 0), ks i a q r)) (by rw [(by decide : (1 + 1 : Int32) = 2)]) ?_
  refine ft_go mi_k11 7 47 [(3, .int 2), (2, .int 0), (0, .int 4), (1, .int 1)] [.int 0] i a q r (by rfl) ?_
  exact ft_ret mi_k11 (by rfl) (hP 0 (oz236 kn0))
set_option maxRecDepth 100000 in
theorem kc11_l04_l12 {i : Nat → Int32} {a : Nat → List Int32} {q : Nat → List Int64} {r : Nat → Nat} (hI : kI i a q) (hr : kr r)  : km 1 11 [.int 4, .int 2] (ks i a q r) (kPI (ks i a q r) (fun v => v.toInt = 4)) := by
  have hG := kG_self kW0 hI hr
  refine km_ofPI (q := (mi_h11, mi_c11)) rfl (by decide) (Nat.le_of_ble_eq_true rfl) ?_
  intro P hP
  refine ft_go mi_k11 16 26 [(3, .int 0), (2, .int 4), (0, .int 4), (1, .int 2)] [.int (4 * 4), .ref (mi_RO + 3)] i a q r (by rfl) ?_
  refine ko_eq (x1 := (26, [(3, .int 0), (2, .int 4), (0, .int 4), (1, .int 2)], [.int 16, .ref (mi_RO + 3)], (0, 0), ks i a q r)) (by rw [(by decide : (4 * 4 : Int32) = 16)]) ?_
  refine ft_go mi_k11 2 28 [(3, .int 0), (2, .int 4), (0, .int 4), (1, .int 2)] [.int (16 + 2), .ref (mi_RO + 3)] i a q r (by rfl) ?_
  refine ko_eq (x1 := (28, [(3, .int 0), (2, .int 4), (0, .int 4), (1, .int 2)], [.int 18, .ref (mi_RO + 3)], (0, 0), ks i a q r)) (by rw [(by decide : (16 + 2 : Int32) = 18)]) ?_
  refine ko_iaro2 mi_k11.1 (l := [1, 10, 11, 2, 20, 0, 0, 0, 0, 30, 0, 0, 0, 41, 40, 0, 0, 0, 50, 0, 0, 0, 0, 60, 70, 0, 0, 0, 0, 80, 0, 81]) (n := 32) (c := 32) (ax := (0, 0, 0, 0, 0)) (mi_k11.2 _ _ (by rfl)) (by rfl) (by rfl) rfl rfl (oz195 kn18) (oz1450 kn18) ?_
  have r1 : ((0 : Int) ≤ (([1, 10, 11, 2, 20, 0, 0, 0, 0, 30, 0, 0, 0, 41, 40, 0, 0, 0, 50, 0, 0, 0, 0, 60, 70, 0, 0, 0, 0, 80, 0, 81] : List Int32).getD (18 : Int32).toNatClampNeg 0).toInt) ∧ ((([1, 10, 11, 2, 20, 0, 0, 0, 0, 30, 0, 0, 0, 41, 40, 0, 0, 0, 50, 0, 0, 0, 0, 60, 70, 0, 0, 0, 0, 80, 0, 81] : List Int32).getD (18 : Int32).toNatClampNeg 0).toInt ≤ 81) := kro_rng (lo := 0) (hi := 81) (by decide) ((18 : Int32).toNatClampNeg)
  refine ko_eq (x1 := (29, [(3, .int 0), (2, .int 4), (0, .int 4), (1, .int 2)], [.int 50], (0, 0), ks i a q r)) (by rw [(by decide : (([1, 10, 11, 2, 20, 0, 0, 0, 0, 30, 0, 0, 0, 41, 40, 0, 0, 0, 50, 0, 0, 0, 0, 60, 70, 0, 0, 0, 0, 80, 0, 81] : List Int32).getD (18 : Int32).toNatClampNeg 0) = 50)]) ?_
  refine ft_go mi_k11 2 33 [(3, .int 0), (2, .int 4), (0, .int 4), (1, .int 2)] [.int 4] i a q r (by rfl) ?_
  exact ft_ret mi_k11 (by rfl) (hP 4 (oz1446 kn4))
set_option maxRecDepth 100000 in
theorem kc11_l04_l13 {i : Nat → Int32} {a : Nat → List Int32} {q : Nat → List Int64} {r : Nat → Nat} (hI : kI i a q) (hr : kr r)  : km 1 11 [.int 4, .int 3] (ks i a q r) (kPI (ks i a q r) (fun v => v.toInt = 0)) := by
  have hG := kG_self kW0 hI hr
  refine km_ofPI (q := (mi_h11, mi_c11)) rfl (by decide) (Nat.le_of_ble_eq_true rfl) ?_
  intro P hP
  refine ft_go mi_k11 16 26 [(3, .int 0), (2, .int 4), (0, .int 4), (1, .int 3)] [.int (4 * 4), .ref (mi_RO + 3)] i a q r (by rfl) ?_
  refine ko_eq (x1 := (26, [(3, .int 0), (2, .int 4), (0, .int 4), (1, .int 3)], [.int 16, .ref (mi_RO + 3)], (0, 0), ks i a q r)) (by rw [(by decide : (4 * 4 : Int32) = 16)]) ?_
  refine ft_go mi_k11 2 28 [(3, .int 0), (2, .int 4), (0, .int 4), (1, .int 3)] [.int (16 + 3), .ref (mi_RO + 3)] i a q r (by rfl) ?_
  refine ko_eq (x1 := (28, [(3, .int 0), (2, .int 4), (0, .int 4), (1, .int 3)], [.int 19, .ref (mi_RO + 3)], (0, 0), ks i a q r)) (by rw [(by decide : (16 + 3 : Int32) = 19)]) ?_
  refine ko_iaro2 mi_k11.1 (l := [1, 10, 11, 2, 20, 0, 0, 0, 0, 30, 0, 0, 0, 41, 40, 0, 0, 0, 50, 0, 0, 0, 0, 60, 70, 0, 0, 0, 0, 80, 0, 81]) (n := 32) (c := 32) (ax := (0, 0, 0, 0, 0)) (mi_k11.2 _ _ (by rfl)) (by rfl) (by rfl) rfl rfl (oz337 kn19) (oz1458 kn19) ?_
  have r1 : ((0 : Int) ≤ (([1, 10, 11, 2, 20, 0, 0, 0, 0, 30, 0, 0, 0, 41, 40, 0, 0, 0, 50, 0, 0, 0, 0, 60, 70, 0, 0, 0, 0, 80, 0, 81] : List Int32).getD (19 : Int32).toNatClampNeg 0).toInt) ∧ ((([1, 10, 11, 2, 20, 0, 0, 0, 0, 30, 0, 0, 0, 41, 40, 0, 0, 0, 50, 0, 0, 0, 0, 60, 70, 0, 0, 0, 0, 80, 0, 81] : List Int32).getD (19 : Int32).toNatClampNeg 0).toInt ≤ 81) := kro_rng (lo := 0) (hi := 81) (by decide) ((19 : Int32).toNatClampNeg)
  refine ko_eq (x1 := (29, [(3, .int 0), (2, .int 4), (0, .int 4), (1, .int 3)], [.int 0], (0, 0), ks i a q r)) (by rw [(by decide : (([1, 10, 11, 2, 20, 0, 0, 0, 0, 30, 0, 0, 0, 41, 40, 0, 0, 0, 50, 0, 0, 0, 0, 60, 70, 0, 0, 0, 0, 80, 0, 81] : List Int32).getD (19 : Int32).toNatClampNeg 0) = 0)]) ?_
  refine ft_go mi_k11 3 38 [(3, .int 0), (2, .int 4), (0, .int 4), (1, .int 3)] [.int 4, .ref (mi_RO + 4)] i a q r (by rfl) ?_
  refine ko_iaro2 mi_k11.1 (l := [(-1), 0, 0, 2, 1, 3, 0, 4]) (n := 8) (c := 8) (ax := (0, 0, 0, 0, 0)) (mi_k11.2 _ _ (by rfl)) (by rfl) (by rfl) rfl rfl (oz262 kn4) (oz1445 kn4) ?_
  have r2 : ((-1 : Int) ≤ (([(-1), 0, 0, 2, 1, 3, 0, 4] : List Int32).getD (4 : Int32).toNatClampNeg 0).toInt) ∧ ((([(-1), 0, 0, 2, 1, 3, 0, 4] : List Int32).getD (4 : Int32).toNatClampNeg 0).toInt ≤ 4) := kro_rng (lo := -1) (hi := 4) (by decide) ((4 : Int32).toNatClampNeg)
  refine ko_eq (x1 := (39, [(3, .int 0), (2, .int 4), (0, .int 4), (1, .int 3)], [.int 1], (0, 0), ks i a q r)) (by rw [(by decide : (([(-1), 0, 0, 2, 1, 3, 0, 4] : List Int32).getD (4 : Int32).toNatClampNeg 0) = 1)]) ?_
  refine ft_go mi_k11 2 43 [(3, .int (0 + 1)), (2, .int 1), (0, .int 4), (1, .int 3)] [] i a q r (by rfl) ?_
  refine ko_eq (x1 := (43, [(3, .int 1), (2, .int 1), (0, .int 4), (1, .int 3)], [], (0, 0), ks i a q r)) (by rw [(by decide : (0 + 1 : Int32) = 1)]) ?_
  refine ft_go mi_k11 13 26 [(3, .int 1), (2, .int 1), (0, .int 4), (1, .int 3)] [.int (1 * 4), .ref (mi_RO + 3)] i a q r (by rfl) ?_
  refine ko_eq (x1 := (26, [(3, .int 1), (2, .int 1), (0, .int 4), (1, .int 3)], [.int 4, .ref (mi_RO + 3)], (0, 0), ks i a q r)) (by rw [(by decide : (1 * 4 : Int32) = 4)]) ?_
  refine ft_go mi_k11 2 28 [(3, .int 1), (2, .int 1), (0, .int 4), (1, .int 3)] [.int (4 + 3), .ref (mi_RO + 3)] i a q r (by rfl) ?_
  refine ko_eq (x1 := (28, [(3, .int 1), (2, .int 1), (0, .int 4), (1, .int 3)], [.int 7, .ref (mi_RO + 3)], (0, 0), ks i a q r)) (by rw [(by decide : (4 + 3 : Int32) = 7)]) ?_
  refine ko_iaro2 mi_k11.1 (l := [1, 10, 11, 2, 20, 0, 0, 0, 0, 30, 0, 0, 0, 41, 40, 0, 0, 0, 50, 0, 0, 0, 0, 60, 70, 0, 0, 0, 0, 80, 0, 81]) (n := 32) (c := 32) (ax := (0, 0, 0, 0, 0)) (mi_k11.2 _ _ (by rfl)) (by rfl) (by rfl) rfl rfl (oz1133 kn7) (oz1393 kn7) ?_
  have r3 : ((0 : Int) ≤ (([1, 10, 11, 2, 20, 0, 0, 0, 0, 30, 0, 0, 0, 41, 40, 0, 0, 0, 50, 0, 0, 0, 0, 60, 70, 0, 0, 0, 0, 80, 0, 81] : List Int32).getD (7 : Int32).toNatClampNeg 0).toInt) ∧ ((([1, 10, 11, 2, 20, 0, 0, 0, 0, 30, 0, 0, 0, 41, 40, 0, 0, 0, 50, 0, 0, 0, 0, 60, 70, 0, 0, 0, 0, 80, 0, 81] : List Int32).getD (7 : Int32).toNatClampNeg 0).toInt ≤ 81) := kro_rng (lo := 0) (hi := 81) (by decide) ((7 : Int32).toNatClampNeg)
  refine ko_eq (x1 := (29, [(3, .int 1), (2, .int 1), (0, .int 4), (1, .int 3)], [.int 0], (0, 0), ks i a q r)) (by rw [(by decide : (([1, 10, 11, 2, 20, 0, 0, 0, 0, 30, 0, 0, 0, 41, 40, 0, 0, 0, 50, 0, 0, 0, 0, 60, 70, 0, 0, 0, 0, 80, 0, 81] : List Int32).getD (7 : Int32).toNatClampNeg 0) = 0)]) ?_
  refine ft_go mi_k11 3 38 [(3, .int 1), (2, .int 1), (0, .int 4), (1, .int 3)] [.int 1, .ref (mi_RO + 4)] i a q r (by rfl) ?_
  refine ko_iaro2 mi_k11.1 (l := [(-1), 0, 0, 2, 1, 3, 0, 4]) (n := 8) (c := 8) (ax := (0, 0, 0, 0, 0)) (mi_k11.2 _ _ (by rfl)) (by rfl) (by rfl) rfl rfl (oz246 kn1) (oz1382 kn1) ?_
  have r4 : ((-1 : Int) ≤ (([(-1), 0, 0, 2, 1, 3, 0, 4] : List Int32).getD (1 : Int32).toNatClampNeg 0).toInt) ∧ ((([(-1), 0, 0, 2, 1, 3, 0, 4] : List Int32).getD (1 : Int32).toNatClampNeg 0).toInt ≤ 4) := kro_rng (lo := -1) (hi := 4) (by decide) ((1 : Int32).toNatClampNeg)
  refine ko_eq (x1 := (39, [(3, .int 1), (2, .int 1), (0, .int 4), (1, .int 3)], [.int 0], (0, 0), ks i a q r)) (by rw [(by decide : (([(-1), 0, 0, 2, 1, 3, 0, 4] : List Int32).getD (1 : Int32).toNatClampNeg 0) = 0)]) ?_
  refine ft_go mi_k11 2 43 [(3, .int (1 + 1)), (2, .int 0), (0, .int 4), (1, .int 3)] [] i a q r (by rfl) ?_
  refine ko_eq (x1 := (43, [(3, .int 2), (2, .int 0), (0, .int 4), (1, .int 3)], [], (0, 0), ks i a q r)) (by rw [(by decide : (1 + 1 : Int32) = 2)]) ?_
  refine ft_go mi_k11 7 47 [(3, .int 2), (2, .int 0), (0, .int 4), (1, .int 3)] [.int 0] i a q r (by rfl) ?_
  exact ft_ret mi_k11 (by rfl) (hP 0 (oz236 kn0))
set_option maxRecDepth 100000 in
theorem kc11_l05_l10 {i : Nat → Int32} {a : Nat → List Int32} {q : Nat → List Int64} {r : Nat → Nat} (hI : kI i a q) (hr : kr r)  : km 1 11 [.int 5, .int 0] (ks i a q r) (kPI (ks i a q r) (fun v => v.toInt = 0)) := by
  have hG := kG_self kW0 hI hr
  refine km_ofPI (q := (mi_h11, mi_c11)) rfl (by decide) (Nat.le_of_ble_eq_true rfl) ?_
  intro P hP
  refine ft_go mi_k11 16 26 [(3, .int 0), (2, .int 5), (0, .int 5), (1, .int 0)] [.int (5 * 4), .ref (mi_RO + 3)] i a q r (by rfl) ?_
  refine ko_eq (x1 := (26, [(3, .int 0), (2, .int 5), (0, .int 5), (1, .int 0)], [.int 20, .ref (mi_RO + 3)], (0, 0), ks i a q r)) (by rw [(by decide : (5 * 4 : Int32) = 20)]) ?_
  refine ft_go mi_k11 2 28 [(3, .int 0), (2, .int 5), (0, .int 5), (1, .int 0)] [.int (20 + 0), .ref (mi_RO + 3)] i a q r (by rfl) ?_
  refine ko_eq (x1 := (28, [(3, .int 0), (2, .int 5), (0, .int 5), (1, .int 0)], [.int 20, .ref (mi_RO + 3)], (0, 0), ks i a q r)) (by rw [(by decide : (20 + 0 : Int32) = 20)]) ?_
  refine ko_iaro2 mi_k11.1 (l := [1, 10, 11, 2, 20, 0, 0, 0, 0, 30, 0, 0, 0, 41, 40, 0, 0, 0, 50, 0, 0, 0, 0, 60, 70, 0, 0, 0, 0, 80, 0, 81]) (n := 32) (c := 32) (ax := (0, 0, 0, 0, 0)) (mi_k11.2 _ _ (by rfl)) (by rfl) (by rfl) rfl rfl (oz1467 kn20) (oz1468 kn20) ?_
  have r1 : ((0 : Int) ≤ (([1, 10, 11, 2, 20, 0, 0, 0, 0, 30, 0, 0, 0, 41, 40, 0, 0, 0, 50, 0, 0, 0, 0, 60, 70, 0, 0, 0, 0, 80, 0, 81] : List Int32).getD (20 : Int32).toNatClampNeg 0).toInt) ∧ ((([1, 10, 11, 2, 20, 0, 0, 0, 0, 30, 0, 0, 0, 41, 40, 0, 0, 0, 50, 0, 0, 0, 0, 60, 70, 0, 0, 0, 0, 80, 0, 81] : List Int32).getD (20 : Int32).toNatClampNeg 0).toInt ≤ 81) := kro_rng (lo := 0) (hi := 81) (by decide) ((20 : Int32).toNatClampNeg)
  refine ko_eq (x1 := (29, [(3, .int 0), (2, .int 5), (0, .int 5), (1, .int 0)], [.int 0], (0, 0), ks i a q r)) (by rw [(by decide : (([1, 10, 11, 2, 20, 0, 0, 0, 0, 30, 0, 0, 0, 41, 40, 0, 0, 0, 50, 0, 0, 0, 0, 60, 70, 0, 0, 0, 0, 80, 0, 81] : List Int32).getD (20 : Int32).toNatClampNeg 0) = 0)]) ?_
  refine ft_go mi_k11 3 38 [(3, .int 0), (2, .int 5), (0, .int 5), (1, .int 0)] [.int 5, .ref (mi_RO + 4)] i a q r (by rfl) ?_
  refine ko_iaro2 mi_k11.1 (l := [(-1), 0, 0, 2, 1, 3, 0, 4]) (n := 8) (c := 8) (ax := (0, 0, 0, 0, 0)) (mi_k11.2 _ _ (by rfl)) (by rfl) (by rfl) rfl rfl (oz264 kn5) (oz1469 kn5) ?_
  have r2 : ((-1 : Int) ≤ (([(-1), 0, 0, 2, 1, 3, 0, 4] : List Int32).getD (5 : Int32).toNatClampNeg 0).toInt) ∧ ((([(-1), 0, 0, 2, 1, 3, 0, 4] : List Int32).getD (5 : Int32).toNatClampNeg 0).toInt ≤ 4) := kro_rng (lo := -1) (hi := 4) (by decide) ((5 : Int32).toNatClampNeg)
  refine ko_eq (x1 := (39, [(3, .int 0), (2, .int 5), (0, .int 5), (1, .int 0)], [.int 3], (0, 0), ks i a q r)) (by rw [(by decide : (([(-1), 0, 0, 2, 1, 3, 0, 4] : List Int32).getD (5 : Int32).toNatClampNeg 0) = 3)]) ?_
  refine ft_go mi_k11 2 43 [(3, .int (0 + 1)), (2, .int 3), (0, .int 5), (1, .int 0)] [] i a q r (by rfl) ?_
  refine ko_eq (x1 := (43, [(3, .int 1), (2, .int 3), (0, .int 5), (1, .int 0)], [], (0, 0), ks i a q r)) (by rw [(by decide : (0 + 1 : Int32) = 1)]) ?_
  refine ft_go mi_k11 13 26 [(3, .int 1), (2, .int 3), (0, .int 5), (1, .int 0)] [.int (3 * 4), .ref (mi_RO + 3)] i a q r (by rfl) ?_
  refine ko_eq (x1 := (26, [(3, .int 1), (2, .int 3), (0, .int 5), (1, .int 0)], [.int 12, .ref (mi_RO + 3)], (0, 0), ks i a q r)) (by rw [(by decide : (3 * 4 : Int32) = 12)]) ?_
  refine ft_go mi_k11 2 28 [(3, .int 1), (2, .int 3), (0, .int 5), (1, .int 0)] [.int (12 + 0), .ref (mi_RO + 3)] i a q r (by rfl) ?_
  refine ko_eq (x1 := (28, [(3, .int 1), (2, .int 3), (0, .int 5), (1, .int 0)], [.int 12, .ref (mi_RO + 3)], (0, 0), ks i a q r)) (by rw [(by decide : (12 + 0 : Int32) = 12)]) ?_
  refine ko_iaro2 mi_k11.1 (l := [1, 10, 11, 2, 20, 0, 0, 0, 0, 30, 0, 0, 0, 41, 40, 0, 0, 0, 50, 0, 0, 0, 0, 60, 70, 0, 0, 0, 0, 80, 0, 81]) (n := 32) (c := 32) (ax := (0, 0, 0, 0, 0)) (mi_k11.2 _ _ (by rfl)) (by rfl) (by rfl) rfl rfl (oz1418 kn12) (oz1419 kn12) ?_
  have r3 : ((0 : Int) ≤ (([1, 10, 11, 2, 20, 0, 0, 0, 0, 30, 0, 0, 0, 41, 40, 0, 0, 0, 50, 0, 0, 0, 0, 60, 70, 0, 0, 0, 0, 80, 0, 81] : List Int32).getD (12 : Int32).toNatClampNeg 0).toInt) ∧ ((([1, 10, 11, 2, 20, 0, 0, 0, 0, 30, 0, 0, 0, 41, 40, 0, 0, 0, 50, 0, 0, 0, 0, 60, 70, 0, 0, 0, 0, 80, 0, 81] : List Int32).getD (12 : Int32).toNatClampNeg 0).toInt ≤ 81) := kro_rng (lo := 0) (hi := 81) (by decide) ((12 : Int32).toNatClampNeg)
  refine ko_eq (x1 := (29, [(3, .int 1), (2, .int 3), (0, .int 5), (1, .int 0)], [.int 0], (0, 0), ks i a q r)) (by rw [(by decide : (([1, 10, 11, 2, 20, 0, 0, 0, 0, 30, 0, 0, 0, 41, 40, 0, 0, 0, 50, 0, 0, 0, 0, 60, 70, 0, 0, 0, 0, 80, 0, 81] : List Int32).getD (12 : Int32).toNatClampNeg 0) = 0)]) ?_
  refine ft_go mi_k11 3 38 [(3, .int 1), (2, .int 3), (0, .int 5), (1, .int 0)] [.int 3, .ref (mi_RO + 4)] i a q r (by rfl) ?_
  refine ko_iaro2 mi_k11.1 (l := [(-1), 0, 0, 2, 1, 3, 0, 4]) (n := 8) (c := 8) (ax := (0, 0, 0, 0, 0)) (mi_k11.2 _ _ (by rfl)) (by rfl) (by rfl) rfl rfl (oz260 kn3) (oz1420 kn3) ?_
  have r4 : ((-1 : Int) ≤ (([(-1), 0, 0, 2, 1, 3, 0, 4] : List Int32).getD (3 : Int32).toNatClampNeg 0).toInt) ∧ ((([(-1), 0, 0, 2, 1, 3, 0, 4] : List Int32).getD (3 : Int32).toNatClampNeg 0).toInt ≤ 4) := kro_rng (lo := -1) (hi := 4) (by decide) ((3 : Int32).toNatClampNeg)
  refine ko_eq (x1 := (39, [(3, .int 1), (2, .int 3), (0, .int 5), (1, .int 0)], [.int 2], (0, 0), ks i a q r)) (by rw [(by decide : (([(-1), 0, 0, 2, 1, 3, 0, 4] : List Int32).getD (3 : Int32).toNatClampNeg 0) = 2)]) ?_
  refine ft_go mi_k11 2 43 [(3, .int (1 + 1)), (2, .int 2), (0, .int 5), (1, .int 0)] [] i a q r (by rfl) ?_
  refine ko_eq (x1 := (43, [(3, .int 2), (2, .int 2), (0, .int 5), (1, .int 0)], [], (0, 0), ks i a q r)) (by rw [(by decide : (1 + 1 : Int32) = 2)]) ?_
  refine ft_go mi_k11 13 26 [(3, .int 2), (2, .int 2), (0, .int 5), (1, .int 0)] [.int (2 * 4), .ref (mi_RO + 3)] i a q r (by rfl) ?_
  refine ko_eq (x1 := (26, [(3, .int 2), (2, .int 2), (0, .int 5), (1, .int 0)], [.int 8, .ref (mi_RO + 3)], (0, 0), ks i a q r)) (by rw [(by decide : (2 * 4 : Int32) = 8)]) ?_
  refine ft_go mi_k11 2 28 [(3, .int 2), (2, .int 2), (0, .int 5), (1, .int 0)] [.int (8 + 0), .ref (mi_RO + 3)] i a q r (by rfl) ?_
  refine ko_eq (x1 := (28, [(3, .int 2), (2, .int 2), (0, .int 5), (1, .int 0)], [.int 8, .ref (mi_RO + 3)], (0, 0), ks i a q r)) (by rw [(by decide : (8 + 0 : Int32) = 8)]) ?_
  refine ko_iaro2 mi_k11.1 (l := [1, 10, 11, 2, 20, 0, 0, 0, 0, 30, 0, 0, 0, 41, 40, 0, 0, 0, 50, 0, 0, 0, 0, 60, 70, 0, 0, 0, 0, 80, 0, 81]) (n := 32) (c := 32) (ax := (0, 0, 0, 0, 0)) (mi_k11.2 _ _ (by rfl)) (by rfl) (by rfl) rfl rfl (oz85 kn8) (oz1409 kn8) ?_
  have r5 : ((0 : Int) ≤ (([1, 10, 11, 2, 20, 0, 0, 0, 0, 30, 0, 0, 0, 41, 40, 0, 0, 0, 50, 0, 0, 0, 0, 60, 70, 0, 0, 0, 0, 80, 0, 81] : List Int32).getD (8 : Int32).toNatClampNeg 0).toInt) ∧ ((([1, 10, 11, 2, 20, 0, 0, 0, 0, 30, 0, 0, 0, 41, 40, 0, 0, 0, 50, 0, 0, 0, 0, 60, 70, 0, 0, 0, 0, 80, 0, 81] : List Int32).getD (8 : Int32).toNatClampNeg 0).toInt ≤ 81) := kro_rng (lo := 0) (hi := 81) (by decide) ((8 : Int32).toNatClampNeg)
  refine ko_eq (x1 := (29, [(3, .int 2), (2, .int 2), (0, .int 5), (1, .int 0)], [.int 0], (0, 0), ks i a q r)) (by rw [(by decide : (([1, 10, 11, 2, 20, 0, 0, 0, 0, 30, 0, 0, 0, 41, 40, 0, 0, 0, 50, 0, 0, 0, 0, 60, 70, 0, 0, 0, 0, 80, 0, 81] : List Int32).getD (8 : Int32).toNatClampNeg 0) = 0)]) ?_
  refine ft_go mi_k11 3 38 [(3, .int 2), (2, .int 2), (0, .int 5), (1, .int 0)] [.int 2, .ref (mi_RO + 4)] i a q r (by rfl) ?_
  refine ko_iaro2 mi_k11.1 (l := [(-1), 0, 0, 2, 1, 3, 0, 4]) (n := 8) (c := 8) (ax := (0, 0, 0, 0, 0)) (mi_k11.2 _ _ (by rfl)) (by rfl) (by rfl) rfl rfl (oz256 kn2) (oz1410 kn2) ?_
  have r6 : ((-1 : Int) ≤ (([(-1), 0, 0, 2, 1, 3, 0, 4] : List Int32).getD (2 : Int32).toNatClampNeg 0).toInt) ∧ ((([(-1), 0, 0, 2, 1, 3, 0, 4] : List Int32).getD (2 : Int32).toNatClampNeg 0).toInt ≤ 4) := kro_rng (lo := -1) (hi := 4) (by decide) ((2 : Int32).toNatClampNeg)
  refine ko_eq (x1 := (39, [(3, .int 2), (2, .int 2), (0, .int 5), (1, .int 0)], [.int 0], (0, 0), ks i a q r)) (by rw [(by decide : (([(-1), 0, 0, 2, 1, 3, 0, 4] : List Int32).getD (2 : Int32).toNatClampNeg 0) = 0)]) ?_
  refine ft_go mi_k11 2 43 [(3, .int (2 + 1)), (2, .int 0), (0, .int 5), (1, .int 0)] [] i a q r (by rfl) ?_
  refine ko_eq (x1 := (43, [(3, .int 3), (2, .int 0), (0, .int 5), (1, .int 0)], [], (0, 0), ks i a q r)) (by rw [(by decide : (2 + 1 : Int32) = 3)]) ?_
  refine ft_go mi_k11 7 47 [(3, .int 3), (2, .int 0), (0, .int 5), (1, .int 0)] [.int 0] i a q r (by rfl) ?_
  exact ft_ret mi_k11 (by rfl) (hP 0 (oz236 kn0))
set_option maxRecDepth 100000 in
theorem kc11_l05_l11 {i : Nat → Int32} {a : Nat → List Int32} {q : Nat → List Int64} {r : Nat → Nat} (hI : kI i a q) (hr : kr r)  : km 1 11 [.int 5, .int 1] (ks i a q r) (kPI (ks i a q r) (fun v => v.toInt = 3)) := by
  have hG := kG_self kW0 hI hr
  refine km_ofPI (q := (mi_h11, mi_c11)) rfl (by decide) (Nat.le_of_ble_eq_true rfl) ?_
  intro P hP
  refine ft_go mi_k11 16 26 [(3, .int 0), (2, .int 5), (0, .int 5), (1, .int 1)] [.int (5 * 4), .ref (mi_RO + 3)] i a q r (by rfl) ?_
  refine ko_eq (x1 := (26, [(3, .int 0), (2, .int 5), (0, .int 5), (1, .int 1)], [.int 20, .ref (mi_RO + 3)], (0, 0), ks i a q r)) (by rw [(by decide : (5 * 4 : Int32) = 20)]) ?_
  refine ft_go mi_k11 2 28 [(3, .int 0), (2, .int 5), (0, .int 5), (1, .int 1)] [.int (20 + 1), .ref (mi_RO + 3)] i a q r (by rfl) ?_
  refine ko_eq (x1 := (28, [(3, .int 0), (2, .int 5), (0, .int 5), (1, .int 1)], [.int 21, .ref (mi_RO + 3)], (0, 0), ks i a q r)) (by rw [(by decide : (20 + 1 : Int32) = 21)]) ?_
  refine ko_iaro2 mi_k11.1 (l := [1, 10, 11, 2, 20, 0, 0, 0, 0, 30, 0, 0, 0, 41, 40, 0, 0, 0, 50, 0, 0, 0, 0, 60, 70, 0, 0, 0, 0, 80, 0, 81]) (n := 32) (c := 32) (ax := (0, 0, 0, 0, 0)) (mi_k11.2 _ _ (by rfl)) (by rfl) (by rfl) rfl rfl (oz1472 kn21) (oz1473 kn21) ?_
  have r1 : ((0 : Int) ≤ (([1, 10, 11, 2, 20, 0, 0, 0, 0, 30, 0, 0, 0, 41, 40, 0, 0, 0, 50, 0, 0, 0, 0, 60, 70, 0, 0, 0, 0, 80, 0, 81] : List Int32).getD (21 : Int32).toNatClampNeg 0).toInt) ∧ ((([1, 10, 11, 2, 20, 0, 0, 0, 0, 30, 0, 0, 0, 41, 40, 0, 0, 0, 50, 0, 0, 0, 0, 60, 70, 0, 0, 0, 0, 80, 0, 81] : List Int32).getD (21 : Int32).toNatClampNeg 0).toInt ≤ 81) := kro_rng (lo := 0) (hi := 81) (by decide) ((21 : Int32).toNatClampNeg)
  refine ko_eq (x1 := (29, [(3, .int 0), (2, .int 5), (0, .int 5), (1, .int 1)], [.int 0], (0, 0), ks i a q r)) (by rw [(by decide : (([1, 10, 11, 2, 20, 0, 0, 0, 0, 30, 0, 0, 0, 41, 40, 0, 0, 0, 50, 0, 0, 0, 0, 60, 70, 0, 0, 0, 0, 80, 0, 81] : List Int32).getD (21 : Int32).toNatClampNeg 0) = 0)]) ?_
  refine ft_go mi_k11 3 38 [(3, .int 0), (2, .int 5), (0, .int 5), (1, .int 1)] [.int 5, .ref (mi_RO + 4)] i a q r (by rfl) ?_
  refine ko_iaro2 mi_k11.1 (l := [(-1), 0, 0, 2, 1, 3, 0, 4]) (n := 8) (c := 8) (ax := (0, 0, 0, 0, 0)) (mi_k11.2 _ _ (by rfl)) (by rfl) (by rfl) rfl rfl (oz264 kn5) (oz1469 kn5) ?_
  have r2 : ((-1 : Int) ≤ (([(-1), 0, 0, 2, 1, 3, 0, 4] : List Int32).getD (5 : Int32).toNatClampNeg 0).toInt) ∧ ((([(-1), 0, 0, 2, 1, 3, 0, 4] : List Int32).getD (5 : Int32).toNatClampNeg 0).toInt ≤ 4) := kro_rng (lo := -1) (hi := 4) (by decide) ((5 : Int32).toNatClampNeg)
  refine ko_eq (x1 := (39, [(3, .int 0), (2, .int 5), (0, .int 5), (1, .int 1)], [.int 3], (0, 0), ks i a q r)) (by rw [(by decide : (([(-1), 0, 0, 2, 1, 3, 0, 4] : List Int32).getD (5 : Int32).toNatClampNeg 0) = 3)]) ?_
  refine ft_go mi_k11 2 43 [(3, .int (0 + 1)), (2, .int 3), (0, .int 5), (1, .int 1)] [] i a q r (by rfl) ?_
  refine ko_eq (x1 := (43, [(3, .int 1), (2, .int 3), (0, .int 5), (1, .int 1)], [], (0, 0), ks i a q r)) (by rw [(by decide : (0 + 1 : Int32) = 1)]) ?_
  refine ft_go mi_k11 13 26 [(3, .int 1), (2, .int 3), (0, .int 5), (1, .int 1)] [.int (3 * 4), .ref (mi_RO + 3)] i a q r (by rfl) ?_
  refine ko_eq (x1 := (26, [(3, .int 1), (2, .int 3), (0, .int 5), (1, .int 1)], [.int 12, .ref (mi_RO + 3)], (0, 0), ks i a q r)) (by rw [(by decide : (3 * 4 : Int32) = 12)]) ?_
  refine ft_go mi_k11 2 28 [(3, .int 1), (2, .int 3), (0, .int 5), (1, .int 1)] [.int (12 + 1), .ref (mi_RO + 3)] i a q r (by rfl) ?_
  refine ko_eq (x1 := (28, [(3, .int 1), (2, .int 3), (0, .int 5), (1, .int 1)], [.int 13, .ref (mi_RO + 3)], (0, 0), ks i a q r)) (by rw [(by decide : (12 + 1 : Int32) = 13)]) ?_
  refine ko_iaro2 mi_k11.1 (l := [1, 10, 11, 2, 20, 0, 0, 0, 0, 30, 0, 0, 0, 41, 40, 0, 0, 0, 50, 0, 0, 0, 0, 60, 70, 0, 0, 0, 0, 80, 0, 81]) (n := 32) (c := 32) (ax := (0, 0, 0, 0, 0)) (mi_k11.2 _ _ (by rfl)) (by rfl) (by rfl) rfl rfl (oz1423 kn13) (oz1424 kn13) ?_
  have r3 : ((0 : Int) ≤ (([1, 10, 11, 2, 20, 0, 0, 0, 0, 30, 0, 0, 0, 41, 40, 0, 0, 0, 50, 0, 0, 0, 0, 60, 70, 0, 0, 0, 0, 80, 0, 81] : List Int32).getD (13 : Int32).toNatClampNeg 0).toInt) ∧ ((([1, 10, 11, 2, 20, 0, 0, 0, 0, 30, 0, 0, 0, 41, 40, 0, 0, 0, 50, 0, 0, 0, 0, 60, 70, 0, 0, 0, 0, 80, 0, 81] : List Int32).getD (13 : Int32).toNatClampNeg 0).toInt ≤ 81) := kro_rng (lo := 0) (hi := 81) (by decide) ((13 : Int32).toNatClampNeg)
  refine ko_eq (x1 := (29, [(3, .int 1), (2, .int 3), (0, .int 5), (1, .int 1)], [.int 41], (0, 0), ks i a q r)) (by rw [(by decide : (([1, 10, 11, 2, 20, 0, 0, 0, 0, 30, 0, 0, 0, 41, 40, 0, 0, 0, 50, 0, 0, 0, 0, 60, 70, 0, 0, 0, 0, 80, 0, 81] : List Int32).getD (13 : Int32).toNatClampNeg 0) = 41)]) ?_
  refine ft_go mi_k11 2 33 [(3, .int 1), (2, .int 3), (0, .int 5), (1, .int 1)] [.int 3] i a q r (by rfl) ?_
  exact ft_ret mi_k11 (by rfl) (hP 3 (oz1421 kn3))
set_option maxRecDepth 100000 in
theorem kc11_l05_l12 {i : Nat → Int32} {a : Nat → List Int32} {q : Nat → List Int64} {r : Nat → Nat} (hI : kI i a q) (hr : kr r)  : km 1 11 [.int 5, .int 2] (ks i a q r) (kPI (ks i a q r) (fun v => v.toInt = 3)) := by
  have hG := kG_self kW0 hI hr
  refine km_ofPI (q := (mi_h11, mi_c11)) rfl (by decide) (Nat.le_of_ble_eq_true rfl) ?_
  intro P hP
  refine ft_go mi_k11 16 26 [(3, .int 0), (2, .int 5), (0, .int 5), (1, .int 2)] [.int (5 * 4), .ref (mi_RO + 3)] i a q r (by rfl) ?_
  refine ko_eq (x1 := (26, [(3, .int 0), (2, .int 5), (0, .int 5), (1, .int 2)], [.int 20, .ref (mi_RO + 3)], (0, 0), ks i a q r)) (by rw [(by decide : (5 * 4 : Int32) = 20)]) ?_
  refine ft_go mi_k11 2 28 [(3, .int 0), (2, .int 5), (0, .int 5), (1, .int 2)] [.int (20 + 2), .ref (mi_RO + 3)] i a q r (by rfl) ?_
  refine ko_eq (x1 := (28, [(3, .int 0), (2, .int 5), (0, .int 5), (1, .int 2)], [.int 22, .ref (mi_RO + 3)], (0, 0), ks i a q r)) (by rw [(by decide : (20 + 2 : Int32) = 22)]) ?_
  refine ko_iaro2 mi_k11.1 (l := [1, 10, 11, 2, 20, 0, 0, 0, 0, 30, 0, 0, 0, 41, 40, 0, 0, 0, 50, 0, 0, 0, 0, 60, 70, 0, 0, 0, 0, 80, 0, 81]) (n := 32) (c := 32) (ax := (0, 0, 0, 0, 0)) (mi_k11.2 _ _ (by rfl)) (by rfl) (by rfl) rfl rfl (oz1474 kn22) (oz1475 kn22) ?_
  have r1 : ((0 : Int) ≤ (([1, 10, 11, 2, 20, 0, 0, 0, 0, 30, 0, 0, 0, 41, 40, 0, 0, 0, 50, 0, 0, 0, 0, 60, 70, 0, 0, 0, 0, 80, 0, 81] : List Int32).getD (22 : Int32).toNatClampNeg 0).toInt) ∧ ((([1, 10, 11, 2, 20, 0, 0, 0, 0, 30, 0, 0, 0, 41, 40, 0, 0, 0, 50, 0, 0, 0, 0, 60, 70, 0, 0, 0, 0, 80, 0, 81] : List Int32).getD (22 : Int32).toNatClampNeg 0).toInt ≤ 81) := kro_rng (lo := 0) (hi := 81) (by decide) ((22 : Int32).toNatClampNeg)
  refine ko_eq (x1 := (29, [(3, .int 0), (2, .int 5), (0, .int 5), (1, .int 2)], [.int 0], (0, 0), ks i a q r)) (by rw [(by decide : (([1, 10, 11, 2, 20, 0, 0, 0, 0, 30, 0, 0, 0, 41, 40, 0, 0, 0, 50, 0, 0, 0, 0, 60, 70, 0, 0, 0, 0, 80, 0, 81] : List Int32).getD (22 : Int32).toNatClampNeg 0) = 0)]) ?_
  refine ft_go mi_k11 3 38 [(3, .int 0), (2, .int 5), (0, .int 5), (1, .int 2)] [.int 5, .ref (mi_RO + 4)] i a q r (by rfl) ?_
  refine ko_iaro2 mi_k11.1 (l := [(-1), 0, 0, 2, 1, 3, 0, 4]) (n := 8) (c := 8) (ax := (0, 0, 0, 0, 0)) (mi_k11.2 _ _ (by rfl)) (by rfl) (by rfl) rfl rfl (oz264 kn5) (oz1469 kn5) ?_
  have r2 : ((-1 : Int) ≤ (([(-1), 0, 0, 2, 1, 3, 0, 4] : List Int32).getD (5 : Int32).toNatClampNeg 0).toInt) ∧ ((([(-1), 0, 0, 2, 1, 3, 0, 4] : List Int32).getD (5 : Int32).toNatClampNeg 0).toInt ≤ 4) := kro_rng (lo := -1) (hi := 4) (by decide) ((5 : Int32).toNatClampNeg)
  refine ko_eq (x1 := (39, [(3, .int 0), (2, .int 5), (0, .int 5), (1, .int 2)], [.int 3], (0, 0), ks i a q r)) (by rw [(by decide : (([(-1), 0, 0, 2, 1, 3, 0, 4] : List Int32).getD (5 : Int32).toNatClampNeg 0) = 3)]) ?_
  refine ft_go mi_k11 2 43 [(3, .int (0 + 1)), (2, .int 3), (0, .int 5), (1, .int 2)] [] i a q r (by rfl) ?_
  refine ko_eq (x1 := (43, [(3, .int 1), (2, .int 3), (0, .int 5), (1, .int 2)], [], (0, 0), ks i a q r)) (by rw [(by decide : (0 + 1 : Int32) = 1)]) ?_
  refine ft_go mi_k11 13 26 [(3, .int 1), (2, .int 3), (0, .int 5), (1, .int 2)] [.int (3 * 4), .ref (mi_RO + 3)] i a q r (by rfl) ?_
  refine ko_eq (x1 := (26, [(3, .int 1), (2, .int 3), (0, .int 5), (1, .int 2)], [.int 12, .ref (mi_RO + 3)], (0, 0), ks i a q r)) (by rw [(by decide : (3 * 4 : Int32) = 12)]) ?_
  refine ft_go mi_k11 2 28 [(3, .int 1), (2, .int 3), (0, .int 5), (1, .int 2)] [.int (12 + 2), .ref (mi_RO + 3)] i a q r (by rfl) ?_
  refine ko_eq (x1 := (28, [(3, .int 1), (2, .int 3), (0, .int 5), (1, .int 2)], [.int 14, .ref (mi_RO + 3)], (0, 0), ks i a q r)) (by rw [(by decide : (12 + 2 : Int32) = 14)]) ?_
  refine ko_iaro2 mi_k11.1 (l := [1, 10, 11, 2, 20, 0, 0, 0, 0, 30, 0, 0, 0, 41, 40, 0, 0, 0, 50, 0, 0, 0, 0, 60, 70, 0, 0, 0, 0, 80, 0, 81]) (n := 32) (c := 32) (ax := (0, 0, 0, 0, 0)) (mi_k11.2 _ _ (by rfl)) (by rfl) (by rfl) rfl rfl (oz1425 kn14) (oz1426 kn14) ?_
  have r3 : ((0 : Int) ≤ (([1, 10, 11, 2, 20, 0, 0, 0, 0, 30, 0, 0, 0, 41, 40, 0, 0, 0, 50, 0, 0, 0, 0, 60, 70, 0, 0, 0, 0, 80, 0, 81] : List Int32).getD (14 : Int32).toNatClampNeg 0).toInt) ∧ ((([1, 10, 11, 2, 20, 0, 0, 0, 0, 30, 0, 0, 0, 41, 40, 0, 0, 0, 50, 0, 0, 0, 0, 60, 70, 0, 0, 0, 0, 80, 0, 81] : List Int32).getD (14 : Int32).toNatClampNeg 0).toInt ≤ 81) := kro_rng (lo := 0) (hi := 81) (by decide) ((14 : Int32).toNatClampNeg)
  refine ko_eq (x1 := (29, [(3, .int 1), (2, .int 3), (0, .int 5), (1, .int 2)], [.int 40], (0, 0), ks i a q r)) (by rw [(by decide : (([1, 10, 11, 2, 20, 0, 0, 0, 0, 30, 0, 0, 0, 41, 40, 0, 0, 0, 50, 0, 0, 0, 0, 60, 70, 0, 0, 0, 0, 80, 0, 81] : List Int32).getD (14 : Int32).toNatClampNeg 0) = 40)]) ?_
  refine ft_go mi_k11 2 33 [(3, .int 1), (2, .int 3), (0, .int 5), (1, .int 2)] [.int 3] i a q r (by rfl) ?_
  exact ft_ret mi_k11 (by rfl) (hP 3 (oz1421 kn3))
set_option maxRecDepth 100000 in
theorem kc11_l05_l13 {i : Nat → Int32} {a : Nat → List Int32} {q : Nat → List Int64} {r : Nat → Nat} (hI : kI i a q) (hr : kr r)  : km 1 11 [.int 5, .int 3] (ks i a q r) (kPI (ks i a q r) (fun v => v.toInt = 5)) := by
  have hG := kG_self kW0 hI hr
  refine km_ofPI (q := (mi_h11, mi_c11)) rfl (by decide) (Nat.le_of_ble_eq_true rfl) ?_
  intro P hP
  refine ft_go mi_k11 16 26 [(3, .int 0), (2, .int 5), (0, .int 5), (1, .int 3)] [.int (5 * 4), .ref (mi_RO + 3)] i a q r (by rfl) ?_
  refine ko_eq (x1 := (26, [(3, .int 0), (2, .int 5), (0, .int 5), (1, .int 3)], [.int 20, .ref (mi_RO + 3)], (0, 0), ks i a q r)) (by rw [(by decide : (5 * 4 : Int32) = 20)]) ?_
  refine ft_go mi_k11 2 28 [(3, .int 0), (2, .int 5), (0, .int 5), (1, .int 3)] [.int (20 + 3), .ref (mi_RO + 3)] i a q r (by rfl) ?_
  refine ko_eq (x1 := (28, [(3, .int 0), (2, .int 5), (0, .int 5), (1, .int 3)], [.int 23, .ref (mi_RO + 3)], (0, 0), ks i a q r)) (by rw [(by decide : (20 + 3 : Int32) = 23)]) ?_
  refine ko_iaro2 mi_k11.1 (l := [1, 10, 11, 2, 20, 0, 0, 0, 0, 30, 0, 0, 0, 41, 40, 0, 0, 0, 50, 0, 0, 0, 0, 60, 70, 0, 0, 0, 0, 80, 0, 81]) (n := 32) (c := 32) (ax := (0, 0, 0, 0, 0)) (mi_k11.2 _ _ (by rfl)) (by rfl) (by rfl) rfl rfl (oz1476 kn23) (oz1477 kn23) ?_
  have r1 : ((0 : Int) ≤ (([1, 10, 11, 2, 20, 0, 0, 0, 0, 30, 0, 0, 0, 41, 40, 0, 0, 0, 50, 0, 0, 0, 0, 60, 70, 0, 0, 0, 0, 80, 0, 81] : List Int32).getD (23 : Int32).toNatClampNeg 0).toInt) ∧ ((([1, 10, 11, 2, 20, 0, 0, 0, 0, 30, 0, 0, 0, 41, 40, 0, 0, 0, 50, 0, 0, 0, 0, 60, 70, 0, 0, 0, 0, 80, 0, 81] : List Int32).getD (23 : Int32).toNatClampNeg 0).toInt ≤ 81) := kro_rng (lo := 0) (hi := 81) (by decide) ((23 : Int32).toNatClampNeg)
  refine ko_eq (x1 := (29, [(3, .int 0), (2, .int 5), (0, .int 5), (1, .int 3)], [.int 60], (0, 0), ks i a q r)) (by rw [(by decide : (([1, 10, 11, 2, 20, 0, 0, 0, 0, 30, 0, 0, 0, 41, 40, 0, 0, 0, 50, 0, 0, 0, 0, 60, 70, 0, 0, 0, 0, 80, 0, 81] : List Int32).getD (23 : Int32).toNatClampNeg 0) = 60)]) ?_
  refine ft_go mi_k11 2 33 [(3, .int 0), (2, .int 5), (0, .int 5), (1, .int 3)] [.int 5] i a q r (by rfl) ?_
  exact ft_ret mi_k11 (by rfl) (hP 5 (oz1470 kn5))

