section
theorem oz1478 {a0 a1 : Int} (h0 : (a0 + 6) ≤ 39) (h1 : a1 = 1) : a0 + a1 ≤ 2147483647 := by omega
theorem oz1479 {a0 a1 a2 : Int} (h0 : (0 : Int) ≤ a0) (h1 : (a0 + 6) ≤ 39) (h2 : a1 = a0 + a2) (h3 : a2 = 1) : ((0 : Int) ≤ a1) ∧ ((a1 + 5) ≤ 39) := by omega
theorem oz1480 {a0 a1 : Int} (h0 : a0 ≤ a1) (h1 : (a1 + 6) ≤ 39) (h2 : a0 = 40) : False := by omega
theorem oz1481 {a0 : Int} (h0 : a0 = 0) : ((0 : Int) ≤ a0) ∧ ((a0 + 6) ≤ 39) := by omega
theorem oz1484 {a0 : Int} (h0 : a0 = 6) : a0 = 6 := by omega
theorem oz1485 {a0 : Int} (h0 : a0 = 6) : a0 < 8 := by omega
theorem oz1486 {a0 a1 : Int} (h0 : a0 = 6) (h1 : a1 = a0) : a1 = 6 := by omega
theorem oz1494 {a0 : Int} (h0 : a0 = 7) : a0 < 8 := by omega
theorem oz1495 {a0 : Int} (h0 : a0 = 7) (h1 : a0 ≤ 7) : a0 = 7 := by omega
theorem oz1496 {a0 a1 : Int} (h0 : a0 = 7) (h1 : a1 ≤ 7) (h2 : a1 = a0) : a1 = 7 := by omega
theorem oz1497 {a0 : Int} (h0 : a0 ≤ 7) (h1 : a0 = 7) : a0 = 7 := by omega
theorem oz1500 {a0 : Int} (h0 : a0 = 7) : a0 = 7 := by omega
theorem oz1501 {a0 a1 a2 a3 : Int} (h0 : a0 ≤ a1) (h1 : (a1 + 8) ≤ 900) (h2 : a2 = a1 + a3) (h3 : a0 = 24) (h4 : a3 = 1) : ((0 : Int) ≤ a2) ∧ ((a2 + 3) ≤ 900) := by omega
theorem oz1504 {a0 a1 a2 : Int} (h0 : a0 = 7) (h1 : a1 ≤ 7) (h2 : a2 = a0) (h3 : a1 = a2) : a1 = 7 := by omega
theorem oz1505 {a0 a1 a2 a3 a4 : Int} (h0 : a0 ≤ a1) (h1 : (a1 + 8) ≤ 900) (h2 : a2 = a1 + a3) (h3 : a4 = (a2 + 3)) (h4 : a0 = 24) (h5 : a3 = 1) : ((0 : Int) ≤ a4) ∧ ((a4 + 4) ≤ 900) := by omega
theorem oz1506 {a0 a1 a2 a3 a4 : Int} (h0 : a0 = a1 + a2) (h1 : a3 = (a0 + 3)) (h2 : a4 = (a3 + 4)) (h3 : a2 = 1) : a4 = (a1 + 8) := by omega
theorem oz1507 {a0 a1 a2 : Int} (h0 : (0 : Int) ≤ a0) (h1 : (a0 + 8) ≤ 900) (h2 : a1 = a0 + a2) (h3 : a2 = 1) : ((0 : Int) ≤ a1) ∧ ((a1 + 3) ≤ 900) := by omega
theorem oz1508 {a0 a1 a2 a3 : Int} (h0 : (0 : Int) ≤ a0) (h1 : (a1 + 8) ≤ 900) (h2 : a2 = a1 + a3) (h3 : a0 = (a2 + 3)) (h4 : a3 = 1) : ((0 : Int) ≤ a0) ∧ ((a0 + 4) ≤ 900) := by omega
theorem oz1511 {a0 a1 a2 : Int} (h0 : (a0 + 14) ≤ 900) (h1 : a1 = a0 + a2) (h2 : a2 = 1) : a1 ≤ 1000 := by omega
theorem oz1512 {a0 a1 a2 : Int} (h0 : (a0 + 13) ≤ 900) (h1 : a1 = a0 + a2) (h2 : a2 = 1) : a1 ≤ 1000 := by omega
theorem oz1513 {a0 : Int} (h0 : (0 : Int) ≤ a0) (h1 : (a0 + 12) ≤ 900) : ((0 : Int) ≤ a0) ∧ ((a0 + 8) ≤ 900) := by omega
theorem oz1514 {a0 : Int} (h0 : (0 : Int) ≤ a0) (h1 : (a0 + 4) ≤ 39) : ((0 : Int) ≤ a0) ∧ ((a0 + 3) ≤ 39) := by omega
theorem oz1515 {a0 a1 : Int} (h0 : (0 : Int) ≤ a0) (h1 : (a1 + 12) ≤ 900) (h2 : a0 = (a1 + 8)) : ((0 : Int) ≤ a0) ∧ ((a0 + 4) ≤ 900) := by omega
theorem oz1516 {a0 a1 a2 : Int} (h0 : a0 = (a1 + 8)) (h1 : a2 = (a0 + 4)) : a2 = (a1 + 12) := by omega
theorem oz1517 {a0 a1 a2 a3 : Int} (h0 : a0 ≤ a1) (h1 : (a1 + 13) ≤ 900) (h2 : a2 = a1 + a3) (h3 : a0 = 24) (h4 : a3 = 1) : ((0 : Int) ≤ a2) ∧ ((a2 + 12) ≤ 900) := by omega
theorem oz1518 {a0 a1 a2 a3 : Int} (h0 : a0 = a1 + a2) (h1 : a3 = (a0 + 12)) (h2 : a2 = 1) : a3 = (a1 + 13) := by omega
theorem oz1519 {a0 a1 a2 : Int} (h0 : (0 : Int) ≤ a0) (h1 : (a0 + 13) ≤ 900) (h2 : a1 = a0 + a2) (h3 : a2 = 1) : ((0 : Int) ≤ a1) ∧ ((a1 + 12) ≤ 900) := by omega
theorem oz1520 {a0 a1 a2 a3 : Int} (h0 : a0 ≤ a1) (h1 : (a1 + 14) ≤ 900) (h2 : a2 = a1 + a3) (h3 : a0 = 24) (h4 : a3 = 1) : ((0 : Int) ≤ a2) ∧ ((a2 + 13) ≤ 900) := by omega
theorem oz1521 {a0 a1 a2 a3 : Int} (h0 : a0 = a1 + a2) (h1 : a3 = (a0 + 13)) (h2 : a2 = 1) : a3 = (a1 + 14) := by omega
theorem oz1522 {a0 a1 a2 : Int} (h0 : (0 : Int) ≤ a0) (h1 : (a0 + 14) ≤ 900) (h2 : a1 = a0 + a2) (h3 : a2 = 1) : ((0 : Int) ≤ a1) ∧ ((a1 + 13) ≤ 900) := by omega
theorem oz1523 {a0 : Int} (h0 : a0 = 0) : ((0 : Int) ≤ a0) ∧ ((a0 + 14) ≤ 900) := by omega
theorem oz1524 {a0 : Int} (h0 : (0 : Int) ≤ a0) (h1 : a0 ≤ 7) (h2 : ¬ (a0 = 1)) (h3 : ¬ (a0 = 2)) (h4 : ¬ (a0 = 3)) (h5 : ¬ (a0 = 4)) (h6 : ¬ (a0 = 5)) (h7 : ¬ (a0 = 0)) (h8 : ¬ (a0 = 6)) (h9 : ¬ (a0 = 7)) : False := by omega
theorem oz1525 {a0 a1 a2 a3 : Int} (h0 : a0 ≤ 50) (h1 : a1 = a0 - a2) (h2 : a3 ≤ a1) (h3 : a2 = 1) : a3 < 50 := by omega
theorem oz1526 {a0 a1 a2 : Int} (h0 : a0 ≤ 999) (h1 : a1 = a0 + a2) (h2 : a2 = 1) : a1 ≤ 1000 := by omega
theorem oz1527 {a0 : Int} (h0 : (0 : Int) ≤ a0) (h1 : (a0 + 4) ≤ 900) : ((0 : Int) ≤ a0) ∧ (a0 ≤ 999) := by omega
theorem oz1528 {a0 : Int} (h0 : (0 : Int) ≤ a0) (h1 : (a0 + 2) ≤ 900) : ((0 : Int) ≤ a0) ∧ (a0 ≤ 999) := by omega
theorem oz1529 {a0 : Int} (h0 : (0 : Int) ≤ a0) (h1 : (a0 + 1) ≤ 900) : ((0 : Int) ≤ a0) ∧ (a0 ≤ 999) := by omega
theorem oz1530 {a0 a1 : Int} (h0 : (0 : Int) ≤ a0) (h1 : (a1 + 2) ≤ 900) (h2 : a0 = (a1 + 1)) : ((0 : Int) ≤ a0) ∧ ((a0 + 1) ≤ 900) := by omega
theorem oz1531 {a0 a1 a2 : Int} (h0 : a0 = (a1 + 1)) (h1 : a2 = (a0 + 1)) : a2 = (a1 + 2) := by omega
theorem oz1532 {a0 a1 : Int} (h0 : (0 : Int) ≤ a0) (h1 : (a1 + 4) ≤ 900) (h2 : a0 = (a1 + 1)) : ((0 : Int) ≤ a0) ∧ ((a0 + 2) ≤ 900) := by omega
theorem oz1533 {a0 a1 a2 : Int} (h0 : a0 = 0) (h1 : (0 : Int) ≤ a1) (h2 : a2 = a0) (h3 : a1 = a2) : a1 = 0 := by omega
theorem oz1534 {a0 a1 a2 : Int} (h0 : (0 : Int) ≤ a0) (h1 : (a1 + 4) ≤ 900) (h2 : a2 = (a1 + 1)) (h3 : a0 = (a2 + 2)) : ((0 : Int) ≤ a0) ∧ ((a0 + 1) ≤ 900) := by omega
theorem oz1535 {a0 a1 a2 a3 : Int} (h0 : a0 = (a1 + 1)) (h1 : a2 = (a3 + 1)) (h2 : a1 = (a2 + 2)) : a0 = (a3 + 4) := by omega
theorem oz1536 {a0 a1 a2 a3 a4 : Int} (h0 : a0 ≤ 50) (h1 : a1 = a0 - a2) (h2 : a3 ≤ a4) (h3 : a4 ≤ a1) (h4 : a2 = 1) (h5 : a3 = 0) : ((0 : Int) ≤ a4) ∧ (a4 ≤ 49) := by omega
theorem oz1537 {a0 : Int} (h0 : (0 : Int) ≤ a0) (h1 : (a0 + 5) ≤ 900) : ((0 : Int) ≤ a0) ∧ (a0 ≤ 999) := by omega
theorem oz1538 {a0 : Int} (h0 : (0 : Int) ≤ a0) (h1 : (a0 + 3) ≤ 900) : ((0 : Int) ≤ a0) ∧ (a0 ≤ 999) := by omega
theorem oz1539 {a0 a1 : Int} (h0 : (0 : Int) ≤ a0) (h1 : (a1 + 3) ≤ 900) (h2 : a0 = (a1 + 1)) : ((0 : Int) ≤ a0) ∧ ((a0 + 2) ≤ 900) := by omega
theorem oz1540 {a0 a1 a2 : Int} (h0 : a0 = (a1 + 1)) (h1 : a2 = (a0 + 2)) : a2 = (a1 + 3) := by omega
theorem oz1541 {a0 : Int} (h0 : (0 : Int) ≤ a0) (h1 : (a0 + 3) ≤ 900) : ((0 : Int) ≤ a0) ∧ ((a0 + 3) ≤ 900) := by omega
theorem oz1542 {a0 a1 : Int} (h0 : a0 = (a1 + 3)) : a0 = (a1 + 3) := by omega
theorem oz1543 {a0 a1 : Int} (h0 : (0 : Int) ≤ a0) (h1 : (a1 + 5) ≤ 900) (h2 : a0 = (a1 + 1)) : ((0 : Int) ≤ a0) ∧ ((a0 + 3) ≤ 900) := by omega
theorem oz1544 {a0 a1 a2 : Int} (h0 : a0 = 1) (h1 : a1 = a0) (h2 : a2 = a1) : a2 = 1 := by omega
theorem oz1545 {a0 a1 a2 : Int} (h0 : (0 : Int) ≤ a0) (h1 : (a1 + 5) ≤ 900) (h2 : a2 = (a1 + 1)) (h3 : a0 = (a2 + 3)) : ((0 : Int) ≤ a0) ∧ ((a0 + 1) ≤ 900) := by omega
theorem oz1546 {a0 a1 a2 a3 : Int} (h0 : a0 = (a1 + 1)) (h1 : a2 = (a3 + 1)) (h2 : a1 = (a2 + 3)) : a0 = (a3 + 5) := by omega
theorem oz1547 {a0 : Int} (h0 : (0 : Int) ≤ a0) (h1 : (a0 + 5) ≤ 900) : ((0 : Int) ≤ a0) ∧ ((a0 + 5) ≤ 900) := by omega
theorem oz1548 {a0 a1 : Int} (h0 : a0 = (a1 + 5)) : a0 = (a1 + 5) := by omega
def w14_94_l13_K5 : kW := ([6019], [96], [], [])
set_option maxRecDepth 100000 in
theorem kc14_94_l13_K5 {i : Nat → Int32} {a : Nat → List Int32} {q : Nat → List Int64} {r : Nat → Nat} (hI : kI i a q) (hr : kr r) (x1 : Int32) (x3 : Int32) (x4 : Int32) (hp0 : ((0 : Int) ≤ x1.toInt) ∧ (x1.toInt ≤ 49)) (hp1 : ((a 95).getD x1.toNatClampNeg 0).toInt = 5) (hp2 : ((0 : Int) ≤ x4.toInt) ∧ ((x4.toInt + 4) ≤ 39)) (hp3 : ((0 : Int) ≤ (i 6019).toInt) ∧ (((i 6019).toInt + 6) ≤ 900)) : km 13 14 [.ref 94, .int x1, .int 3, .int x3, .int x4] (ks i a q r) (kVI w14_94_l13_K5 i a q r (fun v i1 a1 q1 r1 => (i1 6019).toInt = ((i 6019).toInt + 6))) := by
  have hG := kG_self w14_94_l13_K5 hI hr
  refine km_ofI (q := (mi_h14, mi_c14)) rfl (by decide) (Nat.le_of_ble_eq_true rfl) ?_
  intro P hP
  have r1 : ((0 : Int) ≤ ((a 95).getD x1.toNatClampNeg 0).toInt) ∧ (((a 95).getD x1.toNatClampNeg 0).toInt ≤ 7) := hG.I.2.2.1 95 (x1.toNatClampNeg)
  have fi_6019 : ((0 : Int) ≤ (i 6019).toInt) ∧ ((i 6019).toInt ≤ 1000) := hG.I.1 6019
  first | refine fo_goL mi_k14 fz14_0_3_5 [(0, .ref 94), (1, .int x1), (2, .int 3), (3, .int x3), (4, .int x4)] [.int x1, .ref 95] (by rfl) ?_ | refine ft_go mi_k14 3 5 [(0, .ref 94), (1, .int x1), (2, .int 3), (3, .int x3), (4, .int x4)] [.int x1, .ref 95] i a q r (by rfl) ?_
  refine ko_iald3 mi_k14.1 (n := 50) (c := 50) (ax := (0, 0, 0, 0, 0)) (mi_k14.2 _ _ (by rfl)) (by rfl) (ksG95 _ _ _ _) (hG.I.2.1 95) rfl (oz3 hp0.1) (oz1336 hp0.2) ?_
  refine ko_top (kj_eq (oz1470 hp1) (by decide) : ((a 95).getD x1.toNatClampNeg 0) = 5) ?_
  first | refine ft_goL mi_k14 9 66 [(5, .int 5), (0, .ref 94), (1, .int x1), (2, .int 3), (3, .int x3), (4, .int x4)] [.int x4, .int x3, .int 1, .int 5, .int x1, .ref 94] (by rfl) ?_ | refine ft_go mi_k14 9 66 [(5, .int 5), (0, .ref 94), (1, .int x1), (2, .int 3), (3, .int x3), (4, .int x4)] [.int x4, .int x3, .int 1, .int 5, .int x1, .ref 94] i a q r (by rfl) ?_
  refine ko_callI mi_k14.1 (pc := 66) (ls := [(5, .int 5), (0, .ref 94), (1, .int x1), (2, .int 3), (3, .int x3), (4, .int x4)]) (st := [.int x4, .int x3, .int 1, .int 5, .int x1, .ref 94]) (h := ks i a q r) (i := (.invokevirtual 35, 3, 13, 0, 9, 0, 297)) (mi_k14.2 _ _ (by rfl)) (ft_invS mi_pq13 (by rfl)) (cy := mi_c13) mi_pq13 rfl (kc13_94_l15_l21_K5 hG.I hG.R x1 x3 x4 (oz1339 hp0.1 hp0.2) (oz1470 hp1) (oz1431 hp2.1 hp2.2) (oz1432 fi_6019.1 hp3.2)) (by decide) ?_
  intro vg2 ig2 ag2 qg2 rg2 kg2 hg2
  have hGg2 := kG_call hG kg2 (by decide +kernel)
  have fig2_6019 : ((0 : Int) ≤ (ig2 6019).toInt) ∧ ((ig2 6019).toInt ≤ 1000) := hGg2.I.1 6019
  have z3 : (ig2 6019).toInt = ((i 6019).toInt + 4) := hg2
  first | refine fo_goL mi_k14 fz14_69_8_81 [(6, .int vg2), (5, .int 5), (0, .ref 94), (1, .int x1), (2, .int 3), (3, .int x3), (4, .int x4)] [.int x4, .int 1, .int 2, .int 5, .int x1, .ref 94, .int vg2] (by rfl) ?_ | refine ft_go mi_k14 8 81 [(6, .int vg2), (5, .int 5), (0, .ref 94), (1, .int x1), (2, .int 3), (3, .int x3), (4, .int x4)] [.int x4, .int 1, .int 2, .int 5, .int x1, .ref 94, .int vg2] ig2 ag2 qg2 rg2 (by rfl) ?_
  have r4 : ((0 : Int) ≤ ((ag2 95).getD x1.toNatClampNeg 0).toInt) ∧ (((ag2 95).getD x1.toNatClampNeg 0).toInt ≤ 7) := hGg2.I.2.2.1 95 (x1.toNatClampNeg)
  have u5 : ((ag2 95).getD x1.toNatClampNeg 0).toInt = ((a 95).getD x1.toNatClampNeg 0).toInt := congrArg (fun z : List Int32 => (z.getD x1.toNatClampNeg 0).toInt) (kg2.fa 95 rfl)
  refine ko_callI mi_k14.1 (pc := 81) (ls := [(6, .int vg2), (5, .int 5), (0, .ref 94), (1, .int x1), (2, .int 3), (3, .int x3), (4, .int x4)]) (st := [.int x4, .int 1, .int 2, .int 5, .int x1, .ref 94, .int vg2]) (h := ks ig2 ag2 qg2 rg2) (i := (.invokevirtual 35, 3, 13, 0, 9, 0, 297)) (mi_k14.2 _ _ (by rfl)) (ft_invS mi_pq13 (by rfl)) (cy := mi_c13) mi_pq13 rfl (kc13_94_l15_l22_K5 hGg2.I hGg2.R x1 1 x4 (oz1339 hp0.1 hp0.2) (oz1471 hp1 u5) (oz1433 hp2.1 hp2.2) (oz1434 fig2_6019.1 hp3.2 z3)) (by decide) ?_
  intro vg6 ig6 ag6 qg6 rg6 kg6 hg6
  have hGg6 := kG_call hGg2 kg6 (by decide +kernel)
  have z7 : (ig6 6019).toInt = ((ig2 6019).toInt + 2) := hg6
  have b8 : ((-2147483648 : Int) ≤ vg2.toInt) ∧ (vg2.toInt ≤ 2147483647) := kd_bd vg2
  have b9 : ((-2147483648 : Int) ≤ vg6.toInt) ∧ (vg6.toInt ≤ 2147483647) := kd_bd vg6
  first | refine fo_goS mi_k14 fz14_84_1_85 [.int (vg2 - vg6)] (by rfl) ?_ | refine ft_go mi_k14 1 85 [(6, .int vg2), (5, .int 5), (0, .ref 94), (1, .int x1), (2, .int 3), (3, .int x3), (4, .int x4)] [.int (vg2 - vg6)] ig6 ag6 qg6 rg6 (by rfl) ?_
  exact ft_ret mi_k14 (by rfl) (hP (vg2 - vg6) _ _ _ _ hGg6 (oz1435 z3 z7))
def w13_94_l13_l23_K5 : kW := ([6019], [96], [], [])
set_option maxRecDepth 100000 in
theorem kc13_94_l13_l23_K5 {i : Nat → Int32} {a : Nat → List Int32} {q : Nat → List Int64} {r : Nat → Nat} (hI : kI i a q) (hr : kr r) (x1 : Int32) (x4 : Int32) (x5 : Int32) (hp0 : ((0 : Int) ≤ x1.toInt) ∧ (x1.toInt ≤ 49)) (hp1 : ((a 95).getD x1.toNatClampNeg 0).toInt = 5) (hp2 : ((0 : Int) ≤ x5.toInt) ∧ ((x5.toInt + 5) ≤ 39)) (hp3 : ((0 : Int) ≤ (i 6019).toInt) ∧ (((i 6019).toInt + 7) ≤ 900)) : km 15 13 [.ref 94, .int x1, .int 3, .int 3, .int x4, .int x5] (ks i a q r) (kVI w13_94_l13_l23_K5 i a q r (fun v i1 a1 q1 r1 => (i1 6019).toInt = ((i 6019).toInt + 7))) := by
  have hG := kG_self w13_94_l13_l23_K5 hI hr
  refine km_ofI (q := (mi_h13, mi_c13)) rfl (by decide) (Nat.le_of_ble_eq_true rfl) ?_
  intro P hP
  have r1 : ((0 : Int) ≤ ((a 95).getD x1.toNatClampNeg 0).toInt) ∧ (((a 95).getD x1.toNatClampNeg 0).toInt ≤ 7) := hG.I.2.2.1 95 (x1.toNatClampNeg)
  have fi_6019 : ((0 : Int) ≤ (i 6019).toInt) ∧ ((i 6019).toInt ≤ 1000) := hG.I.1 6019
  first | refine fo_goL mi_k13 fz13_0_2_4 [(0, .ref 94), (1, .int x1), (2, .int 3), (3, .int 3), (4, .int x4), (5, .int x5)] [.int 40, .int x5] (by rfl) ?_ | refine ft_go mi_k13 2 4 [(0, .ref 94), (1, .int x1), (2, .int 3), (3, .int 3), (4, .int x4), (5, .int x5)] [.int 40, .int x5] i a q r (by rfl) ?_
  refine ft_ifS mi_k13 (decide (x5 < 40)) 9 7 [] (by rfl) (fun c => ?_) (fun c => ?_)
  ·
    have c2 : x5.toInt < (40 : Int32).toInt := kd_lt c; clear c
    first | refine fo_goS mi_k13 fz13_9_2_11 [.int 3, .int 3] (by rfl) ?_ | refine ft_go mi_k13 2 11 [(0, .ref 94), (1, .int x1), (2, .int 3), (3, .int 3), (4, .int x4), (5, .int x5)] [.int 3, .int 3] i a q r (by rfl) ?_
    refine ko_callPI mi_k13.1 (pc := 11) (ls := [(0, .ref 94), (1, .int x1), (2, .int 3), (3, .int 3), (4, .int x4), (5, .int x5)]) (st := [.int 3, .int 3]) (h := ks i a q r) (i := (.invokestatic 39, 3, 11, 0, 9, 0, 298)) (mi_k13.2 _ _ (by rfl)) (ft_invS mi_pq11 (by rfl)) (cy := mi_c11) mi_pq11 rfl (kc11_l03_l13 hG.I hG.R ) (by decide) ?_
    intro vg3 hg3
    have z4 : vg3.toInt = 0 := hg3
    have evvg3 := kj_eq (oz236 z4) (by decide : (0 : Int32).toInt = 0)
    subst evvg3
    first | refine ft_goL mi_k13 5 23 [(6, .int 0), (0, .ref 94), (1, .int x1), (2, .int 3), (3, .int 3), (4, .int x4), (5, .int x5)] [.int (0 * 4), .ref (mi_RO + 3)] (by rfl) ?_ | refine ft_go mi_k13 5 23 [(6, .int 0), (0, .ref 94), (1, .int x1), (2, .int 3), (3, .int 3), (4, .int x4), (5, .int x5)] [.int (0 * 4), .ref (mi_RO + 3)] i a q r (by rfl) ?_
    refine ko_top (by decide : (0 * 4 : Int32) = 0) ?_
    first | refine fo_goS mi_k13 fz13_23_2_25 [.int (0 + 3), .ref (mi_RO + 3)] (by rfl) ?_ | refine ft_go mi_k13 2 25 [(6, .int 0), (0, .ref 94), (1, .int x1), (2, .int 3), (3, .int 3), (4, .int x4), (5, .int x5)] [.int (0 + 3), .ref (mi_RO + 3)] i a q r (by rfl) ?_
    refine ko_top (by decide : (0 + 3 : Int32) = 3) ?_
    refine ft_ro mi_k13 (w := 2) (by decide +kernel) (by decide +kernel) ?_
    first | refine fo_goL mi_k13 fz13_26_4_34 [(7, .int 2), (6, .int 0), (0, .ref 94), (1, .int x1), (2, .int 3), (3, .int 3), (4, .int x4), (5, .int x5)] [.int 24, .int (i 6019)] (by rfl) ?_ | refine ft_go mi_k13 4 34 [(7, .int 2), (6, .int 0), (0, .ref 94), (1, .int x1), (2, .int 3), (3, .int 3), (4, .int x4), (5, .int x5)] [.int 24, .int (i 6019)] i a q r (by rfl) ?_
    refine ft_ifS mi_k13 (decide (24 ≤ (i 6019))) 48 37 [] (by rfl) (fun c => ?_) (fun c => ?_)
    ·
      have c6 : (24 : Int32).toInt ≤ (i 6019).toInt := kd_le c; clear c
      have s7 : ((i 6019) + 1).toInt = (i 6019).toInt + (1 : Int32).toInt := kd_add (oz1332 c6 kn24 kn1) (oz951 fi_6019.2 kn1)
      have hJ8 := kG_i hG 6019 rfl (v := ((i 6019) + 1)) ⟨(oz1333 c6 s7 kn24 kn1), (oz1429 hp3.2 s7 kn1)⟩
      have s9 : (x5 + 1).toInt = x5.toInt + (1 : Int32).toInt := kd_add (oz12 hp2.1 kn1) (oz1430 hp2.2 kn1)
      first | refine fo_goI mi_k13 fz13_48_15_72 [.int (x5 + 1), .int x4, .int 3, .int x1, .ref 94] (ku i 6019 ((i 6019) + 1)) (by rfl) ?_ | refine ft_go mi_k13 15 72 [(7, .int 2), (6, .int 0), (0, .ref 94), (1, .int x1), (2, .int 3), (3, .int 3), (4, .int x4), (5, .int x5)] [.int (x5 + 1), .int x4, .int 3, .int x1, .ref 94] (ku i 6019 ((i 6019) + 1)) a q r (by rfl) ?_
      refine ko_callI mi_k13.1 (pc := 72) (ls := [(7, .int 2), (6, .int 0), (0, .ref 94), (1, .int x1), (2, .int 3), (3, .int 3), (4, .int x4), (5, .int x5)]) (st := [.int (x5 + 1), .int x4, .int 3, .int x1, .ref 94]) (h := ks (ku i 6019 ((i 6019) + 1)) a q r) (i := (.invokevirtual 43, 3, 14, 0, 9, 0, 301)) (mi_k13.2 _ _ (by rfl)) (ft_invS mi_pq14 (by rfl)) (cy := mi_c14) mi_pq14 rfl (kc14_94_l13_K5 hJ8.I hJ8.R x1 x4 (x5 + 1) (oz1339 hp0.1 hp0.2) (oz1470 hp1) (oz1436 hp2.1 hp2.2 s9 kn1) (oz1437 c6 hp3.2 s7 kn24 kn1)) (by decide) ?_
      intro vg10 ig10 ag10 qg10 rg10 kg10 hg10
      have hGg10 := kG_call hJ8 kg10 (by decide +kernel)
      have z11 : (ig10 6019).toInt = (((i 6019) + 1).toInt + 6) := hg10
      exact ft_ret mi_k13 (by rfl) (hP vg10 _ _ _ _ hGg10 (oz1438 s7 z11 kn1))
    ·
      have c12 : (i 6019).toInt < (24 : Int32).toInt := kd_leF c; clear c
      first | refine fo_goS mi_k13 fz13_37_5_47 [.int 2, .int (i 6019), .ref 96] (by rfl) ?_ | refine ft_go mi_k13 5 47 [(7, .int 2), (6, .int 0), (0, .ref 94), (1, .int x1), (2, .int 3), (3, .int 3), (4, .int x4), (5, .int x5)] [.int 2, .int (i 6019), .ref 96] i a q r (by rfl) ?_
      refine ko_iast3 mi_k13.1 (n := 24) (c := 24) (ax := (0, 0, 0, 0, 0)) (mi_k13.2 _ _ (by rfl)) (by rfl) (ksG96 _ _ _ _) (ksA96 _ _ _ _) (hG.I.2.1 96) rfl (oz3 fi_6019.1) (oz1343 c12 kn24) ?_
      intro a13 ea13 fa13
      have hJ13 := kG_a3 hG 96 rfl ea13 fa13 (kd_bd _)
      have s14 : ((i 6019) + 1).toInt = (i 6019).toInt + (1 : Int32).toInt := kd_add (oz12 fi_6019.1 kn1) (oz951 fi_6019.2 kn1)
      have hJ15 := kG_i hJ13 6019 rfl (v := ((i 6019) + 1)) ⟨(oz14 fi_6019.1 s14 kn1), (oz1429 hp3.2 s14 kn1)⟩
      have s16 : (x5 + 1).toInt = x5.toInt + (1 : Int32).toInt := kd_add (oz12 hp2.1 kn1) (oz1430 hp2.2 kn1)
      first | refine fo_goI mi_k13 fz13_48_15_72 [.int (x5 + 1), .int x4, .int 3, .int x1, .ref 94] (ku i 6019 ((i 6019) + 1)) (by rfl) ?_ | refine ft_go mi_k13 15 72 [(7, .int 2), (6, .int 0), (0, .ref 94), (1, .int x1), (2, .int 3), (3, .int 3), (4, .int x4), (5, .int x5)] [.int (x5 + 1), .int x4, .int 3, .int x1, .ref 94] (ku i 6019 ((i 6019) + 1)) a13 q r (by rfl) ?_
      have r17 : ((0 : Int) ≤ ((a13 95).getD x1.toNatClampNeg 0).toInt) ∧ (((a13 95).getD x1.toNatClampNeg 0).toInt ≤ 7) := hJ15.I.2.2.1 95 (x1.toNatClampNeg)
      have u18 : ((a13 95).getD x1.toNatClampNeg 0).toInt = ((a 95).getD x1.toNatClampNeg 0).toInt := congrArg (fun z : List Int32 => (z.getD x1.toNatClampNeg 0).toInt) (fa13 95 (by decide))
      refine ko_callI mi_k13.1 (pc := 72) (ls := [(7, .int 2), (6, .int 0), (0, .ref 94), (1, .int x1), (2, .int 3), (3, .int 3), (4, .int x4), (5, .int x5)]) (st := [.int (x5 + 1), .int x4, .int 3, .int x1, .ref 94]) (h := ks (ku i 6019 ((i 6019) + 1)) a13 q r) (i := (.invokevirtual 43, 3, 14, 0, 9, 0, 301)) (mi_k13.2 _ _ (by rfl)) (ft_invS mi_pq14 (by rfl)) (cy := mi_c14) mi_pq14 rfl (kc14_94_l13_K5 hJ15.I hJ15.R x1 x4 (x5 + 1) (oz1339 hp0.1 hp0.2) (oz1471 hp1 u18) (oz1436 hp2.1 hp2.2 s16 kn1) (oz1439 fi_6019.1 hp3.2 s14 kn1)) (by decide) ?_
      intro vg19 ig19 ag19 qg19 rg19 kg19 hg19
      have hGg19 := kG_call hJ15 kg19 (by decide +kernel)
      have z20 : (ig19 6019).toInt = (((i 6019) + 1).toInt + 6) := hg19
      exact ft_ret mi_k13 (by rfl) (hP vg19 _ _ _ _ hGg19 (oz1438 s14 z20 kn1))
  ·
    have c21 : (40 : Int32).toInt ≤ x5.toInt := kd_ltF c; clear c
    exact (oz1440 c21 hp2.2 kn40).elim
def w13_94_l15_l23_K5 : kW := ([6019], [96], [], [])
set_option maxRecDepth 100000 in
theorem kc13_94_l15_l23_K5 {i : Nat → Int32} {a : Nat → List Int32} {q : Nat → List Int64} {r : Nat → Nat} (hI : kI i a q) (hr : kr r) (x1 : Int32) (x4 : Int32) (x5 : Int32) (hp0 : ((0 : Int) ≤ x1.toInt) ∧ (x1.toInt ≤ 49)) (hp1 : ((a 95).getD x1.toNatClampNeg 0).toInt = 5) (hp2 : ((0 : Int) ≤ x5.toInt) ∧ ((x5.toInt + 6) ≤ 39)) (hp3 : ((0 : Int) ≤ (i 6019).toInt) ∧ (((i 6019).toInt + 8) ≤ 900)) : km 17 13 [.ref 94, .int x1, .int 5, .int 3, .int x4, .int x5] (ks i a q r) (kVI w13_94_l15_l23_K5 i a q r (fun v i1 a1 q1 r1 => (i1 6019).toInt = ((i 6019).toInt + 8))) := by
  have hG := kG_self w13_94_l15_l23_K5 hI hr
  refine km_ofI (q := (mi_h13, mi_c13)) rfl (by decide) (Nat.le_of_ble_eq_true rfl) ?_
  intro P hP
  have r1 : ((0 : Int) ≤ ((a 95).getD x1.toNatClampNeg 0).toInt) ∧ (((a 95).getD x1.toNatClampNeg 0).toInt ≤ 7) := hG.I.2.2.1 95 (x1.toNatClampNeg)
  have fi_6019 : ((0 : Int) ≤ (i 6019).toInt) ∧ ((i 6019).toInt ≤ 1000) := hG.I.1 6019
  first | refine fo_goL mi_k13 fz13_0_2_4 [(0, .ref 94), (1, .int x1), (2, .int 5), (3, .int 3), (4, .int x4), (5, .int x5)] [.int 40, .int x5] (by rfl) ?_ | refine ft_go mi_k13 2 4 [(0, .ref 94), (1, .int x1), (2, .int 5), (3, .int 3), (4, .int x4), (5, .int x5)] [.int 40, .int x5] i a q r (by rfl) ?_
  refine ft_ifS mi_k13 (decide (x5 < 40)) 9 7 [] (by rfl) (fun c => ?_) (fun c => ?_)
  ·
    have c2 : x5.toInt < (40 : Int32).toInt := kd_lt c; clear c
    first | refine fo_goS mi_k13 fz13_9_2_11 [.int 3, .int 5] (by rfl) ?_ | refine ft_go mi_k13 2 11 [(0, .ref 94), (1, .int x1), (2, .int 5), (3, .int 3), (4, .int x4), (5, .int x5)] [.int 3, .int 5] i a q r (by rfl) ?_
    refine ko_callPI mi_k13.1 (pc := 11) (ls := [(0, .ref 94), (1, .int x1), (2, .int 5), (3, .int 3), (4, .int x4), (5, .int x5)]) (st := [.int 3, .int 5]) (h := ks i a q r) (i := (.invokestatic 39, 3, 11, 0, 9, 0, 298)) (mi_k13.2 _ _ (by rfl)) (ft_invS mi_pq11 (by rfl)) (cy := mi_c11) mi_pq11 rfl (kc11_l05_l13 hG.I hG.R ) (by decide) ?_
    intro vg3 hg3
    have z4 : vg3.toInt = 5 := hg3
    have evvg3 := kj_eq (oz1470 z4) (by decide : (5 : Int32).toInt = 5)
    subst evvg3
    first | refine ft_goL mi_k13 5 23 [(6, .int 5), (0, .ref 94), (1, .int x1), (2, .int 5), (3, .int 3), (4, .int x4), (5, .int x5)] [.int (5 * 4), .ref (mi_RO + 3)] (by rfl) ?_ | refine ft_go mi_k13 5 23 [(6, .int 5), (0, .ref 94), (1, .int x1), (2, .int 5), (3, .int 3), (4, .int x4), (5, .int x5)] [.int (5 * 4), .ref (mi_RO + 3)] i a q r (by rfl) ?_
    refine ko_top (by decide : (5 * 4 : Int32) = 20) ?_
    first | refine fo_goS mi_k13 fz13_23_2_25 [.int (20 + 3), .ref (mi_RO + 3)] (by rfl) ?_ | refine ft_go mi_k13 2 25 [(6, .int 5), (0, .ref 94), (1, .int x1), (2, .int 5), (3, .int 3), (4, .int x4), (5, .int x5)] [.int (20 + 3), .ref (mi_RO + 3)] i a q r (by rfl) ?_
    refine ko_top (by decide : (20 + 3 : Int32) = 23) ?_
    refine ft_ro mi_k13 (w := 60) (by decide +kernel) (by decide +kernel) ?_
    first | refine fo_goL mi_k13 fz13_26_4_34 [(7, .int 60), (6, .int 5), (0, .ref 94), (1, .int x1), (2, .int 5), (3, .int 3), (4, .int x4), (5, .int x5)] [.int 24, .int (i 6019)] (by rfl) ?_ | refine ft_go mi_k13 4 34 [(7, .int 60), (6, .int 5), (0, .ref 94), (1, .int x1), (2, .int 5), (3, .int 3), (4, .int x4), (5, .int x5)] [.int 24, .int (i 6019)] i a q r (by rfl) ?_
    refine ft_ifS mi_k13 (decide (24 ≤ (i 6019))) 48 37 [] (by rfl) (fun c => ?_) (fun c => ?_)
    ·
      have c6 : (24 : Int32).toInt ≤ (i 6019).toInt := kd_le c; clear c
      have s7 : ((i 6019) + 1).toInt = (i 6019).toInt + (1 : Int32).toInt := kd_add (oz1332 c6 kn24 kn1) (oz951 fi_6019.2 kn1)
      have hJ8 := kG_i hG 6019 rfl (v := ((i 6019) + 1)) ⟨(oz1333 c6 s7 kn24 kn1), (oz1459 hp3.2 s7 kn1)⟩
      first | refine ft_goI mi_k13 12 83 [.int 5, .ref (mi_RO + 4), .int x1, .ref 94] (ku i 6019 ((i 6019) + 1)) (by rfl) ?_ | refine ft_go mi_k13 12 83 [(7, .int 60), (6, .int 5), (0, .ref 94), (1, .int x1), (2, .int 5), (3, .int 3), (4, .int x4), (5, .int x5)] [.int 5, .ref (mi_RO + 4), .int x1, .ref 94] (ku i 6019 ((i 6019) + 1)) a q r (by rfl) ?_
      refine ft_ro mi_k13 (w := 3) (by decide +kernel) (by decide +kernel) ?_
      have s10 : (x5 + 1).toInt = x5.toInt + (1 : Int32).toInt := kd_add (oz12 hp2.1 kn1) (oz1478 hp2.2 kn1)
      first | refine ft_goS mi_k13 8 105 [.int (x5 + 1), .int x4, .int 3, .int 3, .int x1, .ref 94] (by rfl) ?_ | refine ft_go mi_k13 8 105 [(7, .int 60), (6, .int 5), (0, .ref 94), (1, .int x1), (2, .int 5), (3, .int 3), (4, .int x4), (5, .int x5)] [.int (x5 + 1), .int x4, .int 3, .int 3, .int x1, .ref 94] (ku i 6019 ((i 6019) + 1)) a q r (by rfl) ?_
      refine ko_callI mi_k13.1 (pc := 105) (ls := [(7, .int 60), (6, .int 5), (0, .ref 94), (1, .int x1), (2, .int 5), (3, .int 3), (4, .int x4), (5, .int x5)]) (st := [.int (x5 + 1), .int x4, .int 3, .int 3, .int x1, .ref 94]) (h := ks (ku i 6019 ((i 6019) + 1)) a q r) (i := (.invokevirtual 35, 3, 13, 0, 9, 0, 297)) (mi_k13.2 _ _ (by rfl)) (ft_invS mi_pq13 (by rfl)) (cy := mi_c13) mi_pq13 rfl (kc13_94_l13_l23_K5 hJ8.I hJ8.R x1 x4 (x5 + 1) (oz1339 hp0.1 hp0.2) (oz1470 hp1) (oz1479 hp2.1 hp2.2 s10 kn1) (oz1463 c6 hp3.2 s7 kn24 kn1)) (by decide) ?_
      intro vg11 ig11 ag11 qg11 rg11 kg11 hg11
      have hGg11 := kG_call hJ8 kg11 (by decide +kernel)
      have z12 : (ig11 6019).toInt = (((i 6019) + 1).toInt + 7) := hg11
      first | refine ft_goL mi_k13 6 227 [(8, .int vg11), (7, .int 60), (6, .int 5), (0, .ref 94), (1, .int x1), (2, .int 5), (3, .int 3), (4, .int x4), (5, .int x5)] [.int (vg11 ^^^ 5)] (by rfl) ?_ | refine ft_go mi_k13 6 227 [(8, .int vg11), (7, .int 60), (6, .int 5), (0, .ref 94), (1, .int x1), (2, .int 5), (3, .int 3), (4, .int x4), (5, .int x5)] [.int (vg11 ^^^ 5)] ig11 ag11 qg11 rg11 (by rfl) ?_
      exact ft_ret mi_k13 (by rfl) (hP (vg11 ^^^ 5) _ _ _ _ hGg11 (oz1464 s7 z12 kn1))
    ·
      have c13 : (i 6019).toInt < (24 : Int32).toInt := kd_leF c; clear c
      first | refine fo_goS mi_k13 fz13_37_5_47 [.int 60, .int (i 6019), .ref 96] (by rfl) ?_ | refine ft_go mi_k13 5 47 [(7, .int 60), (6, .int 5), (0, .ref 94), (1, .int x1), (2, .int 5), (3, .int 3), (4, .int x4), (5, .int x5)] [.int 60, .int (i 6019), .ref 96] i a q r (by rfl) ?_
      refine ko_iast3 mi_k13.1 (n := 24) (c := 24) (ax := (0, 0, 0, 0, 0)) (mi_k13.2 _ _ (by rfl)) (by rfl) (ksG96 _ _ _ _) (ksA96 _ _ _ _) (hG.I.2.1 96) rfl (oz3 fi_6019.1) (oz1343 c13 kn24) ?_
      intro a14 ea14 fa14
      have hJ14 := kG_a3 hG 96 rfl ea14 fa14 (kd_bd _)
      have s15 : ((i 6019) + 1).toInt = (i 6019).toInt + (1 : Int32).toInt := kd_add (oz12 fi_6019.1 kn1) (oz951 fi_6019.2 kn1)
      have hJ16 := kG_i hJ14 6019 rfl (v := ((i 6019) + 1)) ⟨(oz14 fi_6019.1 s15 kn1), (oz1459 hp3.2 s15 kn1)⟩
      first | refine ft_goI mi_k13 12 83 [.int 5, .ref (mi_RO + 4), .int x1, .ref 94] (ku i 6019 ((i 6019) + 1)) (by rfl) ?_ | refine ft_go mi_k13 12 83 [(7, .int 60), (6, .int 5), (0, .ref 94), (1, .int x1), (2, .int 5), (3, .int 3), (4, .int x4), (5, .int x5)] [.int 5, .ref (mi_RO + 4), .int x1, .ref 94] (ku i 6019 ((i 6019) + 1)) a14 q r (by rfl) ?_
      refine ft_ro mi_k13 (w := 3) (by decide +kernel) (by decide +kernel) ?_
      have s18 : (x5 + 1).toInt = x5.toInt + (1 : Int32).toInt := kd_add (oz12 hp2.1 kn1) (oz1478 hp2.2 kn1)
      first | refine ft_goS mi_k13 8 105 [.int (x5 + 1), .int x4, .int 3, .int 3, .int x1, .ref 94] (by rfl) ?_ | refine ft_go mi_k13 8 105 [(7, .int 60), (6, .int 5), (0, .ref 94), (1, .int x1), (2, .int 5), (3, .int 3), (4, .int x4), (5, .int x5)] [.int (x5 + 1), .int x4, .int 3, .int 3, .int x1, .ref 94] (ku i 6019 ((i 6019) + 1)) a14 q r (by rfl) ?_
      have r19 : ((0 : Int) ≤ ((a14 95).getD x1.toNatClampNeg 0).toInt) ∧ (((a14 95).getD x1.toNatClampNeg 0).toInt ≤ 7) := hJ16.I.2.2.1 95 (x1.toNatClampNeg)
      have u20 : ((a14 95).getD x1.toNatClampNeg 0).toInt = ((a 95).getD x1.toNatClampNeg 0).toInt := congrArg (fun z : List Int32 => (z.getD x1.toNatClampNeg 0).toInt) (fa14 95 (by decide))
      refine ko_callI mi_k13.1 (pc := 105) (ls := [(7, .int 60), (6, .int 5), (0, .ref 94), (1, .int x1), (2, .int 5), (3, .int 3), (4, .int x4), (5, .int x5)]) (st := [.int (x5 + 1), .int x4, .int 3, .int 3, .int x1, .ref 94]) (h := ks (ku i 6019 ((i 6019) + 1)) a14 q r) (i := (.invokevirtual 35, 3, 13, 0, 9, 0, 297)) (mi_k13.2 _ _ (by rfl)) (ft_invS mi_pq13 (by rfl)) (cy := mi_c13) mi_pq13 rfl (kc13_94_l13_l23_K5 hJ16.I hJ16.R x1 x4 (x5 + 1) (oz1339 hp0.1 hp0.2) (oz1471 hp1 u20) (oz1479 hp2.1 hp2.2 s18 kn1) (oz1465 fi_6019.1 hp3.2 s15 kn1)) (by decide) ?_
      intro vg21 ig21 ag21 qg21 rg21 kg21 hg21
      have hGg21 := kG_call hJ16 kg21 (by decide +kernel)
      have z22 : (ig21 6019).toInt = (((i 6019) + 1).toInt + 7) := hg21
      first | refine ft_goL mi_k13 6 227 [(8, .int vg21), (7, .int 60), (6, .int 5), (0, .ref 94), (1, .int x1), (2, .int 5), (3, .int 3), (4, .int x4), (5, .int x5)] [.int (vg21 ^^^ 5)] (by rfl) ?_ | refine ft_go mi_k13 6 227 [(8, .int vg21), (7, .int 60), (6, .int 5), (0, .ref 94), (1, .int x1), (2, .int 5), (3, .int 3), (4, .int x4), (5, .int x5)] [.int (vg21 ^^^ 5)] ig21 ag21 qg21 rg21 (by rfl) ?_
      exact ft_ret mi_k13 (by rfl) (hP (vg21 ^^^ 5) _ _ _ _ hGg21 (oz1464 s15 z22 kn1))
  ·
    have c23 : (40 : Int32).toInt ≤ x5.toInt := kd_ltF c; clear c
    exact (oz1480 c23 hp2.2 kn40).elim
set_option maxRecDepth 100000 in
theorem kc11_l06_l10 {i : Nat → Int32} {a : Nat → List Int32} {q : Nat → List Int64} {r : Nat → Nat} (hI : kI i a q) (hr : kr r)  : km 1 11 [.int 6, .int 0] (ks i a q r) (kPI (ks i a q r) (fun v => v.toInt = 6)) := by
  have hG := kG_self kW0 hI hr
  refine km_ofPI (q := (mi_h11, mi_c11)) rfl (by decide) (Nat.le_of_ble_eq_true rfl) ?_
  intro P hP
  first | refine ft_goL mi_k11 16 26 [(3, .int 0), (2, .int 6), (0, .int 6), (1, .int 0)] [.int (6 * 4), .ref (mi_RO + 3)] (by rfl) ?_ | refine ft_go mi_k11 16 26 [(3, .int 0), (2, .int 6), (0, .int 6), (1, .int 0)] [.int (6 * 4), .ref (mi_RO + 3)] i a q r (by rfl) ?_
  refine ko_top (by decide : (6 * 4 : Int32) = 24) ?_
  first | refine fo_goS mi_k11 fz11_26_2_28 [.int (24 + 0), .ref (mi_RO + 3)] (by rfl) ?_ | refine ft_go mi_k11 2 28 [(3, .int 0), (2, .int 6), (0, .int 6), (1, .int 0)] [.int (24 + 0), .ref (mi_RO + 3)] i a q r (by rfl) ?_
  refine ko_top (by decide : (24 + 0 : Int32) = 24) ?_
  refine ft_ro mi_k11 (w := 70) (by decide +kernel) (by decide +kernel) ?_
  first | refine fo_goS mi_k11 fz11_29_2_33 [.int 6] (by rfl) ?_ | refine ft_go mi_k11 2 33 [(3, .int 0), (2, .int 6), (0, .int 6), (1, .int 0)] [.int 6] i a q r (by rfl) ?_
  exact ft_ret mi_k11 (by rfl) (hP 6 (oz1484 kn6))
def w14_94_l10_K6 : kW := ([], [], [], [])
set_option maxRecDepth 100000 in
theorem kc14_94_l10_K6 {i : Nat → Int32} {a : Nat → List Int32} {q : Nat → List Int64} {r : Nat → Nat} (hI : kI i a q) (hr : kr r) (x1 : Int32) (x3 : Int32) (x4 : Int32) (hp0 : ((0 : Int) ≤ x1.toInt) ∧ (x1.toInt ≤ 49)) (hp1 : ((a 95).getD x1.toNatClampNeg 0).toInt = 6) (hp2 : ((0 : Int) ≤ x4.toInt) ∧ ((x4.toInt + 0) ≤ 39)) (hp3 : ((0 : Int) ≤ (i 6019).toInt) ∧ (((i 6019).toInt + 0) ≤ 900)) : km 1 14 [.ref 94, .int x1, .int 0, .int x3, .int x4] (ks i a q r) (kVI w14_94_l10_K6 i a q r (fun v i1 a1 q1 r1 => (i1 6019).toInt = ((i 6019).toInt + 0))) := by
  have hG := kG_self w14_94_l10_K6 hI hr
  refine km_ofI (q := (mi_h14, mi_c14)) rfl (by decide) (Nat.le_of_ble_eq_true rfl) ?_
  intro P hP
  have r1 : ((0 : Int) ≤ ((a 95).getD x1.toNatClampNeg 0).toInt) ∧ (((a 95).getD x1.toNatClampNeg 0).toInt ≤ 7) := hG.I.2.2.1 95 (x1.toNatClampNeg)
  first | refine fo_goL mi_k14 fz14_0_3_5 [(0, .ref 94), (1, .int x1), (2, .int 0), (3, .int x3), (4, .int x4)] [.int x1, .ref 95] (by rfl) ?_ | refine ft_go mi_k14 3 5 [(0, .ref 94), (1, .int x1), (2, .int 0), (3, .int x3), (4, .int x4)] [.int x1, .ref 95] i a q r (by rfl) ?_
  refine ko_iald3 mi_k14.1 (n := 50) (c := 50) (ax := (0, 0, 0, 0, 0)) (mi_k14.2 _ _ (by rfl)) (by rfl) (ksG95 _ _ _ _) (hG.I.2.1 95) rfl (oz3 hp0.1) (oz1336 hp0.2) ?_
  refine ko_top (kj_eq (oz1484 hp1) (by decide) : ((a 95).getD x1.toNatClampNeg 0) = 6) ?_
  have b2 : ((-2147483648 : Int) ≤ x3.toInt) ∧ (x3.toInt ≤ 2147483647) := kd_bd x3
  have b3 : ((-2147483648 : Int) ≤ x1.toInt) ∧ (x1.toInt ≤ 2147483647) := kd_bd x1
  first | refine ft_goL mi_k14 6 39 [(5, .int 6), (0, .ref 94), (1, .int x1), (2, .int 0), (3, .int x3), (4, .int x4)] [.int (x3 + x1)] (by rfl) ?_ | refine ft_go mi_k14 6 39 [(5, .int 6), (0, .ref 94), (1, .int x1), (2, .int 0), (3, .int x3), (4, .int x4)] [.int (x3 + x1)] i a q r (by rfl) ?_
  exact ft_ret mi_k14 (by rfl) (hP (x3 + x1) _ _ _ _ hG oz1338)
def w13_94_l10_l20_K6 : kW := ([6019], [96], [], [])
set_option maxRecDepth 100000 in
theorem kc13_94_l10_l20_K6 {i : Nat → Int32} {a : Nat → List Int32} {q : Nat → List Int64} {r : Nat → Nat} (hI : kI i a q) (hr : kr r) (x1 : Int32) (x4 : Int32) (x5 : Int32) (hp0 : ((0 : Int) ≤ x1.toInt) ∧ (x1.toInt ≤ 49)) (hp1 : ((a 95).getD x1.toNatClampNeg 0).toInt = 6) (hp2 : ((0 : Int) ≤ x5.toInt) ∧ ((x5.toInt + 1) ≤ 39)) (hp3 : ((0 : Int) ≤ (i 6019).toInt) ∧ (((i 6019).toInt + 1) ≤ 900)) : km 3 13 [.ref 94, .int x1, .int 0, .int 0, .int x4, .int x5] (ks i a q r) (kVI w13_94_l10_l20_K6 i a q r (fun v i1 a1 q1 r1 => (i1 6019).toInt = ((i 6019).toInt + 1))) := by
  have hG := kG_self w13_94_l10_l20_K6 hI hr
  refine km_ofI (q := (mi_h13, mi_c13)) rfl (by decide) (Nat.le_of_ble_eq_true rfl) ?_
  intro P hP
  have r1 : ((0 : Int) ≤ ((a 95).getD x1.toNatClampNeg 0).toInt) ∧ (((a 95).getD x1.toNatClampNeg 0).toInt ≤ 7) := hG.I.2.2.1 95 (x1.toNatClampNeg)
  have fi_6019 : ((0 : Int) ≤ (i 6019).toInt) ∧ ((i 6019).toInt ≤ 1000) := hG.I.1 6019
  first | refine fo_goL mi_k13 fz13_0_2_4 [(0, .ref 94), (1, .int x1), (2, .int 0), (3, .int 0), (4, .int x4), (5, .int x5)] [.int 40, .int x5] (by rfl) ?_ | refine ft_go mi_k13 2 4 [(0, .ref 94), (1, .int x1), (2, .int 0), (3, .int 0), (4, .int x4), (5, .int x5)] [.int 40, .int x5] i a q r (by rfl) ?_
  refine ft_ifS mi_k13 (decide (x5 < 40)) 9 7 [] (by rfl) (fun c => ?_) (fun c => ?_)
  ·
    have c2 : x5.toInt < (40 : Int32).toInt := kd_lt c; clear c
    first | refine fo_goS mi_k13 fz13_9_2_11 [.int 0, .int 0] (by rfl) ?_ | refine ft_go mi_k13 2 11 [(0, .ref 94), (1, .int x1), (2, .int 0), (3, .int 0), (4, .int x4), (5, .int x5)] [.int 0, .int 0] i a q r (by rfl) ?_
    refine ko_callPI mi_k13.1 (pc := 11) (ls := [(0, .ref 94), (1, .int x1), (2, .int 0), (3, .int 0), (4, .int x4), (5, .int x5)]) (st := [.int 0, .int 0]) (h := ks i a q r) (i := (.invokestatic 39, 3, 11, 0, 9, 0, 298)) (mi_k13.2 _ _ (by rfl)) (ft_invS mi_pq11 (by rfl)) (cy := mi_c11) mi_pq11 rfl (kc11_l00_l10 hG.I hG.R ) (by decide) ?_
    intro vg3 hg3
    have z4 : vg3.toInt = 0 := hg3
    have evvg3 := kj_eq (oz236 z4) (by decide : (0 : Int32).toInt = 0)
    subst evvg3
    first | refine ft_goL mi_k13 5 23 [(6, .int 0), (0, .ref 94), (1, .int x1), (2, .int 0), (3, .int 0), (4, .int x4), (5, .int x5)] [.int (0 * 4), .ref (mi_RO + 3)] (by rfl) ?_ | refine ft_go mi_k13 5 23 [(6, .int 0), (0, .ref 94), (1, .int x1), (2, .int 0), (3, .int 0), (4, .int x4), (5, .int x5)] [.int (0 * 4), .ref (mi_RO + 3)] i a q r (by rfl) ?_
    refine ko_top (by decide : (0 * 4 : Int32) = 0) ?_
    first | refine fo_goS mi_k13 fz13_23_2_25 [.int (0 + 0), .ref (mi_RO + 3)] (by rfl) ?_ | refine ft_go mi_k13 2 25 [(6, .int 0), (0, .ref 94), (1, .int x1), (2, .int 0), (3, .int 0), (4, .int x4), (5, .int x5)] [.int (0 + 0), .ref (mi_RO + 3)] i a q r (by rfl) ?_
    refine ko_top (by decide : (0 + 0 : Int32) = 0) ?_
    refine ft_ro mi_k13 (w := 1) (by decide +kernel) (by decide +kernel) ?_
    first | refine fo_goL mi_k13 fz13_26_4_34 [(7, .int 1), (6, .int 0), (0, .ref 94), (1, .int x1), (2, .int 0), (3, .int 0), (4, .int x4), (5, .int x5)] [.int 24, .int (i 6019)] (by rfl) ?_ | refine ft_go mi_k13 4 34 [(7, .int 1), (6, .int 0), (0, .ref 94), (1, .int x1), (2, .int 0), (3, .int 0), (4, .int x4), (5, .int x5)] [.int 24, .int (i 6019)] i a q r (by rfl) ?_
    refine ft_ifS mi_k13 (decide (24 ≤ (i 6019))) 48 37 [] (by rfl) (fun c => ?_) (fun c => ?_)
    ·
      have c6 : (24 : Int32).toInt ≤ (i 6019).toInt := kd_le c; clear c
      have s7 : ((i 6019) + 1).toInt = (i 6019).toInt + (1 : Int32).toInt := kd_add (oz1332 c6 kn24 kn1) (oz951 fi_6019.2 kn1)
      have hJ8 := kG_i hG 6019 rfl (v := ((i 6019) + 1)) ⟨(oz1333 c6 s7 kn24 kn1), (oz1334 hp3.2 s7 kn1)⟩
      have s9 : (x5 + 1).toInt = x5.toInt + (1 : Int32).toInt := kd_add (oz12 hp2.1 kn1) (oz1335 hp2.2 kn1)
      first | refine fo_goI mi_k13 fz13_48_15_72 [.int (x5 + 1), .int x4, .int 0, .int x1, .ref 94] (ku i 6019 ((i 6019) + 1)) (by rfl) ?_ | refine ft_go mi_k13 15 72 [(7, .int 1), (6, .int 0), (0, .ref 94), (1, .int x1), (2, .int 0), (3, .int 0), (4, .int x4), (5, .int x5)] [.int (x5 + 1), .int x4, .int 0, .int x1, .ref 94] (ku i 6019 ((i 6019) + 1)) a q r (by rfl) ?_
      refine ko_callI mi_k13.1 (pc := 72) (ls := [(7, .int 1), (6, .int 0), (0, .ref 94), (1, .int x1), (2, .int 0), (3, .int 0), (4, .int x4), (5, .int x5)]) (st := [.int (x5 + 1), .int x4, .int 0, .int x1, .ref 94]) (h := ks (ku i 6019 ((i 6019) + 1)) a q r) (i := (.invokevirtual 43, 3, 14, 0, 9, 0, 301)) (mi_k13.2 _ _ (by rfl)) (ft_invS mi_pq14 (by rfl)) (cy := mi_c14) mi_pq14 rfl (kc14_94_l10_K6 hJ8.I hJ8.R x1 x4 (x5 + 1) (oz1339 hp0.1 hp0.2) (oz1484 hp1) (oz1340 hp2.1 hp2.2 s9 kn1) (oz1341 c6 hp3.2 s7 kn24 kn1)) (by decide) ?_
      intro vg10 ig10 ag10 qg10 rg10 kg10 hg10
      have hGg10 := kG_call hJ8 kg10 (by decide +kernel)
      have efig10_6019 : (ig10 6019).toInt = ((i 6019) + 1).toInt := kg10.ti 6019 rfl
      exact ft_ret mi_k13 (by rfl) (hP vg10 _ _ _ _ hGg10 (oz1342 efig10_6019 s7 kn1))
    ·
      have c12 : (i 6019).toInt < (24 : Int32).toInt := kd_leF c; clear c
      first | refine fo_goS mi_k13 fz13_37_5_47 [.int 1, .int (i 6019), .ref 96] (by rfl) ?_ | refine ft_go mi_k13 5 47 [(7, .int 1), (6, .int 0), (0, .ref 94), (1, .int x1), (2, .int 0), (3, .int 0), (4, .int x4), (5, .int x5)] [.int 1, .int (i 6019), .ref 96] i a q r (by rfl) ?_
      refine ko_iast3 mi_k13.1 (n := 24) (c := 24) (ax := (0, 0, 0, 0, 0)) (mi_k13.2 _ _ (by rfl)) (by rfl) (ksG96 _ _ _ _) (ksA96 _ _ _ _) (hG.I.2.1 96) rfl (oz3 fi_6019.1) (oz1343 c12 kn24) ?_
      intro a13 ea13 fa13
      have hJ13 := kG_a3 hG 96 rfl ea13 fa13 (kd_bd _)
      have s14 : ((i 6019) + 1).toInt = (i 6019).toInt + (1 : Int32).toInt := kd_add (oz12 fi_6019.1 kn1) (oz951 fi_6019.2 kn1)
      have hJ15 := kG_i hJ13 6019 rfl (v := ((i 6019) + 1)) ⟨(oz14 fi_6019.1 s14 kn1), (oz1334 hp3.2 s14 kn1)⟩
      have s16 : (x5 + 1).toInt = x5.toInt + (1 : Int32).toInt := kd_add (oz12 hp2.1 kn1) (oz1335 hp2.2 kn1)
      first | refine fo_goI mi_k13 fz13_48_15_72 [.int (x5 + 1), .int x4, .int 0, .int x1, .ref 94] (ku i 6019 ((i 6019) + 1)) (by rfl) ?_ | refine ft_go mi_k13 15 72 [(7, .int 1), (6, .int 0), (0, .ref 94), (1, .int x1), (2, .int 0), (3, .int 0), (4, .int x4), (5, .int x5)] [.int (x5 + 1), .int x4, .int 0, .int x1, .ref 94] (ku i 6019 ((i 6019) + 1)) a13 q r (by rfl) ?_
      have r17 : ((0 : Int) ≤ ((a13 95).getD x1.toNatClampNeg 0).toInt) ∧ (((a13 95).getD x1.toNatClampNeg 0).toInt ≤ 7) := hJ15.I.2.2.1 95 (x1.toNatClampNeg)
      have u18 : ((a13 95).getD x1.toNatClampNeg 0).toInt = ((a 95).getD x1.toNatClampNeg 0).toInt := congrArg (fun z : List Int32 => (z.getD x1.toNatClampNeg 0).toInt) (fa13 95 (by decide))
      refine ko_callI mi_k13.1 (pc := 72) (ls := [(7, .int 1), (6, .int 0), (0, .ref 94), (1, .int x1), (2, .int 0), (3, .int 0), (4, .int x4), (5, .int x5)]) (st := [.int (x5 + 1), .int x4, .int 0, .int x1, .ref 94]) (h := ks (ku i 6019 ((i 6019) + 1)) a13 q r) (i := (.invokevirtual 43, 3, 14, 0, 9, 0, 301)) (mi_k13.2 _ _ (by rfl)) (ft_invS mi_pq14 (by rfl)) (cy := mi_c14) mi_pq14 rfl (kc14_94_l10_K6 hJ15.I hJ15.R x1 x4 (x5 + 1) (oz1339 hp0.1 hp0.2) (oz1486 hp1 u18) (oz1340 hp2.1 hp2.2 s16 kn1) (oz1345 fi_6019.1 hp3.2 s14 kn1)) (by decide) ?_
      intro vg19 ig19 ag19 qg19 rg19 kg19 hg19
      have hGg19 := kG_call hJ15 kg19 (by decide +kernel)
      have efig19_6019 : (ig19 6019).toInt = ((i 6019) + 1).toInt := kg19.ti 6019 rfl
      exact ft_ret mi_k13 (by rfl) (hP vg19 _ _ _ _ hGg19 (oz1342 efig19_6019 s14 kn1))
  ·
    have c21 : (40 : Int32).toInt ≤ x5.toInt := kd_ltF c; clear c
    exact (oz1346 c21 hp2.2 kn40).elim
def w13_94_l16_l20_K6 : kW := ([6019], [96], [], [])
set_option maxRecDepth 100000 in
theorem kc13_94_l16_l20_K6 {i : Nat → Int32} {a : Nat → List Int32} {q : Nat → List Int64} {r : Nat → Nat} (hI : kI i a q) (hr : kr r) (x1 : Int32) (x4 : Int32) (x5 : Int32) (hp0 : ((0 : Int) ≤ x1.toInt) ∧ (x1.toInt ≤ 49)) (hp1 : ((a 95).getD x1.toNatClampNeg 0).toInt = 6) (hp2 : ((0 : Int) ≤ x5.toInt) ∧ ((x5.toInt + 2) ≤ 39)) (hp3 : ((0 : Int) ≤ (i 6019).toInt) ∧ (((i 6019).toInt + 2) ≤ 900)) : km 5 13 [.ref 94, .int x1, .int 6, .int 0, .int x4, .int x5] (ks i a q r) (kVI w13_94_l16_l20_K6 i a q r (fun v i1 a1 q1 r1 => (i1 6019).toInt = ((i 6019).toInt + 2))) := by
  have hG := kG_self w13_94_l16_l20_K6 hI hr
  refine km_ofI (q := (mi_h13, mi_c13)) rfl (by decide) (Nat.le_of_ble_eq_true rfl) ?_
  intro P hP
  have r1 : ((0 : Int) ≤ ((a 95).getD x1.toNatClampNeg 0).toInt) ∧ (((a 95).getD x1.toNatClampNeg 0).toInt ≤ 7) := hG.I.2.2.1 95 (x1.toNatClampNeg)
  have fi_6019 : ((0 : Int) ≤ (i 6019).toInt) ∧ ((i 6019).toInt ≤ 1000) := hG.I.1 6019
  first | refine fo_goL mi_k13 fz13_0_2_4 [(0, .ref 94), (1, .int x1), (2, .int 6), (3, .int 0), (4, .int x4), (5, .int x5)] [.int 40, .int x5] (by rfl) ?_ | refine ft_go mi_k13 2 4 [(0, .ref 94), (1, .int x1), (2, .int 6), (3, .int 0), (4, .int x4), (5, .int x5)] [.int 40, .int x5] i a q r (by rfl) ?_
  refine ft_ifS mi_k13 (decide (x5 < 40)) 9 7 [] (by rfl) (fun c => ?_) (fun c => ?_)
  ·
    have c2 : x5.toInt < (40 : Int32).toInt := kd_lt c; clear c
    first | refine fo_goS mi_k13 fz13_9_2_11 [.int 0, .int 6] (by rfl) ?_ | refine ft_go mi_k13 2 11 [(0, .ref 94), (1, .int x1), (2, .int 6), (3, .int 0), (4, .int x4), (5, .int x5)] [.int 0, .int 6] i a q r (by rfl) ?_
    refine ko_callPI mi_k13.1 (pc := 11) (ls := [(0, .ref 94), (1, .int x1), (2, .int 6), (3, .int 0), (4, .int x4), (5, .int x5)]) (st := [.int 0, .int 6]) (h := ks i a q r) (i := (.invokestatic 39, 3, 11, 0, 9, 0, 298)) (mi_k13.2 _ _ (by rfl)) (ft_invS mi_pq11 (by rfl)) (cy := mi_c11) mi_pq11 rfl (kc11_l06_l10 hG.I hG.R ) (by decide) ?_
    intro vg3 hg3
    have z4 : vg3.toInt = 6 := hg3
    have evvg3 := kj_eq (oz1484 z4) (by decide : (6 : Int32).toInt = 6)
    subst evvg3
    first | refine ft_goL mi_k13 5 23 [(6, .int 6), (0, .ref 94), (1, .int x1), (2, .int 6), (3, .int 0), (4, .int x4), (5, .int x5)] [.int (6 * 4), .ref (mi_RO + 3)] (by rfl) ?_ | refine ft_go mi_k13 5 23 [(6, .int 6), (0, .ref 94), (1, .int x1), (2, .int 6), (3, .int 0), (4, .int x4), (5, .int x5)] [.int (6 * 4), .ref (mi_RO + 3)] i a q r (by rfl) ?_
    refine ko_top (by decide : (6 * 4 : Int32) = 24) ?_
    first | refine fo_goS mi_k13 fz13_23_2_25 [.int (24 + 0), .ref (mi_RO + 3)] (by rfl) ?_ | refine ft_go mi_k13 2 25 [(6, .int 6), (0, .ref 94), (1, .int x1), (2, .int 6), (3, .int 0), (4, .int x4), (5, .int x5)] [.int (24 + 0), .ref (mi_RO + 3)] i a q r (by rfl) ?_
    refine ko_top (by decide : (24 + 0 : Int32) = 24) ?_
    refine ft_ro mi_k13 (w := 70) (by decide +kernel) (by decide +kernel) ?_
    first | refine fo_goL mi_k13 fz13_26_4_34 [(7, .int 70), (6, .int 6), (0, .ref 94), (1, .int x1), (2, .int 6), (3, .int 0), (4, .int x4), (5, .int x5)] [.int 24, .int (i 6019)] (by rfl) ?_ | refine ft_go mi_k13 4 34 [(7, .int 70), (6, .int 6), (0, .ref 94), (1, .int x1), (2, .int 6), (3, .int 0), (4, .int x4), (5, .int x5)] [.int 24, .int (i 6019)] i a q r (by rfl) ?_
    refine ft_ifS mi_k13 (decide (24 ≤ (i 6019))) 48 37 [] (by rfl) (fun c => ?_) (fun c => ?_)
    ·
      have c6 : (24 : Int32).toInt ≤ (i 6019).toInt := kd_le c; clear c
      have s7 : ((i 6019) + 1).toInt = (i 6019).toInt + (1 : Int32).toInt := kd_add (oz1332 c6 kn24 kn1) (oz951 fi_6019.2 kn1)
      have hJ8 := kG_i hG 6019 rfl (v := ((i 6019) + 1)) ⟨(oz1333 c6 s7 kn24 kn1), (oz1351 hp3.2 s7 kn1)⟩
      first | refine ft_goI mi_k13 12 83 [.int 6, .ref (mi_RO + 4), .int x1, .ref 94] (ku i 6019 ((i 6019) + 1)) (by rfl) ?_ | refine ft_go mi_k13 12 83 [(7, .int 70), (6, .int 6), (0, .ref 94), (1, .int x1), (2, .int 6), (3, .int 0), (4, .int x4), (5, .int x5)] [.int 6, .ref (mi_RO + 4), .int x1, .ref 94] (ku i 6019 ((i 6019) + 1)) a q r (by rfl) ?_
      refine ft_ro mi_k13 (w := 0) (by decide +kernel) (by decide +kernel) ?_
      have s10 : (x5 + 1).toInt = x5.toInt + (1 : Int32).toInt := kd_add (oz12 hp2.1 kn1) (oz1352 hp2.2 kn1)
      first | refine ft_goS mi_k13 8 105 [.int (x5 + 1), .int x4, .int 0, .int 0, .int x1, .ref 94] (by rfl) ?_ | refine ft_go mi_k13 8 105 [(7, .int 70), (6, .int 6), (0, .ref 94), (1, .int x1), (2, .int 6), (3, .int 0), (4, .int x4), (5, .int x5)] [.int (x5 + 1), .int x4, .int 0, .int 0, .int x1, .ref 94] (ku i 6019 ((i 6019) + 1)) a q r (by rfl) ?_
      refine ko_callI mi_k13.1 (pc := 105) (ls := [(7, .int 70), (6, .int 6), (0, .ref 94), (1, .int x1), (2, .int 6), (3, .int 0), (4, .int x4), (5, .int x5)]) (st := [.int (x5 + 1), .int x4, .int 0, .int 0, .int x1, .ref 94]) (h := ks (ku i 6019 ((i 6019) + 1)) a q r) (i := (.invokevirtual 35, 3, 13, 0, 9, 0, 297)) (mi_k13.2 _ _ (by rfl)) (ft_invS mi_pq13 (by rfl)) (cy := mi_c13) mi_pq13 rfl (kc13_94_l10_l20_K6 hJ8.I hJ8.R x1 x4 (x5 + 1) (oz1339 hp0.1 hp0.2) (oz1484 hp1) (oz1356 hp2.1 hp2.2 s10 kn1) (oz1357 c6 hp3.2 s7 kn24 kn1)) (by decide) ?_
      intro vg11 ig11 ag11 qg11 rg11 kg11 hg11
      have hGg11 := kG_call hJ8 kg11 (by decide +kernel)
      have z12 : (ig11 6019).toInt = (((i 6019) + 1).toInt + 1) := hg11
      have b13 : ((-2147483648 : Int) ≤ vg11.toInt) ∧ (vg11.toInt ≤ 2147483647) := kd_bd vg11
      first | refine ft_goL mi_k13 6 232 [(8, .int vg11), (7, .int 70), (6, .int 6), (0, .ref 94), (1, .int x1), (2, .int 6), (3, .int 0), (4, .int x4), (5, .int x5)] [.int (vg11 * 2)] (by rfl) ?_ | refine ft_go mi_k13 6 232 [(8, .int vg11), (7, .int 70), (6, .int 6), (0, .ref 94), (1, .int x1), (2, .int 6), (3, .int 0), (4, .int x4), (5, .int x5)] [.int (vg11 * 2)] ig11 ag11 qg11 rg11 (by rfl) ?_
      exact ft_ret mi_k13 (by rfl) (hP (vg11 * 2) _ _ _ _ hGg11 (oz1358 s7 z12 kn1))
    ·
      have c14 : (i 6019).toInt < (24 : Int32).toInt := kd_leF c; clear c
      first | refine fo_goS mi_k13 fz13_37_5_47 [.int 70, .int (i 6019), .ref 96] (by rfl) ?_ | refine ft_go mi_k13 5 47 [(7, .int 70), (6, .int 6), (0, .ref 94), (1, .int x1), (2, .int 6), (3, .int 0), (4, .int x4), (5, .int x5)] [.int 70, .int (i 6019), .ref 96] i a q r (by rfl) ?_
      refine ko_iast3 mi_k13.1 (n := 24) (c := 24) (ax := (0, 0, 0, 0, 0)) (mi_k13.2 _ _ (by rfl)) (by rfl) (ksG96 _ _ _ _) (ksA96 _ _ _ _) (hG.I.2.1 96) rfl (oz3 fi_6019.1) (oz1343 c14 kn24) ?_
      intro a15 ea15 fa15
      have hJ15 := kG_a3 hG 96 rfl ea15 fa15 (kd_bd _)
      have s16 : ((i 6019) + 1).toInt = (i 6019).toInt + (1 : Int32).toInt := kd_add (oz12 fi_6019.1 kn1) (oz951 fi_6019.2 kn1)
      have hJ17 := kG_i hJ15 6019 rfl (v := ((i 6019) + 1)) ⟨(oz14 fi_6019.1 s16 kn1), (oz1351 hp3.2 s16 kn1)⟩
      first | refine ft_goI mi_k13 12 83 [.int 6, .ref (mi_RO + 4), .int x1, .ref 94] (ku i 6019 ((i 6019) + 1)) (by rfl) ?_ | refine ft_go mi_k13 12 83 [(7, .int 70), (6, .int 6), (0, .ref 94), (1, .int x1), (2, .int 6), (3, .int 0), (4, .int x4), (5, .int x5)] [.int 6, .ref (mi_RO + 4), .int x1, .ref 94] (ku i 6019 ((i 6019) + 1)) a15 q r (by rfl) ?_
      refine ft_ro mi_k13 (w := 0) (by decide +kernel) (by decide +kernel) ?_
      have s19 : (x5 + 1).toInt = x5.toInt + (1 : Int32).toInt := kd_add (oz12 hp2.1 kn1) (oz1352 hp2.2 kn1)
      first | refine ft_goS mi_k13 8 105 [.int (x5 + 1), .int x4, .int 0, .int 0, .int x1, .ref 94] (by rfl) ?_ | refine ft_go mi_k13 8 105 [(7, .int 70), (6, .int 6), (0, .ref 94), (1, .int x1), (2, .int 6), (3, .int 0), (4, .int x4), (5, .int x5)] [.int (x5 + 1), .int x4, .int 0, .int 0, .int x1, .ref 94] (ku i 6019 ((i 6019) + 1)) a15 q r (by rfl) ?_
      have r20 : ((0 : Int) ≤ ((a15 95).getD x1.toNatClampNeg 0).toInt) ∧ (((a15 95).getD x1.toNatClampNeg 0).toInt ≤ 7) := hJ17.I.2.2.1 95 (x1.toNatClampNeg)
      have u21 : ((a15 95).getD x1.toNatClampNeg 0).toInt = ((a 95).getD x1.toNatClampNeg 0).toInt := congrArg (fun z : List Int32 => (z.getD x1.toNatClampNeg 0).toInt) (fa15 95 (by decide))
      refine ko_callI mi_k13.1 (pc := 105) (ls := [(7, .int 70), (6, .int 6), (0, .ref 94), (1, .int x1), (2, .int 6), (3, .int 0), (4, .int x4), (5, .int x5)]) (st := [.int (x5 + 1), .int x4, .int 0, .int 0, .int x1, .ref 94]) (h := ks (ku i 6019 ((i 6019) + 1)) a15 q r) (i := (.invokevirtual 35, 3, 13, 0, 9, 0, 297)) (mi_k13.2 _ _ (by rfl)) (ft_invS mi_pq13 (by rfl)) (cy := mi_c13) mi_pq13 rfl (kc13_94_l10_l20_K6 hJ17.I hJ17.R x1 x4 (x5 + 1) (oz1339 hp0.1 hp0.2) (oz1486 hp1 u21) (oz1356 hp2.1 hp2.2 s19 kn1) (oz1359 fi_6019.1 hp3.2 s16 kn1)) (by decide) ?_
      intro vg22 ig22 ag22 qg22 rg22 kg22 hg22
      have hGg22 := kG_call hJ17 kg22 (by decide +kernel)
      have z23 : (ig22 6019).toInt = (((i 6019) + 1).toInt + 1) := hg22
      have b24 : ((-2147483648 : Int) ≤ vg22.toInt) ∧ (vg22.toInt ≤ 2147483647) := kd_bd vg22
      first | refine ft_goL mi_k13 6 232 [(8, .int vg22), (7, .int 70), (6, .int 6), (0, .ref 94), (1, .int x1), (2, .int 6), (3, .int 0), (4, .int x4), (5, .int x5)] [.int (vg22 * 2)] (by rfl) ?_ | refine ft_go mi_k13 6 232 [(8, .int vg22), (7, .int 70), (6, .int 6), (0, .ref 94), (1, .int x1), (2, .int 6), (3, .int 0), (4, .int x4), (5, .int x5)] [.int (vg22 * 2)] ig22 ag22 qg22 rg22 (by rfl) ?_
      exact ft_ret mi_k13 (by rfl) (hP (vg22 * 2) _ _ _ _ hGg22 (oz1358 s16 z23 kn1))
  ·
    have c25 : (40 : Int32).toInt ≤ x5.toInt := kd_ltF c; clear c
    exact (oz1360 c25 hp2.2 kn40).elim
set_option maxRecDepth 100000 in
theorem kc11_l06_l11 {i : Nat → Int32} {a : Nat → List Int32} {q : Nat → List Int64} {r : Nat → Nat} (hI : kI i a q) (hr : kr r)  : km 1 11 [.int 6, .int 1] (ks i a q r) (kPI (ks i a q r) (fun v => v.toInt = 0)) := by
  have hG := kG_self kW0 hI hr
  refine km_ofPI (q := (mi_h11, mi_c11)) rfl (by decide) (Nat.le_of_ble_eq_true rfl) ?_
  intro P hP
  first | refine ft_goL mi_k11 16 26 [(3, .int 0), (2, .int 6), (0, .int 6), (1, .int 1)] [.int (6 * 4), .ref (mi_RO + 3)] (by rfl) ?_ | refine ft_go mi_k11 16 26 [(3, .int 0), (2, .int 6), (0, .int 6), (1, .int 1)] [.int (6 * 4), .ref (mi_RO + 3)] i a q r (by rfl) ?_
  refine ko_top (by decide : (6 * 4 : Int32) = 24) ?_
  first | refine fo_goS mi_k11 fz11_26_2_28 [.int (24 + 1), .ref (mi_RO + 3)] (by rfl) ?_ | refine ft_go mi_k11 2 28 [(3, .int 0), (2, .int 6), (0, .int 6), (1, .int 1)] [.int (24 + 1), .ref (mi_RO + 3)] i a q r (by rfl) ?_
  refine ko_top (by decide : (24 + 1 : Int32) = 25) ?_
  refine ft_ro mi_k11 (w := 0) (by decide +kernel) (by decide +kernel) ?_
  first | refine ft_goS mi_k11 3 38 [.int 6, .ref (mi_RO + 4)] (by rfl) ?_ | refine ft_go mi_k11 3 38 [(3, .int 0), (2, .int 6), (0, .int 6), (1, .int 1)] [.int 6, .ref (mi_RO + 4)] i a q r (by rfl) ?_
  refine ft_ro mi_k11 (w := 0) (by decide +kernel) (by decide +kernel) ?_
  first | refine fo_goL mi_k11 fz11_39_2_43 [(3, .int (0 + 1)), (2, .int 0), (0, .int 6), (1, .int 1)] [] (by rfl) ?_ | refine ft_go mi_k11 2 43 [(3, .int (0 + 1)), (2, .int 0), (0, .int 6), (1, .int 1)] [] i a q r (by rfl) ?_
  refine ko_loc (by decide : (0 + 1 : Int32) = 1) ?_
  first | refine ft_goL mi_k11 7 47 [(3, .int 1), (2, .int 0), (0, .int 6), (1, .int 1)] [.int 0] (by rfl) ?_ | refine ft_goS mi_k11 7 47 [.int 0] (by rfl) ?_ | refine ft_go mi_k11 7 47 [(3, .int 1), (2, .int 0), (0, .int 6), (1, .int 1)] [.int 0] i a q r (by rfl) ?_
  exact ft_ret mi_k11 (by rfl) (hP 0 (oz236 kn0))
def w14_94_l11_K6 : kW := ([6019], [96], [], [])
set_option maxRecDepth 100000 in
theorem kc14_94_l11_K6 {i : Nat → Int32} {a : Nat → List Int32} {q : Nat → List Int64} {r : Nat → Nat} (hI : kI i a q) (hr : kr r) (x1 : Int32) (x3 : Int32) (x4 : Int32) (hp0 : ((0 : Int) ≤ x1.toInt) ∧ (x1.toInt ≤ 49)) (hp1 : ((a 95).getD x1.toNatClampNeg 0).toInt = 6) (hp2 : ((0 : Int) ≤ x4.toInt) ∧ ((x4.toInt + 2) ≤ 39)) (hp3 : ((0 : Int) ≤ (i 6019).toInt) ∧ (((i 6019).toInt + 2) ≤ 900)) : km 7 14 [.ref 94, .int x1, .int 1, .int x3, .int x4] (ks i a q r) (kVI w14_94_l11_K6 i a q r (fun v i1 a1 q1 r1 => (i1 6019).toInt = ((i 6019).toInt + 2))) := by
  have hG := kG_self w14_94_l11_K6 hI hr
  refine km_ofI (q := (mi_h14, mi_c14)) rfl (by decide) (Nat.le_of_ble_eq_true rfl) ?_
  intro P hP
  have r1 : ((0 : Int) ≤ ((a 95).getD x1.toNatClampNeg 0).toInt) ∧ (((a 95).getD x1.toNatClampNeg 0).toInt ≤ 7) := hG.I.2.2.1 95 (x1.toNatClampNeg)
  have fi_6019 : ((0 : Int) ≤ (i 6019).toInt) ∧ ((i 6019).toInt ≤ 1000) := hG.I.1 6019
  first | refine fo_goL mi_k14 fz14_0_3_5 [(0, .ref 94), (1, .int x1), (2, .int 1), (3, .int x3), (4, .int x4)] [.int x1, .ref 95] (by rfl) ?_ | refine ft_go mi_k14 3 5 [(0, .ref 94), (1, .int x1), (2, .int 1), (3, .int x3), (4, .int x4)] [.int x1, .ref 95] i a q r (by rfl) ?_
  refine ko_iald3 mi_k14.1 (n := 50) (c := 50) (ax := (0, 0, 0, 0, 0)) (mi_k14.2 _ _ (by rfl)) (by rfl) (ksG95 _ _ _ _) (hG.I.2.1 95) rfl (oz3 hp0.1) (oz1336 hp0.2) ?_
  refine ko_top (kj_eq (oz1484 hp1) (by decide) : ((a 95).getD x1.toNatClampNeg 0) = 6) ?_
  first | refine ft_goL mi_k14 9 48 [(5, .int 6), (0, .ref 94), (1, .int x1), (2, .int 1), (3, .int x3), (4, .int x4)] [.int x4, .int x3, .int 0, .int 6, .int x1, .ref 94] (by rfl) ?_ | refine ft_go mi_k14 9 48 [(5, .int 6), (0, .ref 94), (1, .int x1), (2, .int 1), (3, .int x3), (4, .int x4)] [.int x4, .int x3, .int 0, .int 6, .int x1, .ref 94] i a q r (by rfl) ?_
  refine ko_callI mi_k14.1 (pc := 48) (ls := [(5, .int 6), (0, .ref 94), (1, .int x1), (2, .int 1), (3, .int x3), (4, .int x4)]) (st := [.int x4, .int x3, .int 0, .int 6, .int x1, .ref 94]) (h := ks i a q r) (i := (.invokevirtual 35, 3, 13, 0, 9, 0, 297)) (mi_k14.2 _ _ (by rfl)) (ft_invS mi_pq13 (by rfl)) (cy := mi_c13) mi_pq13 rfl (kc13_94_l16_l20_K6 hG.I hG.R x1 x3 x4 (oz1339 hp0.1 hp0.2) (oz1484 hp1) (oz1367 hp2.1 hp2.2) (oz1386 fi_6019.1 hp3.2)) (by decide) ?_
  intro vg2 ig2 ag2 qg2 rg2 kg2 hg2
  have hGg2 := kG_call hG kg2 (by decide +kernel)
  have z3 : (ig2 6019).toInt = ((i 6019).toInt + 2) := hg2
  have b4 : ((-2147483648 : Int) ≤ vg2.toInt) ∧ (vg2.toInt ≤ 2147483647) := kd_bd vg2
  first | refine fo_goS mi_k14 fz14_51_2_53 [.int (vg2 * 2)] (by rfl) ?_ | refine ft_go mi_k14 2 53 [(5, .int 6), (0, .ref 94), (1, .int x1), (2, .int 1), (3, .int x3), (4, .int x4)] [.int (vg2 * 2)] ig2 ag2 qg2 rg2 (by rfl) ?_
  exact ft_ret mi_k14 (by rfl) (hP (vg2 * 2) _ _ _ _ hGg2 (oz1387 z3))
def w13_94_l16_l21_K6 : kW := ([6019], [96], [], [])
set_option maxRecDepth 100000 in
theorem kc13_94_l16_l21_K6 {i : Nat → Int32} {a : Nat → List Int32} {q : Nat → List Int64} {r : Nat → Nat} (hI : kI i a q) (hr : kr r) (x1 : Int32) (x4 : Int32) (x5 : Int32) (hp0 : ((0 : Int) ≤ x1.toInt) ∧ (x1.toInt ≤ 49)) (hp1 : ((a 95).getD x1.toNatClampNeg 0).toInt = 6) (hp2 : ((0 : Int) ≤ x5.toInt) ∧ ((x5.toInt + 3) ≤ 39)) (hp3 : ((0 : Int) ≤ (i 6019).toInt) ∧ (((i 6019).toInt + 3) ≤ 900)) : km 9 13 [.ref 94, .int x1, .int 6, .int 1, .int x4, .int x5] (ks i a q r) (kVI w13_94_l16_l21_K6 i a q r (fun v i1 a1 q1 r1 => (i1 6019).toInt = ((i 6019).toInt + 3))) := by
  have hG := kG_self w13_94_l16_l21_K6 hI hr
  refine km_ofI (q := (mi_h13, mi_c13)) rfl (by decide) (Nat.le_of_ble_eq_true rfl) ?_
  intro P hP
  have r1 : ((0 : Int) ≤ ((a 95).getD x1.toNatClampNeg 0).toInt) ∧ (((a 95).getD x1.toNatClampNeg 0).toInt ≤ 7) := hG.I.2.2.1 95 (x1.toNatClampNeg)
  have fi_6019 : ((0 : Int) ≤ (i 6019).toInt) ∧ ((i 6019).toInt ≤ 1000) := hG.I.1 6019
  first | refine fo_goL mi_k13 fz13_0_2_4 [(0, .ref 94), (1, .int x1), (2, .int 6), (3, .int 1), (4, .int x4), (5, .int x5)] [.int 40, .int x5] (by rfl) ?_ | refine ft_go mi_k13 2 4 [(0, .ref 94), (1, .int x1), (2, .int 6), (3, .int 1), (4, .int x4), (5, .int x5)] [.int 40, .int x5] i a q r (by rfl) ?_
  refine ft_ifS mi_k13 (decide (x5 < 40)) 9 7 [] (by rfl) (fun c => ?_) (fun c => ?_)
  ·
    have c2 : x5.toInt < (40 : Int32).toInt := kd_lt c; clear c
    first | refine fo_goS mi_k13 fz13_9_2_11 [.int 1, .int 6] (by rfl) ?_ | refine ft_go mi_k13 2 11 [(0, .ref 94), (1, .int x1), (2, .int 6), (3, .int 1), (4, .int x4), (5, .int x5)] [.int 1, .int 6] i a q r (by rfl) ?_
    refine ko_callPI mi_k13.1 (pc := 11) (ls := [(0, .ref 94), (1, .int x1), (2, .int 6), (3, .int 1), (4, .int x4), (5, .int x5)]) (st := [.int 1, .int 6]) (h := ks i a q r) (i := (.invokestatic 39, 3, 11, 0, 9, 0, 298)) (mi_k13.2 _ _ (by rfl)) (ft_invS mi_pq11 (by rfl)) (cy := mi_c11) mi_pq11 rfl (kc11_l06_l11 hG.I hG.R ) (by decide) ?_
    intro vg3 hg3
    have z4 : vg3.toInt = 0 := hg3
    have evvg3 := kj_eq (oz236 z4) (by decide : (0 : Int32).toInt = 0)
    subst evvg3
    first | refine ft_goL mi_k13 5 23 [(6, .int 0), (0, .ref 94), (1, .int x1), (2, .int 6), (3, .int 1), (4, .int x4), (5, .int x5)] [.int (0 * 4), .ref (mi_RO + 3)] (by rfl) ?_ | refine ft_go mi_k13 5 23 [(6, .int 0), (0, .ref 94), (1, .int x1), (2, .int 6), (3, .int 1), (4, .int x4), (5, .int x5)] [.int (0 * 4), .ref (mi_RO + 3)] i a q r (by rfl) ?_
    refine ko_top (by decide : (0 * 4 : Int32) = 0) ?_
    first | refine fo_goS mi_k13 fz13_23_2_25 [.int (0 + 1), .ref (mi_RO + 3)] (by rfl) ?_ | refine ft_go mi_k13 2 25 [(6, .int 0), (0, .ref 94), (1, .int x1), (2, .int 6), (3, .int 1), (4, .int x4), (5, .int x5)] [.int (0 + 1), .ref (mi_RO + 3)] i a q r (by rfl) ?_
    refine ko_top (by decide : (0 + 1 : Int32) = 1) ?_
    refine ft_ro mi_k13 (w := 10) (by decide +kernel) (by decide +kernel) ?_
    first | refine fo_goL mi_k13 fz13_26_4_34 [(7, .int 10), (6, .int 0), (0, .ref 94), (1, .int x1), (2, .int 6), (3, .int 1), (4, .int x4), (5, .int x5)] [.int 24, .int (i 6019)] (by rfl) ?_ | refine ft_go mi_k13 4 34 [(7, .int 10), (6, .int 0), (0, .ref 94), (1, .int x1), (2, .int 6), (3, .int 1), (4, .int x4), (5, .int x5)] [.int 24, .int (i 6019)] i a q r (by rfl) ?_
    refine ft_ifS mi_k13 (decide (24 ≤ (i 6019))) 48 37 [] (by rfl) (fun c => ?_) (fun c => ?_)
    ·
      have c6 : (24 : Int32).toInt ≤ (i 6019).toInt := kd_le c; clear c
      have s7 : ((i 6019) + 1).toInt = (i 6019).toInt + (1 : Int32).toInt := kd_add (oz1332 c6 kn24 kn1) (oz951 fi_6019.2 kn1)
      have hJ8 := kG_i hG 6019 rfl (v := ((i 6019) + 1)) ⟨(oz1333 c6 s7 kn24 kn1), (oz1385 hp3.2 s7 kn1)⟩
      have s9 : (x5 + 1).toInt = x5.toInt + (1 : Int32).toInt := kd_add (oz12 hp2.1 kn1) (oz1366 hp2.2 kn1)
      first | refine fo_goI mi_k13 fz13_48_15_72 [.int (x5 + 1), .int x4, .int 1, .int x1, .ref 94] (ku i 6019 ((i 6019) + 1)) (by rfl) ?_ | refine ft_go mi_k13 15 72 [(7, .int 10), (6, .int 0), (0, .ref 94), (1, .int x1), (2, .int 6), (3, .int 1), (4, .int x4), (5, .int x5)] [.int (x5 + 1), .int x4, .int 1, .int x1, .ref 94] (ku i 6019 ((i 6019) + 1)) a q r (by rfl) ?_
      refine ko_callI mi_k13.1 (pc := 72) (ls := [(7, .int 10), (6, .int 0), (0, .ref 94), (1, .int x1), (2, .int 6), (3, .int 1), (4, .int x4), (5, .int x5)]) (st := [.int (x5 + 1), .int x4, .int 1, .int x1, .ref 94]) (h := ks (ku i 6019 ((i 6019) + 1)) a q r) (i := (.invokevirtual 43, 3, 14, 0, 9, 0, 301)) (mi_k13.2 _ _ (by rfl)) (ft_invS mi_pq14 (by rfl)) (cy := mi_c14) mi_pq14 rfl (kc14_94_l11_K6 hJ8.I hJ8.R x1 x4 (x5 + 1) (oz1339 hp0.1 hp0.2) (oz1484 hp1) (oz1372 hp2.1 hp2.2 s9 kn1) (oz1388 c6 hp3.2 s7 kn24 kn1)) (by decide) ?_
      intro vg10 ig10 ag10 qg10 rg10 kg10 hg10
      have hGg10 := kG_call hJ8 kg10 (by decide +kernel)
      have z11 : (ig10 6019).toInt = (((i 6019) + 1).toInt + 2) := hg10
      exact ft_ret mi_k13 (by rfl) (hP vg10 _ _ _ _ hGg10 (oz1389 s7 z11 kn1))
    ·
      have c12 : (i 6019).toInt < (24 : Int32).toInt := kd_leF c; clear c
      first | refine fo_goS mi_k13 fz13_37_5_47 [.int 10, .int (i 6019), .ref 96] (by rfl) ?_ | refine ft_go mi_k13 5 47 [(7, .int 10), (6, .int 0), (0, .ref 94), (1, .int x1), (2, .int 6), (3, .int 1), (4, .int x4), (5, .int x5)] [.int 10, .int (i 6019), .ref 96] i a q r (by rfl) ?_
      refine ko_iast3 mi_k13.1 (n := 24) (c := 24) (ax := (0, 0, 0, 0, 0)) (mi_k13.2 _ _ (by rfl)) (by rfl) (ksG96 _ _ _ _) (ksA96 _ _ _ _) (hG.I.2.1 96) rfl (oz3 fi_6019.1) (oz1343 c12 kn24) ?_
      intro a13 ea13 fa13
      have hJ13 := kG_a3 hG 96 rfl ea13 fa13 (kd_bd _)
      have s14 : ((i 6019) + 1).toInt = (i 6019).toInt + (1 : Int32).toInt := kd_add (oz12 fi_6019.1 kn1) (oz951 fi_6019.2 kn1)
      have hJ15 := kG_i hJ13 6019 rfl (v := ((i 6019) + 1)) ⟨(oz14 fi_6019.1 s14 kn1), (oz1385 hp3.2 s14 kn1)⟩
      have s16 : (x5 + 1).toInt = x5.toInt + (1 : Int32).toInt := kd_add (oz12 hp2.1 kn1) (oz1366 hp2.2 kn1)
      first | refine fo_goI mi_k13 fz13_48_15_72 [.int (x5 + 1), .int x4, .int 1, .int x1, .ref 94] (ku i 6019 ((i 6019) + 1)) (by rfl) ?_ | refine ft_go mi_k13 15 72 [(7, .int 10), (6, .int 0), (0, .ref 94), (1, .int x1), (2, .int 6), (3, .int 1), (4, .int x4), (5, .int x5)] [.int (x5 + 1), .int x4, .int 1, .int x1, .ref 94] (ku i 6019 ((i 6019) + 1)) a13 q r (by rfl) ?_
      have r17 : ((0 : Int) ≤ ((a13 95).getD x1.toNatClampNeg 0).toInt) ∧ (((a13 95).getD x1.toNatClampNeg 0).toInt ≤ 7) := hJ15.I.2.2.1 95 (x1.toNatClampNeg)
      have u18 : ((a13 95).getD x1.toNatClampNeg 0).toInt = ((a 95).getD x1.toNatClampNeg 0).toInt := congrArg (fun z : List Int32 => (z.getD x1.toNatClampNeg 0).toInt) (fa13 95 (by decide))
      refine ko_callI mi_k13.1 (pc := 72) (ls := [(7, .int 10), (6, .int 0), (0, .ref 94), (1, .int x1), (2, .int 6), (3, .int 1), (4, .int x4), (5, .int x5)]) (st := [.int (x5 + 1), .int x4, .int 1, .int x1, .ref 94]) (h := ks (ku i 6019 ((i 6019) + 1)) a13 q r) (i := (.invokevirtual 43, 3, 14, 0, 9, 0, 301)) (mi_k13.2 _ _ (by rfl)) (ft_invS mi_pq14 (by rfl)) (cy := mi_c14) mi_pq14 rfl (kc14_94_l11_K6 hJ15.I hJ15.R x1 x4 (x5 + 1) (oz1339 hp0.1 hp0.2) (oz1486 hp1 u18) (oz1372 hp2.1 hp2.2 s16 kn1) (oz1390 fi_6019.1 hp3.2 s14 kn1)) (by decide) ?_
      intro vg19 ig19 ag19 qg19 rg19 kg19 hg19
      have hGg19 := kG_call hJ15 kg19 (by decide +kernel)
      have z20 : (ig19 6019).toInt = (((i 6019) + 1).toInt + 2) := hg19
      exact ft_ret mi_k13 (by rfl) (hP vg19 _ _ _ _ hGg19 (oz1389 s14 z20 kn1))
  ·
    have c21 : (40 : Int32).toInt ≤ x5.toInt := kd_ltF c; clear c
    exact (oz1376 c21 hp2.2 kn40).elim
set_option maxRecDepth 100000 in
theorem kc11_l06_l12 {i : Nat → Int32} {a : Nat → List Int32} {q : Nat → List Int64} {r : Nat → Nat} (hI : kI i a q) (hr : kr r)  : km 1 11 [.int 6, .int 2] (ks i a q r) (kPI (ks i a q r) (fun v => v.toInt = 0)) := by
  have hG := kG_self kW0 hI hr
  refine km_ofPI (q := (mi_h11, mi_c11)) rfl (by decide) (Nat.le_of_ble_eq_true rfl) ?_
  intro P hP
  first | refine ft_goL mi_k11 16 26 [(3, .int 0), (2, .int 6), (0, .int 6), (1, .int 2)] [.int (6 * 4), .ref (mi_RO + 3)] (by rfl) ?_ | refine ft_go mi_k11 16 26 [(3, .int 0), (2, .int 6), (0, .int 6), (1, .int 2)] [.int (6 * 4), .ref (mi_RO + 3)] i a q r (by rfl) ?_
  refine ko_top (by decide : (6 * 4 : Int32) = 24) ?_
  first | refine fo_goS mi_k11 fz11_26_2_28 [.int (24 + 2), .ref (mi_RO + 3)] (by rfl) ?_ | refine ft_go mi_k11 2 28 [(3, .int 0), (2, .int 6), (0, .int 6), (1, .int 2)] [.int (24 + 2), .ref (mi_RO + 3)] i a q r (by rfl) ?_
  refine ko_top (by decide : (24 + 2 : Int32) = 26) ?_
  refine ft_ro mi_k11 (w := 0) (by decide +kernel) (by decide +kernel) ?_
  first | refine ft_goS mi_k11 3 38 [.int 6, .ref (mi_RO + 4)] (by rfl) ?_ | refine ft_go mi_k11 3 38 [(3, .int 0), (2, .int 6), (0, .int 6), (1, .int 2)] [.int 6, .ref (mi_RO + 4)] i a q r (by rfl) ?_
  refine ft_ro mi_k11 (w := 0) (by decide +kernel) (by decide +kernel) ?_
  first | refine fo_goL mi_k11 fz11_39_2_43 [(3, .int (0 + 1)), (2, .int 0), (0, .int 6), (1, .int 2)] [] (by rfl) ?_ | refine ft_go mi_k11 2 43 [(3, .int (0 + 1)), (2, .int 0), (0, .int 6), (1, .int 2)] [] i a q r (by rfl) ?_
  refine ko_loc (by decide : (0 + 1 : Int32) = 1) ?_
  first | refine ft_goL mi_k11 7 47 [(3, .int 1), (2, .int 0), (0, .int 6), (1, .int 2)] [.int 0] (by rfl) ?_ | refine ft_goS mi_k11 7 47 [.int 0] (by rfl) ?_ | refine ft_go mi_k11 7 47 [(3, .int 1), (2, .int 0), (0, .int 6), (1, .int 2)] [.int 0] i a q r (by rfl) ?_
  exact ft_ret mi_k11 (by rfl) (hP 0 (oz236 kn0))
def w14_94_l12_K6 : kW := ([], [], [], [])
set_option maxRecDepth 100000 in
theorem kc14_94_l12_K6 {i : Nat → Int32} {a : Nat → List Int32} {q : Nat → List Int64} {r : Nat → Nat} (hI : kI i a q) (hr : kr r) (x1 : Int32) (x3 : Int32) (x4 : Int32) (hp0 : ((0 : Int) ≤ x1.toInt) ∧ (x1.toInt ≤ 49)) (hp1 : ((a 95).getD x1.toNatClampNeg 0).toInt = 6) (hp2 : ((0 : Int) ≤ x4.toInt) ∧ ((x4.toInt + 0) ≤ 39)) (hp3 : ((0 : Int) ≤ (i 6019).toInt) ∧ (((i 6019).toInt + 0) ≤ 900)) : km 1 14 [.ref 94, .int x1, .int 2, .int x3, .int x4] (ks i a q r) (kVI w14_94_l12_K6 i a q r (fun v i1 a1 q1 r1 => (i1 6019).toInt = ((i 6019).toInt + 0))) := by
  have hG := kG_self w14_94_l12_K6 hI hr
  refine km_ofI (q := (mi_h14, mi_c14)) rfl (by decide) (Nat.le_of_ble_eq_true rfl) ?_
  intro P hP
  have r1 : ((0 : Int) ≤ ((a 95).getD x1.toNatClampNeg 0).toInt) ∧ (((a 95).getD x1.toNatClampNeg 0).toInt ≤ 7) := hG.I.2.2.1 95 (x1.toNatClampNeg)
  first | refine fo_goL mi_k14 fz14_0_3_5 [(0, .ref 94), (1, .int x1), (2, .int 2), (3, .int x3), (4, .int x4)] [.int x1, .ref 95] (by rfl) ?_ | refine ft_go mi_k14 3 5 [(0, .ref 94), (1, .int x1), (2, .int 2), (3, .int x3), (4, .int x4)] [.int x1, .ref 95] i a q r (by rfl) ?_
  refine ko_iald3 mi_k14.1 (n := 50) (c := 50) (ax := (0, 0, 0, 0, 0)) (mi_k14.2 _ _ (by rfl)) (by rfl) (ksG95 _ _ _ _) (hG.I.2.1 95) rfl (oz3 hp0.1) (oz1336 hp0.2) ?_
  refine ko_top (kj_eq (oz1484 hp1) (by decide) : ((a 95).getD x1.toNatClampNeg 0) = 6) ?_
  first | refine ft_goL mi_k14 6 57 [(5, .int 6), (0, .ref 94), (1, .int x1), (2, .int 2), (3, .int x3), (4, .int x4)] [.int (x3 ^^^ x1)] (by rfl) ?_ | refine ft_go mi_k14 6 57 [(5, .int 6), (0, .ref 94), (1, .int x1), (2, .int 2), (3, .int x3), (4, .int x4)] [.int (x3 ^^^ x1)] i a q r (by rfl) ?_
  exact ft_ret mi_k14 (by rfl) (hP (x3 ^^^ x1) _ _ _ _ hG oz1338)
def w13_94_l16_l22_K6 : kW := ([6019], [96], [], [])
set_option maxRecDepth 100000 in
theorem kc13_94_l16_l22_K6 {i : Nat → Int32} {a : Nat → List Int32} {q : Nat → List Int64} {r : Nat → Nat} (hI : kI i a q) (hr : kr r) (x1 : Int32) (x4 : Int32) (x5 : Int32) (hp0 : ((0 : Int) ≤ x1.toInt) ∧ (x1.toInt ≤ 49)) (hp1 : ((a 95).getD x1.toNatClampNeg 0).toInt = 6) (hp2 : ((0 : Int) ≤ x5.toInt) ∧ ((x5.toInt + 1) ≤ 39)) (hp3 : ((0 : Int) ≤ (i 6019).toInt) ∧ (((i 6019).toInt + 1) ≤ 900)) : km 3 13 [.ref 94, .int x1, .int 6, .int 2, .int x4, .int x5] (ks i a q r) (kVI w13_94_l16_l22_K6 i a q r (fun v i1 a1 q1 r1 => (i1 6019).toInt = ((i 6019).toInt + 1))) := by
  have hG := kG_self w13_94_l16_l22_K6 hI hr
  refine km_ofI (q := (mi_h13, mi_c13)) rfl (by decide) (Nat.le_of_ble_eq_true rfl) ?_
  intro P hP
  have r1 : ((0 : Int) ≤ ((a 95).getD x1.toNatClampNeg 0).toInt) ∧ (((a 95).getD x1.toNatClampNeg 0).toInt ≤ 7) := hG.I.2.2.1 95 (x1.toNatClampNeg)
  have fi_6019 : ((0 : Int) ≤ (i 6019).toInt) ∧ ((i 6019).toInt ≤ 1000) := hG.I.1 6019
  first | refine fo_goL mi_k13 fz13_0_2_4 [(0, .ref 94), (1, .int x1), (2, .int 6), (3, .int 2), (4, .int x4), (5, .int x5)] [.int 40, .int x5] (by rfl) ?_ | refine ft_go mi_k13 2 4 [(0, .ref 94), (1, .int x1), (2, .int 6), (3, .int 2), (4, .int x4), (5, .int x5)] [.int 40, .int x5] i a q r (by rfl) ?_
  refine ft_ifS mi_k13 (decide (x5 < 40)) 9 7 [] (by rfl) (fun c => ?_) (fun c => ?_)
  ·
    have c2 : x5.toInt < (40 : Int32).toInt := kd_lt c; clear c
    first | refine fo_goS mi_k13 fz13_9_2_11 [.int 2, .int 6] (by rfl) ?_ | refine ft_go mi_k13 2 11 [(0, .ref 94), (1, .int x1), (2, .int 6), (3, .int 2), (4, .int x4), (5, .int x5)] [.int 2, .int 6] i a q r (by rfl) ?_
    refine ko_callPI mi_k13.1 (pc := 11) (ls := [(0, .ref 94), (1, .int x1), (2, .int 6), (3, .int 2), (4, .int x4), (5, .int x5)]) (st := [.int 2, .int 6]) (h := ks i a q r) (i := (.invokestatic 39, 3, 11, 0, 9, 0, 298)) (mi_k13.2 _ _ (by rfl)) (ft_invS mi_pq11 (by rfl)) (cy := mi_c11) mi_pq11 rfl (kc11_l06_l12 hG.I hG.R ) (by decide) ?_
    intro vg3 hg3
    have z4 : vg3.toInt = 0 := hg3
    have evvg3 := kj_eq (oz236 z4) (by decide : (0 : Int32).toInt = 0)
    subst evvg3
    first | refine ft_goL mi_k13 5 23 [(6, .int 0), (0, .ref 94), (1, .int x1), (2, .int 6), (3, .int 2), (4, .int x4), (5, .int x5)] [.int (0 * 4), .ref (mi_RO + 3)] (by rfl) ?_ | refine ft_go mi_k13 5 23 [(6, .int 0), (0, .ref 94), (1, .int x1), (2, .int 6), (3, .int 2), (4, .int x4), (5, .int x5)] [.int (0 * 4), .ref (mi_RO + 3)] i a q r (by rfl) ?_
    refine ko_top (by decide : (0 * 4 : Int32) = 0) ?_
    first | refine fo_goS mi_k13 fz13_23_2_25 [.int (0 + 2), .ref (mi_RO + 3)] (by rfl) ?_ | refine ft_go mi_k13 2 25 [(6, .int 0), (0, .ref 94), (1, .int x1), (2, .int 6), (3, .int 2), (4, .int x4), (5, .int x5)] [.int (0 + 2), .ref (mi_RO + 3)] i a q r (by rfl) ?_
    refine ko_top (by decide : (0 + 2 : Int32) = 2) ?_
    refine ft_ro mi_k13 (w := 11) (by decide +kernel) (by decide +kernel) ?_
    first | refine fo_goL mi_k13 fz13_26_4_34 [(7, .int 11), (6, .int 0), (0, .ref 94), (1, .int x1), (2, .int 6), (3, .int 2), (4, .int x4), (5, .int x5)] [.int 24, .int (i 6019)] (by rfl) ?_ | refine ft_go mi_k13 4 34 [(7, .int 11), (6, .int 0), (0, .ref 94), (1, .int x1), (2, .int 6), (3, .int 2), (4, .int x4), (5, .int x5)] [.int 24, .int (i 6019)] i a q r (by rfl) ?_
    refine ft_ifS mi_k13 (decide (24 ≤ (i 6019))) 48 37 [] (by rfl) (fun c => ?_) (fun c => ?_)
    ·
      have c6 : (24 : Int32).toInt ≤ (i 6019).toInt := kd_le c; clear c
      have s7 : ((i 6019) + 1).toInt = (i 6019).toInt + (1 : Int32).toInt := kd_add (oz1332 c6 kn24 kn1) (oz951 fi_6019.2 kn1)
      have hJ8 := kG_i hG 6019 rfl (v := ((i 6019) + 1)) ⟨(oz1333 c6 s7 kn24 kn1), (oz1334 hp3.2 s7 kn1)⟩
      have s9 : (x5 + 1).toInt = x5.toInt + (1 : Int32).toInt := kd_add (oz12 hp2.1 kn1) (oz1335 hp2.2 kn1)
      first | refine fo_goI mi_k13 fz13_48_15_72 [.int (x5 + 1), .int x4, .int 2, .int x1, .ref 94] (ku i 6019 ((i 6019) + 1)) (by rfl) ?_ | refine ft_go mi_k13 15 72 [(7, .int 11), (6, .int 0), (0, .ref 94), (1, .int x1), (2, .int 6), (3, .int 2), (4, .int x4), (5, .int x5)] [.int (x5 + 1), .int x4, .int 2, .int x1, .ref 94] (ku i 6019 ((i 6019) + 1)) a q r (by rfl) ?_
      refine ko_callI mi_k13.1 (pc := 72) (ls := [(7, .int 11), (6, .int 0), (0, .ref 94), (1, .int x1), (2, .int 6), (3, .int 2), (4, .int x4), (5, .int x5)]) (st := [.int (x5 + 1), .int x4, .int 2, .int x1, .ref 94]) (h := ks (ku i 6019 ((i 6019) + 1)) a q r) (i := (.invokevirtual 43, 3, 14, 0, 9, 0, 301)) (mi_k13.2 _ _ (by rfl)) (ft_invS mi_pq14 (by rfl)) (cy := mi_c14) mi_pq14 rfl (kc14_94_l12_K6 hJ8.I hJ8.R x1 x4 (x5 + 1) (oz1339 hp0.1 hp0.2) (oz1484 hp1) (oz1340 hp2.1 hp2.2 s9 kn1) (oz1341 c6 hp3.2 s7 kn24 kn1)) (by decide) ?_
      intro vg10 ig10 ag10 qg10 rg10 kg10 hg10
      have hGg10 := kG_call hJ8 kg10 (by decide +kernel)
      have efig10_6019 : (ig10 6019).toInt = ((i 6019) + 1).toInt := kg10.ti 6019 rfl
      exact ft_ret mi_k13 (by rfl) (hP vg10 _ _ _ _ hGg10 (oz1342 efig10_6019 s7 kn1))
    ·
      have c12 : (i 6019).toInt < (24 : Int32).toInt := kd_leF c; clear c
      first | refine fo_goS mi_k13 fz13_37_5_47 [.int 11, .int (i 6019), .ref 96] (by rfl) ?_ | refine ft_go mi_k13 5 47 [(7, .int 11), (6, .int 0), (0, .ref 94), (1, .int x1), (2, .int 6), (3, .int 2), (4, .int x4), (5, .int x5)] [.int 11, .int (i 6019), .ref 96] i a q r (by rfl) ?_
      refine ko_iast3 mi_k13.1 (n := 24) (c := 24) (ax := (0, 0, 0, 0, 0)) (mi_k13.2 _ _ (by rfl)) (by rfl) (ksG96 _ _ _ _) (ksA96 _ _ _ _) (hG.I.2.1 96) rfl (oz3 fi_6019.1) (oz1343 c12 kn24) ?_
      intro a13 ea13 fa13
      have hJ13 := kG_a3 hG 96 rfl ea13 fa13 (kd_bd _)
      have s14 : ((i 6019) + 1).toInt = (i 6019).toInt + (1 : Int32).toInt := kd_add (oz12 fi_6019.1 kn1) (oz951 fi_6019.2 kn1)
      have hJ15 := kG_i hJ13 6019 rfl (v := ((i 6019) + 1)) ⟨(oz14 fi_6019.1 s14 kn1), (oz1334 hp3.2 s14 kn1)⟩
      have s16 : (x5 + 1).toInt = x5.toInt + (1 : Int32).toInt := kd_add (oz12 hp2.1 kn1) (oz1335 hp2.2 kn1)
      first | refine fo_goI mi_k13 fz13_48_15_72 [.int (x5 + 1), .int x4, .int 2, .int x1, .ref 94] (ku i 6019 ((i 6019) + 1)) (by rfl) ?_ | refine ft_go mi_k13 15 72 [(7, .int 11), (6, .int 0), (0, .ref 94), (1, .int x1), (2, .int 6), (3, .int 2), (4, .int x4), (5, .int x5)] [.int (x5 + 1), .int x4, .int 2, .int x1, .ref 94] (ku i 6019 ((i 6019) + 1)) a13 q r (by rfl) ?_
      have r17 : ((0 : Int) ≤ ((a13 95).getD x1.toNatClampNeg 0).toInt) ∧ (((a13 95).getD x1.toNatClampNeg 0).toInt ≤ 7) := hJ15.I.2.2.1 95 (x1.toNatClampNeg)
      have u18 : ((a13 95).getD x1.toNatClampNeg 0).toInt = ((a 95).getD x1.toNatClampNeg 0).toInt := congrArg (fun z : List Int32 => (z.getD x1.toNatClampNeg 0).toInt) (fa13 95 (by decide))
      refine ko_callI mi_k13.1 (pc := 72) (ls := [(7, .int 11), (6, .int 0), (0, .ref 94), (1, .int x1), (2, .int 6), (3, .int 2), (4, .int x4), (5, .int x5)]) (st := [.int (x5 + 1), .int x4, .int 2, .int x1, .ref 94]) (h := ks (ku i 6019 ((i 6019) + 1)) a13 q r) (i := (.invokevirtual 43, 3, 14, 0, 9, 0, 301)) (mi_k13.2 _ _ (by rfl)) (ft_invS mi_pq14 (by rfl)) (cy := mi_c14) mi_pq14 rfl (kc14_94_l12_K6 hJ15.I hJ15.R x1 x4 (x5 + 1) (oz1339 hp0.1 hp0.2) (oz1486 hp1 u18) (oz1340 hp2.1 hp2.2 s16 kn1) (oz1345 fi_6019.1 hp3.2 s14 kn1)) (by decide) ?_
      intro vg19 ig19 ag19 qg19 rg19 kg19 hg19
      have hGg19 := kG_call hJ15 kg19 (by decide +kernel)
      have efig19_6019 : (ig19 6019).toInt = ((i 6019) + 1).toInt := kg19.ti 6019 rfl
      exact ft_ret mi_k13 (by rfl) (hP vg19 _ _ _ _ hGg19 (oz1342 efig19_6019 s14 kn1))
  ·
    have c21 : (40 : Int32).toInt ≤ x5.toInt := kd_ltF c; clear c
    exact (oz1346 c21 hp2.2 kn40).elim
set_option maxRecDepth 100000 in
theorem kc11_l06_l13 {i : Nat → Int32} {a : Nat → List Int32} {q : Nat → List Int64} {r : Nat → Nat} (hI : kI i a q) (hr : kr r)  : km 1 11 [.int 6, .int 3] (ks i a q r) (kPI (ks i a q r) (fun v => v.toInt = 0)) := by
  have hG := kG_self kW0 hI hr
  refine km_ofPI (q := (mi_h11, mi_c11)) rfl (by decide) (Nat.le_of_ble_eq_true rfl) ?_
  intro P hP
  first | refine ft_goL mi_k11 16 26 [(3, .int 0), (2, .int 6), (0, .int 6), (1, .int 3)] [.int (6 * 4), .ref (mi_RO + 3)] (by rfl) ?_ | refine ft_go mi_k11 16 26 [(3, .int 0), (2, .int 6), (0, .int 6), (1, .int 3)] [.int (6 * 4), .ref (mi_RO + 3)] i a q r (by rfl) ?_
  refine ko_top (by decide : (6 * 4 : Int32) = 24) ?_
  first | refine fo_goS mi_k11 fz11_26_2_28 [.int (24 + 3), .ref (mi_RO + 3)] (by rfl) ?_ | refine ft_go mi_k11 2 28 [(3, .int 0), (2, .int 6), (0, .int 6), (1, .int 3)] [.int (24 + 3), .ref (mi_RO + 3)] i a q r (by rfl) ?_
  refine ko_top (by decide : (24 + 3 : Int32) = 27) ?_
  refine ft_ro mi_k11 (w := 0) (by decide +kernel) (by decide +kernel) ?_
  first | refine ft_goS mi_k11 3 38 [.int 6, .ref (mi_RO + 4)] (by rfl) ?_ | refine ft_go mi_k11 3 38 [(3, .int 0), (2, .int 6), (0, .int 6), (1, .int 3)] [.int 6, .ref (mi_RO + 4)] i a q r (by rfl) ?_
  refine ft_ro mi_k11 (w := 0) (by decide +kernel) (by decide +kernel) ?_
  first | refine fo_goL mi_k11 fz11_39_2_43 [(3, .int (0 + 1)), (2, .int 0), (0, .int 6), (1, .int 3)] [] (by rfl) ?_ | refine ft_go mi_k11 2 43 [(3, .int (0 + 1)), (2, .int 0), (0, .int 6), (1, .int 3)] [] i a q r (by rfl) ?_
  refine ko_loc (by decide : (0 + 1 : Int32) = 1) ?_
  first | refine ft_goL mi_k11 7 47 [(3, .int 1), (2, .int 0), (0, .int 6), (1, .int 3)] [.int 0] (by rfl) ?_ | refine ft_goS mi_k11 7 47 [.int 0] (by rfl) ?_ | refine ft_go mi_k11 7 47 [(3, .int 1), (2, .int 0), (0, .int 6), (1, .int 3)] [.int 0] i a q r (by rfl) ?_
  exact ft_ret mi_k11 (by rfl) (hP 0 (oz236 kn0))
def w14_94_l13_K6 : kW := ([6019], [96], [], [])
set_option maxRecDepth 100000 in
theorem kc14_94_l13_K6 {i : Nat → Int32} {a : Nat → List Int32} {q : Nat → List Int64} {r : Nat → Nat} (hI : kI i a q) (hr : kr r) (x1 : Int32) (x3 : Int32) (x4 : Int32) (hp0 : ((0 : Int) ≤ x1.toInt) ∧ (x1.toInt ≤ 49)) (hp1 : ((a 95).getD x1.toNatClampNeg 0).toInt = 6) (hp2 : ((0 : Int) ≤ x4.toInt) ∧ ((x4.toInt + 3) ≤ 39)) (hp3 : ((0 : Int) ≤ (i 6019).toInt) ∧ (((i 6019).toInt + 4) ≤ 900)) : km 11 14 [.ref 94, .int x1, .int 3, .int x3, .int x4] (ks i a q r) (kVI w14_94_l13_K6 i a q r (fun v i1 a1 q1 r1 => (i1 6019).toInt = ((i 6019).toInt + 4))) := by
  have hG := kG_self w14_94_l13_K6 hI hr
  refine km_ofI (q := (mi_h14, mi_c14)) rfl (by decide) (Nat.le_of_ble_eq_true rfl) ?_
  intro P hP
  have r1 : ((0 : Int) ≤ ((a 95).getD x1.toNatClampNeg 0).toInt) ∧ (((a 95).getD x1.toNatClampNeg 0).toInt ≤ 7) := hG.I.2.2.1 95 (x1.toNatClampNeg)
  have fi_6019 : ((0 : Int) ≤ (i 6019).toInt) ∧ ((i 6019).toInt ≤ 1000) := hG.I.1 6019
  first | refine fo_goL mi_k14 fz14_0_3_5 [(0, .ref 94), (1, .int x1), (2, .int 3), (3, .int x3), (4, .int x4)] [.int x1, .ref 95] (by rfl) ?_ | refine ft_go mi_k14 3 5 [(0, .ref 94), (1, .int x1), (2, .int 3), (3, .int x3), (4, .int x4)] [.int x1, .ref 95] i a q r (by rfl) ?_
  refine ko_iald3 mi_k14.1 (n := 50) (c := 50) (ax := (0, 0, 0, 0, 0)) (mi_k14.2 _ _ (by rfl)) (by rfl) (ksG95 _ _ _ _) (hG.I.2.1 95) rfl (oz3 hp0.1) (oz1336 hp0.2) ?_
  refine ko_top (kj_eq (oz1484 hp1) (by decide) : ((a 95).getD x1.toNatClampNeg 0) = 6) ?_
  first | refine ft_goL mi_k14 9 66 [(5, .int 6), (0, .ref 94), (1, .int x1), (2, .int 3), (3, .int x3), (4, .int x4)] [.int x4, .int x3, .int 1, .int 6, .int x1, .ref 94] (by rfl) ?_ | refine ft_go mi_k14 9 66 [(5, .int 6), (0, .ref 94), (1, .int x1), (2, .int 3), (3, .int x3), (4, .int x4)] [.int x4, .int x3, .int 1, .int 6, .int x1, .ref 94] i a q r (by rfl) ?_
  refine ko_callI mi_k14.1 (pc := 66) (ls := [(5, .int 6), (0, .ref 94), (1, .int x1), (2, .int 3), (3, .int x3), (4, .int x4)]) (st := [.int x4, .int x3, .int 1, .int 6, .int x1, .ref 94]) (h := ks i a q r) (i := (.invokevirtual 35, 3, 13, 0, 9, 0, 297)) (mi_k14.2 _ _ (by rfl)) (ft_invS mi_pq13 (by rfl)) (cy := mi_c13) mi_pq13 rfl (kc13_94_l16_l21_K6 hG.I hG.R x1 x3 x4 (oz1339 hp0.1 hp0.2) (oz1484 hp1) (oz1396 hp2.1 hp2.2) (oz1397 fi_6019.1 hp3.2)) (by decide) ?_
  intro vg2 ig2 ag2 qg2 rg2 kg2 hg2
  have hGg2 := kG_call hG kg2 (by decide +kernel)
  have fig2_6019 : ((0 : Int) ≤ (ig2 6019).toInt) ∧ ((ig2 6019).toInt ≤ 1000) := hGg2.I.1 6019
  have z3 : (ig2 6019).toInt = ((i 6019).toInt + 3) := hg2
  first | refine fo_goL mi_k14 fz14_69_8_81 [(6, .int vg2), (5, .int 6), (0, .ref 94), (1, .int x1), (2, .int 3), (3, .int x3), (4, .int x4)] [.int x4, .int 1, .int 2, .int 6, .int x1, .ref 94, .int vg2] (by rfl) ?_ | refine ft_go mi_k14 8 81 [(6, .int vg2), (5, .int 6), (0, .ref 94), (1, .int x1), (2, .int 3), (3, .int x3), (4, .int x4)] [.int x4, .int 1, .int 2, .int 6, .int x1, .ref 94, .int vg2] ig2 ag2 qg2 rg2 (by rfl) ?_
  have r4 : ((0 : Int) ≤ ((ag2 95).getD x1.toNatClampNeg 0).toInt) ∧ (((ag2 95).getD x1.toNatClampNeg 0).toInt ≤ 7) := hGg2.I.2.2.1 95 (x1.toNatClampNeg)
  have u5 : ((ag2 95).getD x1.toNatClampNeg 0).toInt = ((a 95).getD x1.toNatClampNeg 0).toInt := congrArg (fun z : List Int32 => (z.getD x1.toNatClampNeg 0).toInt) (kg2.fa 95 rfl)
  refine ko_callI mi_k14.1 (pc := 81) (ls := [(6, .int vg2), (5, .int 6), (0, .ref 94), (1, .int x1), (2, .int 3), (3, .int x3), (4, .int x4)]) (st := [.int x4, .int 1, .int 2, .int 6, .int x1, .ref 94, .int vg2]) (h := ks ig2 ag2 qg2 rg2) (i := (.invokevirtual 35, 3, 13, 0, 9, 0, 297)) (mi_k14.2 _ _ (by rfl)) (ft_invS mi_pq13 (by rfl)) (cy := mi_c13) mi_pq13 rfl (kc13_94_l16_l22_K6 hGg2.I hGg2.R x1 1 x4 (oz1339 hp0.1 hp0.2) (oz1486 hp1 u5) (oz1398 hp2.1 hp2.2) (oz1399 fig2_6019.1 hp3.2 z3)) (by decide) ?_
  intro vg6 ig6 ag6 qg6 rg6 kg6 hg6
  have hGg6 := kG_call hGg2 kg6 (by decide +kernel)
  have z7 : (ig6 6019).toInt = ((ig2 6019).toInt + 1) := hg6
  have b8 : ((-2147483648 : Int) ≤ vg2.toInt) ∧ (vg2.toInt ≤ 2147483647) := kd_bd vg2
  have b9 : ((-2147483648 : Int) ≤ vg6.toInt) ∧ (vg6.toInt ≤ 2147483647) := kd_bd vg6
  first | refine fo_goS mi_k14 fz14_84_1_85 [.int (vg2 - vg6)] (by rfl) ?_ | refine ft_go mi_k14 1 85 [(6, .int vg2), (5, .int 6), (0, .ref 94), (1, .int x1), (2, .int 3), (3, .int x3), (4, .int x4)] [.int (vg2 - vg6)] ig6 ag6 qg6 rg6 (by rfl) ?_
  exact ft_ret mi_k14 (by rfl) (hP (vg2 - vg6) _ _ _ _ hGg6 (oz1400 z3 z7))
def w13_94_l16_l23_K6 : kW := ([6019], [96], [], [])
set_option maxRecDepth 100000 in
theorem kc13_94_l16_l23_K6 {i : Nat → Int32} {a : Nat → List Int32} {q : Nat → List Int64} {r : Nat → Nat} (hI : kI i a q) (hr : kr r) (x1 : Int32) (x4 : Int32) (x5 : Int32) (hp0 : ((0 : Int) ≤ x1.toInt) ∧ (x1.toInt ≤ 49)) (hp1 : ((a 95).getD x1.toNatClampNeg 0).toInt = 6) (hp2 : ((0 : Int) ≤ x5.toInt) ∧ ((x5.toInt + 4) ≤ 39)) (hp3 : ((0 : Int) ≤ (i 6019).toInt) ∧ (((i 6019).toInt + 5) ≤ 900)) : km 13 13 [.ref 94, .int x1, .int 6, .int 3, .int x4, .int x5] (ks i a q r) (kVI w13_94_l16_l23_K6 i a q r (fun v i1 a1 q1 r1 => (i1 6019).toInt = ((i 6019).toInt + 5))) := by
  have hG := kG_self w13_94_l16_l23_K6 hI hr
  refine km_ofI (q := (mi_h13, mi_c13)) rfl (by decide) (Nat.le_of_ble_eq_true rfl) ?_
  intro P hP
  have r1 : ((0 : Int) ≤ ((a 95).getD x1.toNatClampNeg 0).toInt) ∧ (((a 95).getD x1.toNatClampNeg 0).toInt ≤ 7) := hG.I.2.2.1 95 (x1.toNatClampNeg)
  have fi_6019 : ((0 : Int) ≤ (i 6019).toInt) ∧ ((i 6019).toInt ≤ 1000) := hG.I.1 6019
  first | refine fo_goL mi_k13 fz13_0_2_4 [(0, .ref 94), (1, .int x1), (2, .int 6), (3, .int 3), (4, .int x4), (5, .int x5)] [.int 40, .int x5] (by rfl) ?_ | refine ft_go mi_k13 2 4 [(0, .ref 94), (1, .int x1), (2, .int 6), (3, .int 3), (4, .int x4), (5, .int x5)] [.int 40, .int x5] i a q r (by rfl) ?_
  refine ft_ifS mi_k13 (decide (x5 < 40)) 9 7 [] (by rfl) (fun c => ?_) (fun c => ?_)
  ·
    have c2 : x5.toInt < (40 : Int32).toInt := kd_lt c; clear c
    first | refine fo_goS mi_k13 fz13_9_2_11 [.int 3, .int 6] (by rfl) ?_ | refine ft_go mi_k13 2 11 [(0, .ref 94), (1, .int x1), (2, .int 6), (3, .int 3), (4, .int x4), (5, .int x5)] [.int 3, .int 6] i a q r (by rfl) ?_
    refine ko_callPI mi_k13.1 (pc := 11) (ls := [(0, .ref 94), (1, .int x1), (2, .int 6), (3, .int 3), (4, .int x4), (5, .int x5)]) (st := [.int 3, .int 6]) (h := ks i a q r) (i := (.invokestatic 39, 3, 11, 0, 9, 0, 298)) (mi_k13.2 _ _ (by rfl)) (ft_invS mi_pq11 (by rfl)) (cy := mi_c11) mi_pq11 rfl (kc11_l06_l13 hG.I hG.R ) (by decide) ?_
    intro vg3 hg3
    have z4 : vg3.toInt = 0 := hg3
    have evvg3 := kj_eq (oz236 z4) (by decide : (0 : Int32).toInt = 0)
    subst evvg3
    first | refine ft_goL mi_k13 5 23 [(6, .int 0), (0, .ref 94), (1, .int x1), (2, .int 6), (3, .int 3), (4, .int x4), (5, .int x5)] [.int (0 * 4), .ref (mi_RO + 3)] (by rfl) ?_ | refine ft_go mi_k13 5 23 [(6, .int 0), (0, .ref 94), (1, .int x1), (2, .int 6), (3, .int 3), (4, .int x4), (5, .int x5)] [.int (0 * 4), .ref (mi_RO + 3)] i a q r (by rfl) ?_
    refine ko_top (by decide : (0 * 4 : Int32) = 0) ?_
    first | refine fo_goS mi_k13 fz13_23_2_25 [.int (0 + 3), .ref (mi_RO + 3)] (by rfl) ?_ | refine ft_go mi_k13 2 25 [(6, .int 0), (0, .ref 94), (1, .int x1), (2, .int 6), (3, .int 3), (4, .int x4), (5, .int x5)] [.int (0 + 3), .ref (mi_RO + 3)] i a q r (by rfl) ?_
    refine ko_top (by decide : (0 + 3 : Int32) = 3) ?_
    refine ft_ro mi_k13 (w := 2) (by decide +kernel) (by decide +kernel) ?_
    first | refine fo_goL mi_k13 fz13_26_4_34 [(7, .int 2), (6, .int 0), (0, .ref 94), (1, .int x1), (2, .int 6), (3, .int 3), (4, .int x4), (5, .int x5)] [.int 24, .int (i 6019)] (by rfl) ?_ | refine ft_go mi_k13 4 34 [(7, .int 2), (6, .int 0), (0, .ref 94), (1, .int x1), (2, .int 6), (3, .int 3), (4, .int x4), (5, .int x5)] [.int 24, .int (i 6019)] i a q r (by rfl) ?_
    refine ft_ifS mi_k13 (decide (24 ≤ (i 6019))) 48 37 [] (by rfl) (fun c => ?_) (fun c => ?_)
    ·
      have c6 : (24 : Int32).toInt ≤ (i 6019).toInt := kd_le c; clear c
      have s7 : ((i 6019) + 1).toInt = (i 6019).toInt + (1 : Int32).toInt := kd_add (oz1332 c6 kn24 kn1) (oz951 fi_6019.2 kn1)
      have hJ8 := kG_i hG 6019 rfl (v := ((i 6019) + 1)) ⟨(oz1333 c6 s7 kn24 kn1), (oz1394 hp3.2 s7 kn1)⟩
      have s9 : (x5 + 1).toInt = x5.toInt + (1 : Int32).toInt := kd_add (oz12 hp2.1 kn1) (oz1395 hp2.2 kn1)
      first | refine fo_goI mi_k13 fz13_48_15_72 [.int (x5 + 1), .int x4, .int 3, .int x1, .ref 94] (ku i 6019 ((i 6019) + 1)) (by rfl) ?_ | refine ft_go mi_k13 15 72 [(7, .int 2), (6, .int 0), (0, .ref 94), (1, .int x1), (2, .int 6), (3, .int 3), (4, .int x4), (5, .int x5)] [.int (x5 + 1), .int x4, .int 3, .int x1, .ref 94] (ku i 6019 ((i 6019) + 1)) a q r (by rfl) ?_
      refine ko_callI mi_k13.1 (pc := 72) (ls := [(7, .int 2), (6, .int 0), (0, .ref 94), (1, .int x1), (2, .int 6), (3, .int 3), (4, .int x4), (5, .int x5)]) (st := [.int (x5 + 1), .int x4, .int 3, .int x1, .ref 94]) (h := ks (ku i 6019 ((i 6019) + 1)) a q r) (i := (.invokevirtual 43, 3, 14, 0, 9, 0, 301)) (mi_k13.2 _ _ (by rfl)) (ft_invS mi_pq14 (by rfl)) (cy := mi_c14) mi_pq14 rfl (kc14_94_l13_K6 hJ8.I hJ8.R x1 x4 (x5 + 1) (oz1339 hp0.1 hp0.2) (oz1484 hp1) (oz1401 hp2.1 hp2.2 s9 kn1) (oz1402 c6 hp3.2 s7 kn24 kn1)) (by decide) ?_
      intro vg10 ig10 ag10 qg10 rg10 kg10 hg10
      have hGg10 := kG_call hJ8 kg10 (by decide +kernel)
      have z11 : (ig10 6019).toInt = (((i 6019) + 1).toInt + 4) := hg10
      exact ft_ret mi_k13 (by rfl) (hP vg10 _ _ _ _ hGg10 (oz1403 s7 z11 kn1))
    ·
      have c12 : (i 6019).toInt < (24 : Int32).toInt := kd_leF c; clear c
      first | refine fo_goS mi_k13 fz13_37_5_47 [.int 2, .int (i 6019), .ref 96] (by rfl) ?_ | refine ft_go mi_k13 5 47 [(7, .int 2), (6, .int 0), (0, .ref 94), (1, .int x1), (2, .int 6), (3, .int 3), (4, .int x4), (5, .int x5)] [.int 2, .int (i 6019), .ref 96] i a q r (by rfl) ?_
      refine ko_iast3 mi_k13.1 (n := 24) (c := 24) (ax := (0, 0, 0, 0, 0)) (mi_k13.2 _ _ (by rfl)) (by rfl) (ksG96 _ _ _ _) (ksA96 _ _ _ _) (hG.I.2.1 96) rfl (oz3 fi_6019.1) (oz1343 c12 kn24) ?_
      intro a13 ea13 fa13
      have hJ13 := kG_a3 hG 96 rfl ea13 fa13 (kd_bd _)
      have s14 : ((i 6019) + 1).toInt = (i 6019).toInt + (1 : Int32).toInt := kd_add (oz12 fi_6019.1 kn1) (oz951 fi_6019.2 kn1)
      have hJ15 := kG_i hJ13 6019 rfl (v := ((i 6019) + 1)) ⟨(oz14 fi_6019.1 s14 kn1), (oz1394 hp3.2 s14 kn1)⟩
      have s16 : (x5 + 1).toInt = x5.toInt + (1 : Int32).toInt := kd_add (oz12 hp2.1 kn1) (oz1395 hp2.2 kn1)
      first | refine fo_goI mi_k13 fz13_48_15_72 [.int (x5 + 1), .int x4, .int 3, .int x1, .ref 94] (ku i 6019 ((i 6019) + 1)) (by rfl) ?_ | refine ft_go mi_k13 15 72 [(7, .int 2), (6, .int 0), (0, .ref 94), (1, .int x1), (2, .int 6), (3, .int 3), (4, .int x4), (5, .int x5)] [.int (x5 + 1), .int x4, .int 3, .int x1, .ref 94] (ku i 6019 ((i 6019) + 1)) a13 q r (by rfl) ?_
      have r17 : ((0 : Int) ≤ ((a13 95).getD x1.toNatClampNeg 0).toInt) ∧ (((a13 95).getD x1.toNatClampNeg 0).toInt ≤ 7) := hJ15.I.2.2.1 95 (x1.toNatClampNeg)
      have u18 : ((a13 95).getD x1.toNatClampNeg 0).toInt = ((a 95).getD x1.toNatClampNeg 0).toInt := congrArg (fun z : List Int32 => (z.getD x1.toNatClampNeg 0).toInt) (fa13 95 (by decide))
      refine ko_callI mi_k13.1 (pc := 72) (ls := [(7, .int 2), (6, .int 0), (0, .ref 94), (1, .int x1), (2, .int 6), (3, .int 3), (4, .int x4), (5, .int x5)]) (st := [.int (x5 + 1), .int x4, .int 3, .int x1, .ref 94]) (h := ks (ku i 6019 ((i 6019) + 1)) a13 q r) (i := (.invokevirtual 43, 3, 14, 0, 9, 0, 301)) (mi_k13.2 _ _ (by rfl)) (ft_invS mi_pq14 (by rfl)) (cy := mi_c14) mi_pq14 rfl (kc14_94_l13_K6 hJ15.I hJ15.R x1 x4 (x5 + 1) (oz1339 hp0.1 hp0.2) (oz1486 hp1 u18) (oz1401 hp2.1 hp2.2 s16 kn1) (oz1404 fi_6019.1 hp3.2 s14 kn1)) (by decide) ?_
      intro vg19 ig19 ag19 qg19 rg19 kg19 hg19
      have hGg19 := kG_call hJ15 kg19 (by decide +kernel)
      have z20 : (ig19 6019).toInt = (((i 6019) + 1).toInt + 4) := hg19
      exact ft_ret mi_k13 (by rfl) (hP vg19 _ _ _ _ hGg19 (oz1403 s14 z20 kn1))
  ·
    have c21 : (40 : Int32).toInt ≤ x5.toInt := kd_ltF c; clear c
    exact (oz1405 c21 hp2.2 kn40).elim
set_option maxRecDepth 100000 in
theorem kc11_l07_l10 {i : Nat → Int32} {a : Nat → List Int32} {q : Nat → List Int64} {r : Nat → Nat} (hI : kI i a q) (hr : kr r)  : km 1 11 [.int 7, .int 0] (ks i a q r) (kPI (ks i a q r) (fun v => v.toInt = 1)) := by
  have hG := kG_self kW0 hI hr
  refine km_ofPI (q := (mi_h11, mi_c11)) rfl (by decide) (Nat.le_of_ble_eq_true rfl) ?_
  intro P hP
  first | refine ft_goL mi_k11 16 26 [(3, .int 0), (2, .int 7), (0, .int 7), (1, .int 0)] [.int (7 * 4), .ref (mi_RO + 3)] (by rfl) ?_ | refine ft_go mi_k11 16 26 [(3, .int 0), (2, .int 7), (0, .int 7), (1, .int 0)] [.int (7 * 4), .ref (mi_RO + 3)] i a q r (by rfl) ?_
  refine ko_top (by decide : (7 * 4 : Int32) = 28) ?_
  first | refine fo_goS mi_k11 fz11_26_2_28 [.int (28 + 0), .ref (mi_RO + 3)] (by rfl) ?_ | refine ft_go mi_k11 2 28 [(3, .int 0), (2, .int 7), (0, .int 7), (1, .int 0)] [.int (28 + 0), .ref (mi_RO + 3)] i a q r (by rfl) ?_
  refine ko_top (by decide : (28 + 0 : Int32) = 28) ?_
  refine ft_ro mi_k11 (w := 0) (by decide +kernel) (by decide +kernel) ?_
  first | refine ft_goS mi_k11 3 38 [.int 7, .ref (mi_RO + 4)] (by rfl) ?_ | refine ft_go mi_k11 3 38 [(3, .int 0), (2, .int 7), (0, .int 7), (1, .int 0)] [.int 7, .ref (mi_RO + 4)] i a q r (by rfl) ?_
  refine ft_ro mi_k11 (w := 4) (by decide +kernel) (by decide +kernel) ?_
  first | refine fo_goL mi_k11 fz11_39_2_43 [(3, .int (0 + 1)), (2, .int 4), (0, .int 7), (1, .int 0)] [] (by rfl) ?_ | refine ft_go mi_k11 2 43 [(3, .int (0 + 1)), (2, .int 4), (0, .int 7), (1, .int 0)] [] i a q r (by rfl) ?_
  refine ko_loc (by decide : (0 + 1 : Int32) = 1) ?_
  first | refine ft_goL mi_k11 13 26 [(3, .int 1), (2, .int 4), (0, .int 7), (1, .int 0)] [.int (4 * 4), .ref (mi_RO + 3)] (by rfl) ?_ | refine ft_goS mi_k11 13 26 [.int (4 * 4), .ref (mi_RO + 3)] (by rfl) ?_ | refine ft_go mi_k11 13 26 [(3, .int 1), (2, .int 4), (0, .int 7), (1, .int 0)] [.int (4 * 4), .ref (mi_RO + 3)] i a q r (by rfl) ?_
  refine ko_top (by decide : (4 * 4 : Int32) = 16) ?_
  first | refine fo_goS mi_k11 fz11_26_2_28 [.int (16 + 0), .ref (mi_RO + 3)] (by rfl) ?_ | refine ft_go mi_k11 2 28 [(3, .int 1), (2, .int 4), (0, .int 7), (1, .int 0)] [.int (16 + 0), .ref (mi_RO + 3)] i a q r (by rfl) ?_
  refine ko_top (by decide : (16 + 0 : Int32) = 16) ?_
  refine ft_ro mi_k11 (w := 0) (by decide +kernel) (by decide +kernel) ?_
  first | refine ft_goS mi_k11 3 38 [.int 4, .ref (mi_RO + 4)] (by rfl) ?_ | refine ft_go mi_k11 3 38 [(3, .int 1), (2, .int 4), (0, .int 7), (1, .int 0)] [.int 4, .ref (mi_RO + 4)] i a q r (by rfl) ?_
  refine ft_ro mi_k11 (w := 1) (by decide +kernel) (by decide +kernel) ?_
  first | refine fo_goL mi_k11 fz11_39_2_43 [(3, .int (1 + 1)), (2, .int 1), (0, .int 7), (1, .int 0)] [] (by rfl) ?_ | refine ft_go mi_k11 2 43 [(3, .int (1 + 1)), (2, .int 1), (0, .int 7), (1, .int 0)] [] i a q r (by rfl) ?_
  refine ko_loc (by decide : (1 + 1 : Int32) = 2) ?_
  first | refine ft_goL mi_k11 13 26 [(3, .int 2), (2, .int 1), (0, .int 7), (1, .int 0)] [.int (1 * 4), .ref (mi_RO + 3)] (by rfl) ?_ | refine ft_goS mi_k11 13 26 [.int (1 * 4), .ref (mi_RO + 3)] (by rfl) ?_ | refine ft_go mi_k11 13 26 [(3, .int 2), (2, .int 1), (0, .int 7), (1, .int 0)] [.int (1 * 4), .ref (mi_RO + 3)] i a q r (by rfl) ?_
  refine ko_top (by decide : (1 * 4 : Int32) = 4) ?_
  first | refine fo_goS mi_k11 fz11_26_2_28 [.int (4 + 0), .ref (mi_RO + 3)] (by rfl) ?_ | refine ft_go mi_k11 2 28 [(3, .int 2), (2, .int 1), (0, .int 7), (1, .int 0)] [.int (4 + 0), .ref (mi_RO + 3)] i a q r (by rfl) ?_
  refine ko_top (by decide : (4 + 0 : Int32) = 4) ?_
  refine ft_ro mi_k11 (w := 20) (by decide +kernel) (by decide +kernel) ?_
  first | refine fo_goS mi_k11 fz11_29_2_33 [.int 1] (by rfl) ?_ | refine ft_go mi_k11 2 33 [(3, .int 2), (2, .int 1), (0, .int 7), (1, .int 0)] [.int 1] i a q r (by rfl) ?_
  exact ft_ret mi_k11 (by rfl) (hP 1 (oz1381 kn1))
def w14_94_l10_K7 : kW := ([], [], [], [])
set_option maxRecDepth 100000 in
theorem kc14_94_l10_K7 {i : Nat → Int32} {a : Nat → List Int32} {q : Nat → List Int64} {r : Nat → Nat} (hI : kI i a q) (hr : kr r) (x1 : Int32) (x3 : Int32) (x4 : Int32) (hp0 : ((0 : Int) ≤ x1.toInt) ∧ (x1.toInt ≤ 49)) (hp1 : ((a 95).getD x1.toNatClampNeg 0).toInt = 7) (hp2 : ((0 : Int) ≤ x4.toInt) ∧ ((x4.toInt + 0) ≤ 39)) (hp3 : ((0 : Int) ≤ (i 6019).toInt) ∧ (((i 6019).toInt + 0) ≤ 900)) : km 1 14 [.ref 94, .int x1, .int 0, .int x3, .int x4] (ks i a q r) (kVI w14_94_l10_K7 i a q r (fun v i1 a1 q1 r1 => (i1 6019).toInt = ((i 6019).toInt + 0))) := by
  have hG := kG_self w14_94_l10_K7 hI hr
  refine km_ofI (q := (mi_h14, mi_c14)) rfl (by decide) (Nat.le_of_ble_eq_true rfl) ?_
  intro P hP
  have r1 : ((0 : Int) ≤ ((a 95).getD x1.toNatClampNeg 0).toInt) ∧ (((a 95).getD x1.toNatClampNeg 0).toInt ≤ 7) := hG.I.2.2.1 95 (x1.toNatClampNeg)
  first | refine fo_goL mi_k14 fz14_0_3_5 [(0, .ref 94), (1, .int x1), (2, .int 0), (3, .int x3), (4, .int x4)] [.int x1, .ref 95] (by rfl) ?_ | refine ft_go mi_k14 3 5 [(0, .ref 94), (1, .int x1), (2, .int 0), (3, .int x3), (4, .int x4)] [.int x1, .ref 95] i a q r (by rfl) ?_
  refine ko_iald3 mi_k14.1 (n := 50) (c := 50) (ax := (0, 0, 0, 0, 0)) (mi_k14.2 _ _ (by rfl)) (by rfl) (ksG95 _ _ _ _) (hG.I.2.1 95) rfl (oz3 hp0.1) (oz1336 hp0.2) ?_
  refine ko_top (kj_eq (oz1495 hp1 r1.2) (by decide) : ((a 95).getD x1.toNatClampNeg 0) = 7) ?_
  have b2 : ((-2147483648 : Int) ≤ x3.toInt) ∧ (x3.toInt ≤ 2147483647) := kd_bd x3
  have b3 : ((-2147483648 : Int) ≤ x1.toInt) ∧ (x1.toInt ≤ 2147483647) := kd_bd x1
  first | refine ft_goL mi_k14 6 39 [(5, .int 7), (0, .ref 94), (1, .int x1), (2, .int 0), (3, .int x3), (4, .int x4)] [.int (x3 + x1)] (by rfl) ?_ | refine ft_go mi_k14 6 39 [(5, .int 7), (0, .ref 94), (1, .int x1), (2, .int 0), (3, .int x3), (4, .int x4)] [.int (x3 + x1)] i a q r (by rfl) ?_
  exact ft_ret mi_k14 (by rfl) (hP (x3 + x1) _ _ _ _ hG oz1338)
def w13_94_l10_l20_K7 : kW := ([6019], [96], [], [])
set_option maxRecDepth 100000 in
theorem kc13_94_l10_l20_K7 {i : Nat → Int32} {a : Nat → List Int32} {q : Nat → List Int64} {r : Nat → Nat} (hI : kI i a q) (hr : kr r) (x1 : Int32) (x4 : Int32) (x5 : Int32) (hp0 : ((0 : Int) ≤ x1.toInt) ∧ (x1.toInt ≤ 49)) (hp1 : ((a 95).getD x1.toNatClampNeg 0).toInt = 7) (hp2 : ((0 : Int) ≤ x5.toInt) ∧ ((x5.toInt + 1) ≤ 39)) (hp3 : ((0 : Int) ≤ (i 6019).toInt) ∧ (((i 6019).toInt + 1) ≤ 900)) : km 3 13 [.ref 94, .int x1, .int 0, .int 0, .int x4, .int x5] (ks i a q r) (kVI w13_94_l10_l20_K7 i a q r (fun v i1 a1 q1 r1 => (i1 6019).toInt = ((i 6019).toInt + 1))) := by
  have hG := kG_self w13_94_l10_l20_K7 hI hr
  refine km_ofI (q := (mi_h13, mi_c13)) rfl (by decide) (Nat.le_of_ble_eq_true rfl) ?_
  intro P hP
  have r1 : ((0 : Int) ≤ ((a 95).getD x1.toNatClampNeg 0).toInt) ∧ (((a 95).getD x1.toNatClampNeg 0).toInt ≤ 7) := hG.I.2.2.1 95 (x1.toNatClampNeg)
  have fi_6019 : ((0 : Int) ≤ (i 6019).toInt) ∧ ((i 6019).toInt ≤ 1000) := hG.I.1 6019
  first | refine fo_goL mi_k13 fz13_0_2_4 [(0, .ref 94), (1, .int x1), (2, .int 0), (3, .int 0), (4, .int x4), (5, .int x5)] [.int 40, .int x5] (by rfl) ?_ | refine ft_go mi_k13 2 4 [(0, .ref 94), (1, .int x1), (2, .int 0), (3, .int 0), (4, .int x4), (5, .int x5)] [.int 40, .int x5] i a q r (by rfl) ?_
  refine ft_ifS mi_k13 (decide (x5 < 40)) 9 7 [] (by rfl) (fun c => ?_) (fun c => ?_)
  ·
    have c2 : x5.toInt < (40 : Int32).toInt := kd_lt c; clear c
    first | refine fo_goS mi_k13 fz13_9_2_11 [.int 0, .int 0] (by rfl) ?_ | refine ft_go mi_k13 2 11 [(0, .ref 94), (1, .int x1), (2, .int 0), (3, .int 0), (4, .int x4), (5, .int x5)] [.int 0, .int 0] i a q r (by rfl) ?_
    refine ko_callPI mi_k13.1 (pc := 11) (ls := [(0, .ref 94), (1, .int x1), (2, .int 0), (3, .int 0), (4, .int x4), (5, .int x5)]) (st := [.int 0, .int 0]) (h := ks i a q r) (i := (.invokestatic 39, 3, 11, 0, 9, 0, 298)) (mi_k13.2 _ _ (by rfl)) (ft_invS mi_pq11 (by rfl)) (cy := mi_c11) mi_pq11 rfl (kc11_l00_l10 hG.I hG.R ) (by decide) ?_
    intro vg3 hg3
    have z4 : vg3.toInt = 0 := hg3
    have evvg3 := kj_eq (oz236 z4) (by decide : (0 : Int32).toInt = 0)
    subst evvg3
    first | refine ft_goL mi_k13 5 23 [(6, .int 0), (0, .ref 94), (1, .int x1), (2, .int 0), (3, .int 0), (4, .int x4), (5, .int x5)] [.int (0 * 4), .ref (mi_RO + 3)] (by rfl) ?_ | refine ft_go mi_k13 5 23 [(6, .int 0), (0, .ref 94), (1, .int x1), (2, .int 0), (3, .int 0), (4, .int x4), (5, .int x5)] [.int (0 * 4), .ref (mi_RO + 3)] i a q r (by rfl) ?_
    refine ko_top (by decide : (0 * 4 : Int32) = 0) ?_
    first | refine fo_goS mi_k13 fz13_23_2_25 [.int (0 + 0), .ref (mi_RO + 3)] (by rfl) ?_ | refine ft_go mi_k13 2 25 [(6, .int 0), (0, .ref 94), (1, .int x1), (2, .int 0), (3, .int 0), (4, .int x4), (5, .int x5)] [.int (0 + 0), .ref (mi_RO + 3)] i a q r (by rfl) ?_
    refine ko_top (by decide : (0 + 0 : Int32) = 0) ?_
    refine ft_ro mi_k13 (w := 1) (by decide +kernel) (by decide +kernel) ?_
    first | refine fo_goL mi_k13 fz13_26_4_34 [(7, .int 1), (6, .int 0), (0, .ref 94), (1, .int x1), (2, .int 0), (3, .int 0), (4, .int x4), (5, .int x5)] [.int 24, .int (i 6019)] (by rfl) ?_ | refine ft_go mi_k13 4 34 [(7, .int 1), (6, .int 0), (0, .ref 94), (1, .int x1), (2, .int 0), (3, .int 0), (4, .int x4), (5, .int x5)] [.int 24, .int (i 6019)] i a q r (by rfl) ?_
    refine ft_ifS mi_k13 (decide (24 ≤ (i 6019))) 48 37 [] (by rfl) (fun c => ?_) (fun c => ?_)
    ·
      have c6 : (24 : Int32).toInt ≤ (i 6019).toInt := kd_le c; clear c
      have s7 : ((i 6019) + 1).toInt = (i 6019).toInt + (1 : Int32).toInt := kd_add (oz1332 c6 kn24 kn1) (oz951 fi_6019.2 kn1)
      have hJ8 := kG_i hG 6019 rfl (v := ((i 6019) + 1)) ⟨(oz1333 c6 s7 kn24 kn1), (oz1334 hp3.2 s7 kn1)⟩
      have s9 : (x5 + 1).toInt = x5.toInt + (1 : Int32).toInt := kd_add (oz12 hp2.1 kn1) (oz1335 hp2.2 kn1)
      first | refine fo_goI mi_k13 fz13_48_15_72 [.int (x5 + 1), .int x4, .int 0, .int x1, .ref 94] (ku i 6019 ((i 6019) + 1)) (by rfl) ?_ | refine ft_go mi_k13 15 72 [(7, .int 1), (6, .int 0), (0, .ref 94), (1, .int x1), (2, .int 0), (3, .int 0), (4, .int x4), (5, .int x5)] [.int (x5 + 1), .int x4, .int 0, .int x1, .ref 94] (ku i 6019 ((i 6019) + 1)) a q r (by rfl) ?_
      refine ko_callI mi_k13.1 (pc := 72) (ls := [(7, .int 1), (6, .int 0), (0, .ref 94), (1, .int x1), (2, .int 0), (3, .int 0), (4, .int x4), (5, .int x5)]) (st := [.int (x5 + 1), .int x4, .int 0, .int x1, .ref 94]) (h := ks (ku i 6019 ((i 6019) + 1)) a q r) (i := (.invokevirtual 43, 3, 14, 0, 9, 0, 301)) (mi_k13.2 _ _ (by rfl)) (ft_invS mi_pq14 (by rfl)) (cy := mi_c14) mi_pq14 rfl (kc14_94_l10_K7 hJ8.I hJ8.R x1 x4 (x5 + 1) (oz1339 hp0.1 hp0.2) (oz1495 hp1 r1.2) (oz1340 hp2.1 hp2.2 s9 kn1) (oz1341 c6 hp3.2 s7 kn24 kn1)) (by decide) ?_
      intro vg10 ig10 ag10 qg10 rg10 kg10 hg10
      have hGg10 := kG_call hJ8 kg10 (by decide +kernel)
      have efig10_6019 : (ig10 6019).toInt = ((i 6019) + 1).toInt := kg10.ti 6019 rfl
      exact ft_ret mi_k13 (by rfl) (hP vg10 _ _ _ _ hGg10 (oz1342 efig10_6019 s7 kn1))
    ·
      have c12 : (i 6019).toInt < (24 : Int32).toInt := kd_leF c; clear c
      first | refine fo_goS mi_k13 fz13_37_5_47 [.int 1, .int (i 6019), .ref 96] (by rfl) ?_ | refine ft_go mi_k13 5 47 [(7, .int 1), (6, .int 0), (0, .ref 94), (1, .int x1), (2, .int 0), (3, .int 0), (4, .int x4), (5, .int x5)] [.int 1, .int (i 6019), .ref 96] i a q r (by rfl) ?_
      refine ko_iast3 mi_k13.1 (n := 24) (c := 24) (ax := (0, 0, 0, 0, 0)) (mi_k13.2 _ _ (by rfl)) (by rfl) (ksG96 _ _ _ _) (ksA96 _ _ _ _) (hG.I.2.1 96) rfl (oz3 fi_6019.1) (oz1343 c12 kn24) ?_
      intro a13 ea13 fa13
      have hJ13 := kG_a3 hG 96 rfl ea13 fa13 (kd_bd _)
      have s14 : ((i 6019) + 1).toInt = (i 6019).toInt + (1 : Int32).toInt := kd_add (oz12 fi_6019.1 kn1) (oz951 fi_6019.2 kn1)
      have hJ15 := kG_i hJ13 6019 rfl (v := ((i 6019) + 1)) ⟨(oz14 fi_6019.1 s14 kn1), (oz1334 hp3.2 s14 kn1)⟩
      have s16 : (x5 + 1).toInt = x5.toInt + (1 : Int32).toInt := kd_add (oz12 hp2.1 kn1) (oz1335 hp2.2 kn1)
      first | refine fo_goI mi_k13 fz13_48_15_72 [.int (x5 + 1), .int x4, .int 0, .int x1, .ref 94] (ku i 6019 ((i 6019) + 1)) (by rfl) ?_ | refine ft_go mi_k13 15 72 [(7, .int 1), (6, .int 0), (0, .ref 94), (1, .int x1), (2, .int 0), (3, .int 0), (4, .int x4), (5, .int x5)] [.int (x5 + 1), .int x4, .int 0, .int x1, .ref 94] (ku i 6019 ((i 6019) + 1)) a13 q r (by rfl) ?_
      have r17 : ((0 : Int) ≤ ((a13 95).getD x1.toNatClampNeg 0).toInt) ∧ (((a13 95).getD x1.toNatClampNeg 0).toInt ≤ 7) := hJ15.I.2.2.1 95 (x1.toNatClampNeg)
      have u18 : ((a13 95).getD x1.toNatClampNeg 0).toInt = ((a 95).getD x1.toNatClampNeg 0).toInt := congrArg (fun z : List Int32 => (z.getD x1.toNatClampNeg 0).toInt) (fa13 95 (by decide))
      refine ko_callI mi_k13.1 (pc := 72) (ls := [(7, .int 1), (6, .int 0), (0, .ref 94), (1, .int x1), (2, .int 0), (3, .int 0), (4, .int x4), (5, .int x5)]) (st := [.int (x5 + 1), .int x4, .int 0, .int x1, .ref 94]) (h := ks (ku i 6019 ((i 6019) + 1)) a13 q r) (i := (.invokevirtual 43, 3, 14, 0, 9, 0, 301)) (mi_k13.2 _ _ (by rfl)) (ft_invS mi_pq14 (by rfl)) (cy := mi_c14) mi_pq14 rfl (kc14_94_l10_K7 hJ15.I hJ15.R x1 x4 (x5 + 1) (oz1339 hp0.1 hp0.2) (oz1496 hp1 r17.2 u18) (oz1340 hp2.1 hp2.2 s16 kn1) (oz1345 fi_6019.1 hp3.2 s14 kn1)) (by decide) ?_
      intro vg19 ig19 ag19 qg19 rg19 kg19 hg19
      have hGg19 := kG_call hJ15 kg19 (by decide +kernel)
      have efig19_6019 : (ig19 6019).toInt = ((i 6019) + 1).toInt := kg19.ti 6019 rfl
      exact ft_ret mi_k13 (by rfl) (hP vg19 _ _ _ _ hGg19 (oz1342 efig19_6019 s14 kn1))
  ·
    have c21 : (40 : Int32).toInt ≤ x5.toInt := kd_ltF c; clear c
    exact (oz1346 c21 hp2.2 kn40).elim
def w13_94_l17_l20_K7 : kW := ([6019], [96], [], [])
set_option maxRecDepth 100000 in
theorem kc13_94_l17_l20_K7 {i : Nat → Int32} {a : Nat → List Int32} {q : Nat → List Int64} {r : Nat → Nat} (hI : kI i a q) (hr : kr r) (x1 : Int32) (x4 : Int32) (x5 : Int32) (hp0 : ((0 : Int) ≤ x1.toInt) ∧ (x1.toInt ≤ 49)) (hp1 : ((a 95).getD x1.toNatClampNeg 0).toInt = 7) (hp2 : ((0 : Int) ≤ x5.toInt) ∧ ((x5.toInt + 2) ≤ 39)) (hp3 : ((0 : Int) ≤ (i 6019).toInt) ∧ (((i 6019).toInt + 2) ≤ 900)) : km 5 13 [.ref 94, .int x1, .int 7, .int 0, .int x4, .int x5] (ks i a q r) (kVI w13_94_l17_l20_K7 i a q r (fun v i1 a1 q1 r1 => (i1 6019).toInt = ((i 6019).toInt + 2))) := by
  have hG := kG_self w13_94_l17_l20_K7 hI hr
  refine km_ofI (q := (mi_h13, mi_c13)) rfl (by decide) (Nat.le_of_ble_eq_true rfl) ?_
  intro P hP
  have r1 : ((0 : Int) ≤ ((a 95).getD x1.toNatClampNeg 0).toInt) ∧ (((a 95).getD x1.toNatClampNeg 0).toInt ≤ 7) := hG.I.2.2.1 95 (x1.toNatClampNeg)
  have fi_6019 : ((0 : Int) ≤ (i 6019).toInt) ∧ ((i 6019).toInt ≤ 1000) := hG.I.1 6019
  first | refine fo_goL mi_k13 fz13_0_2_4 [(0, .ref 94), (1, .int x1), (2, .int 7), (3, .int 0), (4, .int x4), (5, .int x5)] [.int 40, .int x5] (by rfl) ?_ | refine ft_go mi_k13 2 4 [(0, .ref 94), (1, .int x1), (2, .int 7), (3, .int 0), (4, .int x4), (5, .int x5)] [.int 40, .int x5] i a q r (by rfl) ?_
  refine ft_ifS mi_k13 (decide (x5 < 40)) 9 7 [] (by rfl) (fun c => ?_) (fun c => ?_)
  ·
    have c2 : x5.toInt < (40 : Int32).toInt := kd_lt c; clear c
    first | refine fo_goS mi_k13 fz13_9_2_11 [.int 0, .int 7] (by rfl) ?_ | refine ft_go mi_k13 2 11 [(0, .ref 94), (1, .int x1), (2, .int 7), (3, .int 0), (4, .int x4), (5, .int x5)] [.int 0, .int 7] i a q r (by rfl) ?_
    refine ko_callPI mi_k13.1 (pc := 11) (ls := [(0, .ref 94), (1, .int x1), (2, .int 7), (3, .int 0), (4, .int x4), (5, .int x5)]) (st := [.int 0, .int 7]) (h := ks i a q r) (i := (.invokestatic 39, 3, 11, 0, 9, 0, 298)) (mi_k13.2 _ _ (by rfl)) (ft_invS mi_pq11 (by rfl)) (cy := mi_c11) mi_pq11 rfl (kc11_l07_l10 hG.I hG.R ) (by decide) ?_
    intro vg3 hg3
    have z4 : vg3.toInt = 1 := hg3
    have evvg3 := kj_eq (oz1381 z4) (by decide : (1 : Int32).toInt = 1)
    subst evvg3
    first | refine ft_goL mi_k13 5 23 [(6, .int 1), (0, .ref 94), (1, .int x1), (2, .int 7), (3, .int 0), (4, .int x4), (5, .int x5)] [.int (1 * 4), .ref (mi_RO + 3)] (by rfl) ?_ | refine ft_go mi_k13 5 23 [(6, .int 1), (0, .ref 94), (1, .int x1), (2, .int 7), (3, .int 0), (4, .int x4), (5, .int x5)] [.int (1 * 4), .ref (mi_RO + 3)] i a q r (by rfl) ?_
    refine ko_top (by decide : (1 * 4 : Int32) = 4) ?_
    first | refine fo_goS mi_k13 fz13_23_2_25 [.int (4 + 0), .ref (mi_RO + 3)] (by rfl) ?_ | refine ft_go mi_k13 2 25 [(6, .int 1), (0, .ref 94), (1, .int x1), (2, .int 7), (3, .int 0), (4, .int x4), (5, .int x5)] [.int (4 + 0), .ref (mi_RO + 3)] i a q r (by rfl) ?_
    refine ko_top (by decide : (4 + 0 : Int32) = 4) ?_
    refine ft_ro mi_k13 (w := 20) (by decide +kernel) (by decide +kernel) ?_
    first | refine fo_goL mi_k13 fz13_26_4_34 [(7, .int 20), (6, .int 1), (0, .ref 94), (1, .int x1), (2, .int 7), (3, .int 0), (4, .int x4), (5, .int x5)] [.int 24, .int (i 6019)] (by rfl) ?_ | refine ft_go mi_k13 4 34 [(7, .int 20), (6, .int 1), (0, .ref 94), (1, .int x1), (2, .int 7), (3, .int 0), (4, .int x4), (5, .int x5)] [.int 24, .int (i 6019)] i a q r (by rfl) ?_
    refine ft_ifS mi_k13 (decide (24 ≤ (i 6019))) 48 37 [] (by rfl) (fun c => ?_) (fun c => ?_)
    ·
      have c6 : (24 : Int32).toInt ≤ (i 6019).toInt := kd_le c; clear c
      have s7 : ((i 6019) + 1).toInt = (i 6019).toInt + (1 : Int32).toInt := kd_add (oz1332 c6 kn24 kn1) (oz951 fi_6019.2 kn1)
      have hJ8 := kG_i hG 6019 rfl (v := ((i 6019) + 1)) ⟨(oz1333 c6 s7 kn24 kn1), (oz1351 hp3.2 s7 kn1)⟩
      first | refine ft_goI mi_k13 12 83 [.int 1, .ref (mi_RO + 4), .int x1, .ref 94] (ku i 6019 ((i 6019) + 1)) (by rfl) ?_ | refine ft_go mi_k13 12 83 [(7, .int 20), (6, .int 1), (0, .ref 94), (1, .int x1), (2, .int 7), (3, .int 0), (4, .int x4), (5, .int x5)] [.int 1, .ref (mi_RO + 4), .int x1, .ref 94] (ku i 6019 ((i 6019) + 1)) a q r (by rfl) ?_
      refine ft_ro mi_k13 (w := 0) (by decide +kernel) (by decide +kernel) ?_
      have s10 : (x5 + 1).toInt = x5.toInt + (1 : Int32).toInt := kd_add (oz12 hp2.1 kn1) (oz1352 hp2.2 kn1)
      first | refine ft_goS mi_k13 8 105 [.int (x5 + 1), .int x4, .int 0, .int 0, .int x1, .ref 94] (by rfl) ?_ | refine ft_go mi_k13 8 105 [(7, .int 20), (6, .int 1), (0, .ref 94), (1, .int x1), (2, .int 7), (3, .int 0), (4, .int x4), (5, .int x5)] [.int (x5 + 1), .int x4, .int 0, .int 0, .int x1, .ref 94] (ku i 6019 ((i 6019) + 1)) a q r (by rfl) ?_
      refine ko_callI mi_k13.1 (pc := 105) (ls := [(7, .int 20), (6, .int 1), (0, .ref 94), (1, .int x1), (2, .int 7), (3, .int 0), (4, .int x4), (5, .int x5)]) (st := [.int (x5 + 1), .int x4, .int 0, .int 0, .int x1, .ref 94]) (h := ks (ku i 6019 ((i 6019) + 1)) a q r) (i := (.invokevirtual 35, 3, 13, 0, 9, 0, 297)) (mi_k13.2 _ _ (by rfl)) (ft_invS mi_pq13 (by rfl)) (cy := mi_c13) mi_pq13 rfl (kc13_94_l10_l20_K7 hJ8.I hJ8.R x1 x4 (x5 + 1) (oz1339 hp0.1 hp0.2) (oz1495 hp1 r1.2) (oz1356 hp2.1 hp2.2 s10 kn1) (oz1357 c6 hp3.2 s7 kn24 kn1)) (by decide) ?_
      intro vg11 ig11 ag11 qg11 rg11 kg11 hg11
      have hGg11 := kG_call hJ8 kg11 (by decide +kernel)
      have z12 : (ig11 6019).toInt = (((i 6019) + 1).toInt + 1) := hg11
      have b13 : ((-2147483648 : Int) ≤ vg11.toInt) ∧ (vg11.toInt ≤ 2147483647) := kd_bd vg11
      first | refine ft_goL mi_k13 6 192 [(8, .int vg11), (7, .int 20), (6, .int 1), (0, .ref 94), (1, .int x1), (2, .int 7), (3, .int 0), (4, .int x4), (5, .int x5)] [.int (vg11 + 3)] (by rfl) ?_ | refine ft_go mi_k13 6 192 [(8, .int vg11), (7, .int 20), (6, .int 1), (0, .ref 94), (1, .int x1), (2, .int 7), (3, .int 0), (4, .int x4), (5, .int x5)] [.int (vg11 + 3)] ig11 ag11 qg11 rg11 (by rfl) ?_
      exact ft_ret mi_k13 (by rfl) (hP (vg11 + 3) _ _ _ _ hGg11 (oz1358 s7 z12 kn1))
    ·
      have c14 : (i 6019).toInt < (24 : Int32).toInt := kd_leF c; clear c
      first | refine fo_goS mi_k13 fz13_37_5_47 [.int 20, .int (i 6019), .ref 96] (by rfl) ?_ | refine ft_go mi_k13 5 47 [(7, .int 20), (6, .int 1), (0, .ref 94), (1, .int x1), (2, .int 7), (3, .int 0), (4, .int x4), (5, .int x5)] [.int 20, .int (i 6019), .ref 96] i a q r (by rfl) ?_
      refine ko_iast3 mi_k13.1 (n := 24) (c := 24) (ax := (0, 0, 0, 0, 0)) (mi_k13.2 _ _ (by rfl)) (by rfl) (ksG96 _ _ _ _) (ksA96 _ _ _ _) (hG.I.2.1 96) rfl (oz3 fi_6019.1) (oz1343 c14 kn24) ?_
      intro a15 ea15 fa15
      have hJ15 := kG_a3 hG 96 rfl ea15 fa15 (kd_bd _)
      have s16 : ((i 6019) + 1).toInt = (i 6019).toInt + (1 : Int32).toInt := kd_add (oz12 fi_6019.1 kn1) (oz951 fi_6019.2 kn1)
      have hJ17 := kG_i hJ15 6019 rfl (v := ((i 6019) + 1)) ⟨(oz14 fi_6019.1 s16 kn1), (oz1351 hp3.2 s16 kn1)⟩
      first | refine ft_goI mi_k13 12 83 [.int 1, .ref (mi_RO + 4), .int x1, .ref 94] (ku i 6019 ((i 6019) + 1)) (by rfl) ?_ | refine ft_go mi_k13 12 83 [(7, .int 20), (6, .int 1), (0, .ref 94), (1, .int x1), (2, .int 7), (3, .int 0), (4, .int x4), (5, .int x5)] [.int 1, .ref (mi_RO + 4), .int x1, .ref 94] (ku i 6019 ((i 6019) + 1)) a15 q r (by rfl) ?_
      refine ft_ro mi_k13 (w := 0) (by decide +kernel) (by decide +kernel) ?_
      have s19 : (x5 + 1).toInt = x5.toInt + (1 : Int32).toInt := kd_add (oz12 hp2.1 kn1) (oz1352 hp2.2 kn1)
      first | refine ft_goS mi_k13 8 105 [.int (x5 + 1), .int x4, .int 0, .int 0, .int x1, .ref 94] (by rfl) ?_ | refine ft_go mi_k13 8 105 [(7, .int 20), (6, .int 1), (0, .ref 94), (1, .int x1), (2, .int 7), (3, .int 0), (4, .int x4), (5, .int x5)] [.int (x5 + 1), .int x4, .int 0, .int 0, .int x1, .ref 94] (ku i 6019 ((i 6019) + 1)) a15 q r (by rfl) ?_
      have r20 : ((0 : Int) ≤ ((a15 95).getD x1.toNatClampNeg 0).toInt) ∧ (((a15 95).getD x1.toNatClampNeg 0).toInt ≤ 7) := hJ17.I.2.2.1 95 (x1.toNatClampNeg)
      have u21 : ((a15 95).getD x1.toNatClampNeg 0).toInt = ((a 95).getD x1.toNatClampNeg 0).toInt := congrArg (fun z : List Int32 => (z.getD x1.toNatClampNeg 0).toInt) (fa15 95 (by decide))
      refine ko_callI mi_k13.1 (pc := 105) (ls := [(7, .int 20), (6, .int 1), (0, .ref 94), (1, .int x1), (2, .int 7), (3, .int 0), (4, .int x4), (5, .int x5)]) (st := [.int (x5 + 1), .int x4, .int 0, .int 0, .int x1, .ref 94]) (h := ks (ku i 6019 ((i 6019) + 1)) a15 q r) (i := (.invokevirtual 35, 3, 13, 0, 9, 0, 297)) (mi_k13.2 _ _ (by rfl)) (ft_invS mi_pq13 (by rfl)) (cy := mi_c13) mi_pq13 rfl (kc13_94_l10_l20_K7 hJ17.I hJ17.R x1 x4 (x5 + 1) (oz1339 hp0.1 hp0.2) (oz1496 hp1 r20.2 u21) (oz1356 hp2.1 hp2.2 s19 kn1) (oz1359 fi_6019.1 hp3.2 s16 kn1)) (by decide) ?_
      intro vg22 ig22 ag22 qg22 rg22 kg22 hg22
      have hGg22 := kG_call hJ17 kg22 (by decide +kernel)
      have z23 : (ig22 6019).toInt = (((i 6019) + 1).toInt + 1) := hg22
      have b24 : ((-2147483648 : Int) ≤ vg22.toInt) ∧ (vg22.toInt ≤ 2147483647) := kd_bd vg22
      first | refine ft_goL mi_k13 6 192 [(8, .int vg22), (7, .int 20), (6, .int 1), (0, .ref 94), (1, .int x1), (2, .int 7), (3, .int 0), (4, .int x4), (5, .int x5)] [.int (vg22 + 3)] (by rfl) ?_ | refine ft_go mi_k13 6 192 [(8, .int vg22), (7, .int 20), (6, .int 1), (0, .ref 94), (1, .int x1), (2, .int 7), (3, .int 0), (4, .int x4), (5, .int x5)] [.int (vg22 + 3)] ig22 ag22 qg22 rg22 (by rfl) ?_
      exact ft_ret mi_k13 (by rfl) (hP (vg22 + 3) _ _ _ _ hGg22 (oz1358 s16 z23 kn1))
  ·
    have c25 : (40 : Int32).toInt ≤ x5.toInt := kd_ltF c; clear c
    exact (oz1360 c25 hp2.2 kn40).elim
set_option maxRecDepth 100000 in
theorem kc11_l07_l11 {i : Nat → Int32} {a : Nat → List Int32} {q : Nat → List Int64} {r : Nat → Nat} (hI : kI i a q) (hr : kr r)  : km 1 11 [.int 7, .int 1] (ks i a q r) (kPI (ks i a q r) (fun v => v.toInt = 7)) := by
  have hG := kG_self kW0 hI hr
  refine km_ofPI (q := (mi_h11, mi_c11)) rfl (by decide) (Nat.le_of_ble_eq_true rfl) ?_
  intro P hP
  first | refine ft_goL mi_k11 16 26 [(3, .int 0), (2, .int 7), (0, .int 7), (1, .int 1)] [.int (7 * 4), .ref (mi_RO + 3)] (by rfl) ?_ | refine ft_go mi_k11 16 26 [(3, .int 0), (2, .int 7), (0, .int 7), (1, .int 1)] [.int (7 * 4), .ref (mi_RO + 3)] i a q r (by rfl) ?_
  refine ko_top (by decide : (7 * 4 : Int32) = 28) ?_
  first | refine fo_goS mi_k11 fz11_26_2_28 [.int (28 + 1), .ref (mi_RO + 3)] (by rfl) ?_ | refine ft_go mi_k11 2 28 [(3, .int 0), (2, .int 7), (0, .int 7), (1, .int 1)] [.int (28 + 1), .ref (mi_RO + 3)] i a q r (by rfl) ?_
  refine ko_top (by decide : (28 + 1 : Int32) = 29) ?_
  refine ft_ro mi_k11 (w := 80) (by decide +kernel) (by decide +kernel) ?_
  first | refine fo_goS mi_k11 fz11_29_2_33 [.int 7] (by rfl) ?_ | refine ft_go mi_k11 2 33 [(3, .int 0), (2, .int 7), (0, .int 7), (1, .int 1)] [.int 7] i a q r (by rfl) ?_
  exact ft_ret mi_k11 (by rfl) (hP 7 (oz1500 kn7))
def w14_94_l11_K7 : kW := ([6019], [96], [], [])
set_option maxRecDepth 100000 in
theorem kc14_94_l11_K7 {i : Nat → Int32} {a : Nat → List Int32} {q : Nat → List Int64} {r : Nat → Nat} (hI : kI i a q) (hr : kr r) (x1 : Int32) (x3 : Int32) (x4 : Int32) (hp0 : ((0 : Int) ≤ x1.toInt) ∧ (x1.toInt ≤ 49)) (hp1 : ((a 95).getD x1.toNatClampNeg 0).toInt = 7) (hp2 : ((0 : Int) ≤ x4.toInt) ∧ ((x4.toInt + 2) ≤ 39)) (hp3 : ((0 : Int) ≤ (i 6019).toInt) ∧ (((i 6019).toInt + 2) ≤ 900)) : km 7 14 [.ref 94, .int x1, .int 1, .int x3, .int x4] (ks i a q r) (kVI w14_94_l11_K7 i a q r (fun v i1 a1 q1 r1 => (i1 6019).toInt = ((i 6019).toInt + 2))) := by
  have hG := kG_self w14_94_l11_K7 hI hr
  refine km_ofI (q := (mi_h14, mi_c14)) rfl (by decide) (Nat.le_of_ble_eq_true rfl) ?_
  intro P hP
  have r1 : ((0 : Int) ≤ ((a 95).getD x1.toNatClampNeg 0).toInt) ∧ (((a 95).getD x1.toNatClampNeg 0).toInt ≤ 7) := hG.I.2.2.1 95 (x1.toNatClampNeg)
  have fi_6019 : ((0 : Int) ≤ (i 6019).toInt) ∧ ((i 6019).toInt ≤ 1000) := hG.I.1 6019
  first | refine fo_goL mi_k14 fz14_0_3_5 [(0, .ref 94), (1, .int x1), (2, .int 1), (3, .int x3), (4, .int x4)] [.int x1, .ref 95] (by rfl) ?_ | refine ft_go mi_k14 3 5 [(0, .ref 94), (1, .int x1), (2, .int 1), (3, .int x3), (4, .int x4)] [.int x1, .ref 95] i a q r (by rfl) ?_
  refine ko_iald3 mi_k14.1 (n := 50) (c := 50) (ax := (0, 0, 0, 0, 0)) (mi_k14.2 _ _ (by rfl)) (by rfl) (ksG95 _ _ _ _) (hG.I.2.1 95) rfl (oz3 hp0.1) (oz1336 hp0.2) ?_
  refine ko_top (kj_eq (oz1495 hp1 r1.2) (by decide) : ((a 95).getD x1.toNatClampNeg 0) = 7) ?_
  first | refine ft_goL mi_k14 9 48 [(5, .int 7), (0, .ref 94), (1, .int x1), (2, .int 1), (3, .int x3), (4, .int x4)] [.int x4, .int x3, .int 0, .int 7, .int x1, .ref 94] (by rfl) ?_ | refine ft_go mi_k14 9 48 [(5, .int 7), (0, .ref 94), (1, .int x1), (2, .int 1), (3, .int x3), (4, .int x4)] [.int x4, .int x3, .int 0, .int 7, .int x1, .ref 94] i a q r (by rfl) ?_
  refine ko_callI mi_k14.1 (pc := 48) (ls := [(5, .int 7), (0, .ref 94), (1, .int x1), (2, .int 1), (3, .int x3), (4, .int x4)]) (st := [.int x4, .int x3, .int 0, .int 7, .int x1, .ref 94]) (h := ks i a q r) (i := (.invokevirtual 35, 3, 13, 0, 9, 0, 297)) (mi_k14.2 _ _ (by rfl)) (ft_invS mi_pq13 (by rfl)) (cy := mi_c13) mi_pq13 rfl (kc13_94_l17_l20_K7 hG.I hG.R x1 x3 x4 (oz1339 hp0.1 hp0.2) (oz1495 hp1 r1.2) (oz1367 hp2.1 hp2.2) (oz1386 fi_6019.1 hp3.2)) (by decide) ?_
  intro vg2 ig2 ag2 qg2 rg2 kg2 hg2
  have hGg2 := kG_call hG kg2 (by decide +kernel)
  have z3 : (ig2 6019).toInt = ((i 6019).toInt + 2) := hg2
  have b4 : ((-2147483648 : Int) ≤ vg2.toInt) ∧ (vg2.toInt ≤ 2147483647) := kd_bd vg2
  first | refine fo_goS mi_k14 fz14_51_2_53 [.int (vg2 * 2)] (by rfl) ?_ | refine ft_go mi_k14 2 53 [(5, .int 7), (0, .ref 94), (1, .int x1), (2, .int 1), (3, .int x3), (4, .int x4)] [.int (vg2 * 2)] ig2 ag2 qg2 rg2 (by rfl) ?_
  exact ft_ret mi_k14 (by rfl) (hP (vg2 * 2) _ _ _ _ hGg2 (oz1387 z3))
def w13_94_l14_l21_K7 : kW := ([6019], [96], [], [])
set_option maxRecDepth 100000 in
theorem kc13_94_l14_l21_K7 {i : Nat → Int32} {a : Nat → List Int32} {q : Nat → List Int64} {r : Nat → Nat} (hI : kI i a q) (hr : kr r) (x1 : Int32) (x4 : Int32) (x5 : Int32) (hp0 : ((0 : Int) ≤ x1.toInt) ∧ (x1.toInt ≤ 49)) (hp1 : ((a 95).getD x1.toNatClampNeg 0).toInt = 7) (hp2 : ((0 : Int) ≤ x5.toInt) ∧ ((x5.toInt + 3) ≤ 39)) (hp3 : ((0 : Int) ≤ (i 6019).toInt) ∧ (((i 6019).toInt + 3) ≤ 900)) : km 9 13 [.ref 94, .int x1, .int 4, .int 1, .int x4, .int x5] (ks i a q r) (kVI w13_94_l14_l21_K7 i a q r (fun v i1 a1 q1 r1 => (i1 6019).toInt = ((i 6019).toInt + 3))) := by
  have hG := kG_self w13_94_l14_l21_K7 hI hr
  refine km_ofI (q := (mi_h13, mi_c13)) rfl (by decide) (Nat.le_of_ble_eq_true rfl) ?_
  intro P hP
  have r1 : ((0 : Int) ≤ ((a 95).getD x1.toNatClampNeg 0).toInt) ∧ (((a 95).getD x1.toNatClampNeg 0).toInt ≤ 7) := hG.I.2.2.1 95 (x1.toNatClampNeg)
  have fi_6019 : ((0 : Int) ≤ (i 6019).toInt) ∧ ((i 6019).toInt ≤ 1000) := hG.I.1 6019
  first | refine fo_goL mi_k13 fz13_0_2_4 [(0, .ref 94), (1, .int x1), (2, .int 4), (3, .int 1), (4, .int x4), (5, .int x5)] [.int 40, .int x5] (by rfl) ?_ | refine ft_go mi_k13 2 4 [(0, .ref 94), (1, .int x1), (2, .int 4), (3, .int 1), (4, .int x4), (5, .int x5)] [.int 40, .int x5] i a q r (by rfl) ?_
  refine ft_ifS mi_k13 (decide (x5 < 40)) 9 7 [] (by rfl) (fun c => ?_) (fun c => ?_)
  ·
    have c2 : x5.toInt < (40 : Int32).toInt := kd_lt c; clear c
    first | refine fo_goS mi_k13 fz13_9_2_11 [.int 1, .int 4] (by rfl) ?_ | refine ft_go mi_k13 2 11 [(0, .ref 94), (1, .int x1), (2, .int 4), (3, .int 1), (4, .int x4), (5, .int x5)] [.int 1, .int 4] i a q r (by rfl) ?_
    refine ko_callPI mi_k13.1 (pc := 11) (ls := [(0, .ref 94), (1, .int x1), (2, .int 4), (3, .int 1), (4, .int x4), (5, .int x5)]) (st := [.int 1, .int 4]) (h := ks i a q r) (i := (.invokestatic 39, 3, 11, 0, 9, 0, 298)) (mi_k13.2 _ _ (by rfl)) (ft_invS mi_pq11 (by rfl)) (cy := mi_c11) mi_pq11 rfl (kc11_l04_l11 hG.I hG.R ) (by decide) ?_
    intro vg3 hg3
    have z4 : vg3.toInt = 0 := hg3
    have evvg3 := kj_eq (oz236 z4) (by decide : (0 : Int32).toInt = 0)
    subst evvg3
    first | refine ft_goL mi_k13 5 23 [(6, .int 0), (0, .ref 94), (1, .int x1), (2, .int 4), (3, .int 1), (4, .int x4), (5, .int x5)] [.int (0 * 4), .ref (mi_RO + 3)] (by rfl) ?_ | refine ft_go mi_k13 5 23 [(6, .int 0), (0, .ref 94), (1, .int x1), (2, .int 4), (3, .int 1), (4, .int x4), (5, .int x5)] [.int (0 * 4), .ref (mi_RO + 3)] i a q r (by rfl) ?_
    refine ko_top (by decide : (0 * 4 : Int32) = 0) ?_
    first | refine fo_goS mi_k13 fz13_23_2_25 [.int (0 + 1), .ref (mi_RO + 3)] (by rfl) ?_ | refine ft_go mi_k13 2 25 [(6, .int 0), (0, .ref 94), (1, .int x1), (2, .int 4), (3, .int 1), (4, .int x4), (5, .int x5)] [.int (0 + 1), .ref (mi_RO + 3)] i a q r (by rfl) ?_
    refine ko_top (by decide : (0 + 1 : Int32) = 1) ?_
    refine ft_ro mi_k13 (w := 10) (by decide +kernel) (by decide +kernel) ?_
    first | refine fo_goL mi_k13 fz13_26_4_34 [(7, .int 10), (6, .int 0), (0, .ref 94), (1, .int x1), (2, .int 4), (3, .int 1), (4, .int x4), (5, .int x5)] [.int 24, .int (i 6019)] (by rfl) ?_ | refine ft_go mi_k13 4 34 [(7, .int 10), (6, .int 0), (0, .ref 94), (1, .int x1), (2, .int 4), (3, .int 1), (4, .int x4), (5, .int x5)] [.int 24, .int (i 6019)] i a q r (by rfl) ?_
    refine ft_ifS mi_k13 (decide (24 ≤ (i 6019))) 48 37 [] (by rfl) (fun c => ?_) (fun c => ?_)
    ·
      have c6 : (24 : Int32).toInt ≤ (i 6019).toInt := kd_le c; clear c
      have s7 : ((i 6019) + 1).toInt = (i 6019).toInt + (1 : Int32).toInt := kd_add (oz1332 c6 kn24 kn1) (oz951 fi_6019.2 kn1)
      have hJ8 := kG_i hG 6019 rfl (v := ((i 6019) + 1)) ⟨(oz1333 c6 s7 kn24 kn1), (oz1385 hp3.2 s7 kn1)⟩
      have s9 : (x5 + 1).toInt = x5.toInt + (1 : Int32).toInt := kd_add (oz12 hp2.1 kn1) (oz1366 hp2.2 kn1)
      first | refine fo_goI mi_k13 fz13_48_15_72 [.int (x5 + 1), .int x4, .int 1, .int x1, .ref 94] (ku i 6019 ((i 6019) + 1)) (by rfl) ?_ | refine ft_go mi_k13 15 72 [(7, .int 10), (6, .int 0), (0, .ref 94), (1, .int x1), (2, .int 4), (3, .int 1), (4, .int x4), (5, .int x5)] [.int (x5 + 1), .int x4, .int 1, .int x1, .ref 94] (ku i 6019 ((i 6019) + 1)) a q r (by rfl) ?_
      refine ko_callI mi_k13.1 (pc := 72) (ls := [(7, .int 10), (6, .int 0), (0, .ref 94), (1, .int x1), (2, .int 4), (3, .int 1), (4, .int x4), (5, .int x5)]) (st := [.int (x5 + 1), .int x4, .int 1, .int x1, .ref 94]) (h := ks (ku i 6019 ((i 6019) + 1)) a q r) (i := (.invokevirtual 43, 3, 14, 0, 9, 0, 301)) (mi_k13.2 _ _ (by rfl)) (ft_invS mi_pq14 (by rfl)) (cy := mi_c14) mi_pq14 rfl (kc14_94_l11_K7 hJ8.I hJ8.R x1 x4 (x5 + 1) (oz1339 hp0.1 hp0.2) (oz1495 hp1 r1.2) (oz1372 hp2.1 hp2.2 s9 kn1) (oz1388 c6 hp3.2 s7 kn24 kn1)) (by decide) ?_
      intro vg10 ig10 ag10 qg10 rg10 kg10 hg10
      have hGg10 := kG_call hJ8 kg10 (by decide +kernel)
      have z11 : (ig10 6019).toInt = (((i 6019) + 1).toInt + 2) := hg10
      exact ft_ret mi_k13 (by rfl) (hP vg10 _ _ _ _ hGg10 (oz1389 s7 z11 kn1))
    ·
      have c12 : (i 6019).toInt < (24 : Int32).toInt := kd_leF c; clear c
      first | refine fo_goS mi_k13 fz13_37_5_47 [.int 10, .int (i 6019), .ref 96] (by rfl) ?_ | refine ft_go mi_k13 5 47 [(7, .int 10), (6, .int 0), (0, .ref 94), (1, .int x1), (2, .int 4), (3, .int 1), (4, .int x4), (5, .int x5)] [.int 10, .int (i 6019), .ref 96] i a q r (by rfl) ?_
      refine ko_iast3 mi_k13.1 (n := 24) (c := 24) (ax := (0, 0, 0, 0, 0)) (mi_k13.2 _ _ (by rfl)) (by rfl) (ksG96 _ _ _ _) (ksA96 _ _ _ _) (hG.I.2.1 96) rfl (oz3 fi_6019.1) (oz1343 c12 kn24) ?_
      intro a13 ea13 fa13
      have hJ13 := kG_a3 hG 96 rfl ea13 fa13 (kd_bd _)
      have s14 : ((i 6019) + 1).toInt = (i 6019).toInt + (1 : Int32).toInt := kd_add (oz12 fi_6019.1 kn1) (oz951 fi_6019.2 kn1)
      have hJ15 := kG_i hJ13 6019 rfl (v := ((i 6019) + 1)) ⟨(oz14 fi_6019.1 s14 kn1), (oz1385 hp3.2 s14 kn1)⟩
      have s16 : (x5 + 1).toInt = x5.toInt + (1 : Int32).toInt := kd_add (oz12 hp2.1 kn1) (oz1366 hp2.2 kn1)
      first | refine fo_goI mi_k13 fz13_48_15_72 [.int (x5 + 1), .int x4, .int 1, .int x1, .ref 94] (ku i 6019 ((i 6019) + 1)) (by rfl) ?_ | refine ft_go mi_k13 15 72 [(7, .int 10), (6, .int 0), (0, .ref 94), (1, .int x1), (2, .int 4), (3, .int 1), (4, .int x4), (5, .int x5)] [.int (x5 + 1), .int x4, .int 1, .int x1, .ref 94] (ku i 6019 ((i 6019) + 1)) a13 q r (by rfl) ?_
      have r17 : ((0 : Int) ≤ ((a13 95).getD x1.toNatClampNeg 0).toInt) ∧ (((a13 95).getD x1.toNatClampNeg 0).toInt ≤ 7) := hJ15.I.2.2.1 95 (x1.toNatClampNeg)
      have u18 : ((a13 95).getD x1.toNatClampNeg 0).toInt = ((a 95).getD x1.toNatClampNeg 0).toInt := congrArg (fun z : List Int32 => (z.getD x1.toNatClampNeg 0).toInt) (fa13 95 (by decide))
      refine ko_callI mi_k13.1 (pc := 72) (ls := [(7, .int 10), (6, .int 0), (0, .ref 94), (1, .int x1), (2, .int 4), (3, .int 1), (4, .int x4), (5, .int x5)]) (st := [.int (x5 + 1), .int x4, .int 1, .int x1, .ref 94]) (h := ks (ku i 6019 ((i 6019) + 1)) a13 q r) (i := (.invokevirtual 43, 3, 14, 0, 9, 0, 301)) (mi_k13.2 _ _ (by rfl)) (ft_invS mi_pq14 (by rfl)) (cy := mi_c14) mi_pq14 rfl (kc14_94_l11_K7 hJ15.I hJ15.R x1 x4 (x5 + 1) (oz1339 hp0.1 hp0.2) (oz1496 hp1 r17.2 u18) (oz1372 hp2.1 hp2.2 s16 kn1) (oz1390 fi_6019.1 hp3.2 s14 kn1)) (by decide) ?_
      intro vg19 ig19 ag19 qg19 rg19 kg19 hg19
      have hGg19 := kG_call hJ15 kg19 (by decide +kernel)
      have z20 : (ig19 6019).toInt = (((i 6019) + 1).toInt + 2) := hg19
      exact ft_ret mi_k13 (by rfl) (hP vg19 _ _ _ _ hGg19 (oz1389 s14 z20 kn1))
  ·
    have c21 : (40 : Int32).toInt ≤ x5.toInt := kd_ltF c; clear c
    exact (oz1376 c21 hp2.2 kn40).elim
set_option maxRecDepth 100000 in
theorem kc11_l07_l12 {i : Nat → Int32} {a : Nat → List Int32} {q : Nat → List Int64} {r : Nat → Nat} (hI : kI i a q) (hr : kr r)  : km 1 11 [.int 7, .int 2] (ks i a q r) (kPI (ks i a q r) (fun v => v.toInt = 4)) := by
  have hG := kG_self kW0 hI hr
  refine km_ofPI (q := (mi_h11, mi_c11)) rfl (by decide) (Nat.le_of_ble_eq_true rfl) ?_
  intro P hP
  first | refine ft_goL mi_k11 16 26 [(3, .int 0), (2, .int 7), (0, .int 7), (1, .int 2)] [.int (7 * 4), .ref (mi_RO + 3)] (by rfl) ?_ | refine ft_go mi_k11 16 26 [(3, .int 0), (2, .int 7), (0, .int 7), (1, .int 2)] [.int (7 * 4), .ref (mi_RO + 3)] i a q r (by rfl) ?_
  refine ko_top (by decide : (7 * 4 : Int32) = 28) ?_
  first | refine fo_goS mi_k11 fz11_26_2_28 [.int (28 + 2), .ref (mi_RO + 3)] (by rfl) ?_ | refine ft_go mi_k11 2 28 [(3, .int 0), (2, .int 7), (0, .int 7), (1, .int 2)] [.int (28 + 2), .ref (mi_RO + 3)] i a q r (by rfl) ?_
  refine ko_top (by decide : (28 + 2 : Int32) = 30) ?_
  refine ft_ro mi_k11 (w := 0) (by decide +kernel) (by decide +kernel) ?_
  first | refine ft_goS mi_k11 3 38 [.int 7, .ref (mi_RO + 4)] (by rfl) ?_ | refine ft_go mi_k11 3 38 [(3, .int 0), (2, .int 7), (0, .int 7), (1, .int 2)] [.int 7, .ref (mi_RO + 4)] i a q r (by rfl) ?_
  refine ft_ro mi_k11 (w := 4) (by decide +kernel) (by decide +kernel) ?_
  first | refine fo_goL mi_k11 fz11_39_2_43 [(3, .int (0 + 1)), (2, .int 4), (0, .int 7), (1, .int 2)] [] (by rfl) ?_ | refine ft_go mi_k11 2 43 [(3, .int (0 + 1)), (2, .int 4), (0, .int 7), (1, .int 2)] [] i a q r (by rfl) ?_
  refine ko_loc (by decide : (0 + 1 : Int32) = 1) ?_
  first | refine ft_goL mi_k11 13 26 [(3, .int 1), (2, .int 4), (0, .int 7), (1, .int 2)] [.int (4 * 4), .ref (mi_RO + 3)] (by rfl) ?_ | refine ft_goS mi_k11 13 26 [.int (4 * 4), .ref (mi_RO + 3)] (by rfl) ?_ | refine ft_go mi_k11 13 26 [(3, .int 1), (2, .int 4), (0, .int 7), (1, .int 2)] [.int (4 * 4), .ref (mi_RO + 3)] i a q r (by rfl) ?_
  refine ko_top (by decide : (4 * 4 : Int32) = 16) ?_
  first | refine fo_goS mi_k11 fz11_26_2_28 [.int (16 + 2), .ref (mi_RO + 3)] (by rfl) ?_ | refine ft_go mi_k11 2 28 [(3, .int 1), (2, .int 4), (0, .int 7), (1, .int 2)] [.int (16 + 2), .ref (mi_RO + 3)] i a q r (by rfl) ?_
  refine ko_top (by decide : (16 + 2 : Int32) = 18) ?_
  refine ft_ro mi_k11 (w := 50) (by decide +kernel) (by decide +kernel) ?_
  first | refine fo_goS mi_k11 fz11_29_2_33 [.int 4] (by rfl) ?_ | refine ft_go mi_k11 2 33 [(3, .int 1), (2, .int 4), (0, .int 7), (1, .int 2)] [.int 4] i a q r (by rfl) ?_
  exact ft_ret mi_k11 (by rfl) (hP 4 (oz1446 kn4))
def w14_94_l12_K7 : kW := ([], [], [], [])
set_option maxRecDepth 100000 in
theorem kc14_94_l12_K7 {i : Nat → Int32} {a : Nat → List Int32} {q : Nat → List Int64} {r : Nat → Nat} (hI : kI i a q) (hr : kr r) (x1 : Int32) (x3 : Int32) (x4 : Int32) (hp0 : ((0 : Int) ≤ x1.toInt) ∧ (x1.toInt ≤ 49)) (hp1 : ((a 95).getD x1.toNatClampNeg 0).toInt = 7) (hp2 : ((0 : Int) ≤ x4.toInt) ∧ ((x4.toInt + 0) ≤ 39)) (hp3 : ((0 : Int) ≤ (i 6019).toInt) ∧ (((i 6019).toInt + 0) ≤ 900)) : km 1 14 [.ref 94, .int x1, .int 2, .int x3, .int x4] (ks i a q r) (kVI w14_94_l12_K7 i a q r (fun v i1 a1 q1 r1 => (i1 6019).toInt = ((i 6019).toInt + 0))) := by
  have hG := kG_self w14_94_l12_K7 hI hr
  refine km_ofI (q := (mi_h14, mi_c14)) rfl (by decide) (Nat.le_of_ble_eq_true rfl) ?_
  intro P hP
  have r1 : ((0 : Int) ≤ ((a 95).getD x1.toNatClampNeg 0).toInt) ∧ (((a 95).getD x1.toNatClampNeg 0).toInt ≤ 7) := hG.I.2.2.1 95 (x1.toNatClampNeg)
  first | refine fo_goL mi_k14 fz14_0_3_5 [(0, .ref 94), (1, .int x1), (2, .int 2), (3, .int x3), (4, .int x4)] [.int x1, .ref 95] (by rfl) ?_ | refine ft_go mi_k14 3 5 [(0, .ref 94), (1, .int x1), (2, .int 2), (3, .int x3), (4, .int x4)] [.int x1, .ref 95] i a q r (by rfl) ?_
  refine ko_iald3 mi_k14.1 (n := 50) (c := 50) (ax := (0, 0, 0, 0, 0)) (mi_k14.2 _ _ (by rfl)) (by rfl) (ksG95 _ _ _ _) (hG.I.2.1 95) rfl (oz3 hp0.1) (oz1336 hp0.2) ?_
  refine ko_top (kj_eq (oz1495 hp1 r1.2) (by decide) : ((a 95).getD x1.toNatClampNeg 0) = 7) ?_
  first | refine ft_goL mi_k14 6 57 [(5, .int 7), (0, .ref 94), (1, .int x1), (2, .int 2), (3, .int x3), (4, .int x4)] [.int (x3 ^^^ x1)] (by rfl) ?_ | refine ft_go mi_k14 6 57 [(5, .int 7), (0, .ref 94), (1, .int x1), (2, .int 2), (3, .int x3), (4, .int x4)] [.int (x3 ^^^ x1)] i a q r (by rfl) ?_
  exact ft_ret mi_k14 (by rfl) (hP (x3 ^^^ x1) _ _ _ _ hG oz1338)
def w13_94_l11_l22_K7 : kW := ([6019], [96], [], [])
set_option maxRecDepth 100000 in
theorem kc13_94_l11_l22_K7 {i : Nat → Int32} {a : Nat → List Int32} {q : Nat → List Int64} {r : Nat → Nat} (hI : kI i a q) (hr : kr r) (x1 : Int32) (x4 : Int32) (x5 : Int32) (hp0 : ((0 : Int) ≤ x1.toInt) ∧ (x1.toInt ≤ 49)) (hp1 : ((a 95).getD x1.toNatClampNeg 0).toInt = 7) (hp2 : ((0 : Int) ≤ x5.toInt) ∧ ((x5.toInt + 1) ≤ 39)) (hp3 : ((0 : Int) ≤ (i 6019).toInt) ∧ (((i 6019).toInt + 1) ≤ 900)) : km 3 13 [.ref 94, .int x1, .int 1, .int 2, .int x4, .int x5] (ks i a q r) (kVI w13_94_l11_l22_K7 i a q r (fun v i1 a1 q1 r1 => (i1 6019).toInt = ((i 6019).toInt + 1))) := by
  have hG := kG_self w13_94_l11_l22_K7 hI hr
  refine km_ofI (q := (mi_h13, mi_c13)) rfl (by decide) (Nat.le_of_ble_eq_true rfl) ?_
  intro P hP
  have r1 : ((0 : Int) ≤ ((a 95).getD x1.toNatClampNeg 0).toInt) ∧ (((a 95).getD x1.toNatClampNeg 0).toInt ≤ 7) := hG.I.2.2.1 95 (x1.toNatClampNeg)
  have fi_6019 : ((0 : Int) ≤ (i 6019).toInt) ∧ ((i 6019).toInt ≤ 1000) := hG.I.1 6019
  first | refine fo_goL mi_k13 fz13_0_2_4 [(0, .ref 94), (1, .int x1), (2, .int 1), (3, .int 2), (4, .int x4), (5, .int x5)] [.int 40, .int x5] (by rfl) ?_ | refine ft_go mi_k13 2 4 [(0, .ref 94), (1, .int x1), (2, .int 1), (3, .int 2), (4, .int x4), (5, .int x5)] [.int 40, .int x5] i a q r (by rfl) ?_
  refine ft_ifS mi_k13 (decide (x5 < 40)) 9 7 [] (by rfl) (fun c => ?_) (fun c => ?_)
  ·
    have c2 : x5.toInt < (40 : Int32).toInt := kd_lt c; clear c
    first | refine fo_goS mi_k13 fz13_9_2_11 [.int 2, .int 1] (by rfl) ?_ | refine ft_go mi_k13 2 11 [(0, .ref 94), (1, .int x1), (2, .int 1), (3, .int 2), (4, .int x4), (5, .int x5)] [.int 2, .int 1] i a q r (by rfl) ?_
    refine ko_callPI mi_k13.1 (pc := 11) (ls := [(0, .ref 94), (1, .int x1), (2, .int 1), (3, .int 2), (4, .int x4), (5, .int x5)]) (st := [.int 2, .int 1]) (h := ks i a q r) (i := (.invokestatic 39, 3, 11, 0, 9, 0, 298)) (mi_k13.2 _ _ (by rfl)) (ft_invS mi_pq11 (by rfl)) (cy := mi_c11) mi_pq11 rfl (kc11_l01_l12 hG.I hG.R ) (by decide) ?_
    intro vg3 hg3
    have z4 : vg3.toInt = 0 := hg3
    have evvg3 := kj_eq (oz236 z4) (by decide : (0 : Int32).toInt = 0)
    subst evvg3
    first | refine ft_goL mi_k13 5 23 [(6, .int 0), (0, .ref 94), (1, .int x1), (2, .int 1), (3, .int 2), (4, .int x4), (5, .int x5)] [.int (0 * 4), .ref (mi_RO + 3)] (by rfl) ?_ | refine ft_go mi_k13 5 23 [(6, .int 0), (0, .ref 94), (1, .int x1), (2, .int 1), (3, .int 2), (4, .int x4), (5, .int x5)] [.int (0 * 4), .ref (mi_RO + 3)] i a q r (by rfl) ?_
    refine ko_top (by decide : (0 * 4 : Int32) = 0) ?_
    first | refine fo_goS mi_k13 fz13_23_2_25 [.int (0 + 2), .ref (mi_RO + 3)] (by rfl) ?_ | refine ft_go mi_k13 2 25 [(6, .int 0), (0, .ref 94), (1, .int x1), (2, .int 1), (3, .int 2), (4, .int x4), (5, .int x5)] [.int (0 + 2), .ref (mi_RO + 3)] i a q r (by rfl) ?_
    refine ko_top (by decide : (0 + 2 : Int32) = 2) ?_
    refine ft_ro mi_k13 (w := 11) (by decide +kernel) (by decide +kernel) ?_
    first | refine fo_goL mi_k13 fz13_26_4_34 [(7, .int 11), (6, .int 0), (0, .ref 94), (1, .int x1), (2, .int 1), (3, .int 2), (4, .int x4), (5, .int x5)] [.int 24, .int (i 6019)] (by rfl) ?_ | refine ft_go mi_k13 4 34 [(7, .int 11), (6, .int 0), (0, .ref 94), (1, .int x1), (2, .int 1), (3, .int 2), (4, .int x4), (5, .int x5)] [.int 24, .int (i 6019)] i a q r (by rfl) ?_
    refine ft_ifS mi_k13 (decide (24 ≤ (i 6019))) 48 37 [] (by rfl) (fun c => ?_) (fun c => ?_)
    ·
      have c6 : (24 : Int32).toInt ≤ (i 6019).toInt := kd_le c; clear c
      have s7 : ((i 6019) + 1).toInt = (i 6019).toInt + (1 : Int32).toInt := kd_add (oz1332 c6 kn24 kn1) (oz951 fi_6019.2 kn1)
      have hJ8 := kG_i hG 6019 rfl (v := ((i 6019) + 1)) ⟨(oz1333 c6 s7 kn24 kn1), (oz1334 hp3.2 s7 kn1)⟩
      have s9 : (x5 + 1).toInt = x5.toInt + (1 : Int32).toInt := kd_add (oz12 hp2.1 kn1) (oz1335 hp2.2 kn1)
      first | refine fo_goI mi_k13 fz13_48_15_72 [.int (x5 + 1), .int x4, .int 2, .int x1, .ref 94] (ku i 6019 ((i 6019) + 1)) (by rfl) ?_ | refine ft_go mi_k13 15 72 [(7, .int 11), (6, .int 0), (0, .ref 94), (1, .int x1), (2, .int 1), (3, .int 2), (4, .int x4), (5, .int x5)] [.int (x5 + 1), .int x4, .int 2, .int x1, .ref 94] (ku i 6019 ((i 6019) + 1)) a q r (by rfl) ?_
      refine ko_callI mi_k13.1 (pc := 72) (ls := [(7, .int 11), (6, .int 0), (0, .ref 94), (1, .int x1), (2, .int 1), (3, .int 2), (4, .int x4), (5, .int x5)]) (st := [.int (x5 + 1), .int x4, .int 2, .int x1, .ref 94]) (h := ks (ku i 6019 ((i 6019) + 1)) a q r) (i := (.invokevirtual 43, 3, 14, 0, 9, 0, 301)) (mi_k13.2 _ _ (by rfl)) (ft_invS mi_pq14 (by rfl)) (cy := mi_c14) mi_pq14 rfl (kc14_94_l12_K7 hJ8.I hJ8.R x1 x4 (x5 + 1) (oz1339 hp0.1 hp0.2) (oz1495 hp1 r1.2) (oz1340 hp2.1 hp2.2 s9 kn1) (oz1341 c6 hp3.2 s7 kn24 kn1)) (by decide) ?_
      intro vg10 ig10 ag10 qg10 rg10 kg10 hg10
      have hGg10 := kG_call hJ8 kg10 (by decide +kernel)
      have efig10_6019 : (ig10 6019).toInt = ((i 6019) + 1).toInt := kg10.ti 6019 rfl
      exact ft_ret mi_k13 (by rfl) (hP vg10 _ _ _ _ hGg10 (oz1342 efig10_6019 s7 kn1))
    ·
      have c12 : (i 6019).toInt < (24 : Int32).toInt := kd_leF c; clear c
      first | refine fo_goS mi_k13 fz13_37_5_47 [.int 11, .int (i 6019), .ref 96] (by rfl) ?_ | refine ft_go mi_k13 5 47 [(7, .int 11), (6, .int 0), (0, .ref 94), (1, .int x1), (2, .int 1), (3, .int 2), (4, .int x4), (5, .int x5)] [.int 11, .int (i 6019), .ref 96] i a q r (by rfl) ?_
      refine ko_iast3 mi_k13.1 (n := 24) (c := 24) (ax := (0, 0, 0, 0, 0)) (mi_k13.2 _ _ (by rfl)) (by rfl) (ksG96 _ _ _ _) (ksA96 _ _ _ _) (hG.I.2.1 96) rfl (oz3 fi_6019.1) (oz1343 c12 kn24) ?_
      intro a13 ea13 fa13
      have hJ13 := kG_a3 hG 96 rfl ea13 fa13 (kd_bd _)
      have s14 : ((i 6019) + 1).toInt = (i 6019).toInt + (1 : Int32).toInt := kd_add (oz12 fi_6019.1 kn1) (oz951 fi_6019.2 kn1)
      have hJ15 := kG_i hJ13 6019 rfl (v := ((i 6019) + 1)) ⟨(oz14 fi_6019.1 s14 kn1), (oz1334 hp3.2 s14 kn1)⟩
      have s16 : (x5 + 1).toInt = x5.toInt + (1 : Int32).toInt := kd_add (oz12 hp2.1 kn1) (oz1335 hp2.2 kn1)
      first | refine fo_goI mi_k13 fz13_48_15_72 [.int (x5 + 1), .int x4, .int 2, .int x1, .ref 94] (ku i 6019 ((i 6019) + 1)) (by rfl) ?_ | refine ft_go mi_k13 15 72 [(7, .int 11), (6, .int 0), (0, .ref 94), (1, .int x1), (2, .int 1), (3, .int 2), (4, .int x4), (5, .int x5)] [.int (x5 + 1), .int x4, .int 2, .int x1, .ref 94] (ku i 6019 ((i 6019) + 1)) a13 q r (by rfl) ?_
      have r17 : ((0 : Int) ≤ ((a13 95).getD x1.toNatClampNeg 0).toInt) ∧ (((a13 95).getD x1.toNatClampNeg 0).toInt ≤ 7) := hJ15.I.2.2.1 95 (x1.toNatClampNeg)
      have u18 : ((a13 95).getD x1.toNatClampNeg 0).toInt = ((a 95).getD x1.toNatClampNeg 0).toInt := congrArg (fun z : List Int32 => (z.getD x1.toNatClampNeg 0).toInt) (fa13 95 (by decide))
      refine ko_callI mi_k13.1 (pc := 72) (ls := [(7, .int 11), (6, .int 0), (0, .ref 94), (1, .int x1), (2, .int 1), (3, .int 2), (4, .int x4), (5, .int x5)]) (st := [.int (x5 + 1), .int x4, .int 2, .int x1, .ref 94]) (h := ks (ku i 6019 ((i 6019) + 1)) a13 q r) (i := (.invokevirtual 43, 3, 14, 0, 9, 0, 301)) (mi_k13.2 _ _ (by rfl)) (ft_invS mi_pq14 (by rfl)) (cy := mi_c14) mi_pq14 rfl (kc14_94_l12_K7 hJ15.I hJ15.R x1 x4 (x5 + 1) (oz1339 hp0.1 hp0.2) (oz1496 hp1 r17.2 u18) (oz1340 hp2.1 hp2.2 s16 kn1) (oz1345 fi_6019.1 hp3.2 s14 kn1)) (by decide) ?_
      intro vg19 ig19 ag19 qg19 rg19 kg19 hg19
      have hGg19 := kG_call hJ15 kg19 (by decide +kernel)
      have efig19_6019 : (ig19 6019).toInt = ((i 6019) + 1).toInt := kg19.ti 6019 rfl
      exact ft_ret mi_k13 (by rfl) (hP vg19 _ _ _ _ hGg19 (oz1342 efig19_6019 s14 kn1))
  ·
    have c21 : (40 : Int32).toInt ≤ x5.toInt := kd_ltF c; clear c
    exact (oz1346 c21 hp2.2 kn40).elim
def w13_94_l17_l22_K7 : kW := ([6019], [96], [], [])
set_option maxRecDepth 100000 in
theorem kc13_94_l17_l22_K7 {i : Nat → Int32} {a : Nat → List Int32} {q : Nat → List Int64} {r : Nat → Nat} (hI : kI i a q) (hr : kr r) (x1 : Int32) (x4 : Int32) (x5 : Int32) (hp0 : ((0 : Int) ≤ x1.toInt) ∧ (x1.toInt ≤ 49)) (hp1 : ((a 95).getD x1.toNatClampNeg 0).toInt = 7) (hp2 : ((0 : Int) ≤ x5.toInt) ∧ ((x5.toInt + 3) ≤ 39)) (hp3 : ((0 : Int) ≤ (i 6019).toInt) ∧ (((i 6019).toInt + 4) ≤ 900)) : km 7 13 [.ref 94, .int x1, .int 7, .int 2, .int x4, .int x5] (ks i a q r) (kVI w13_94_l17_l22_K7 i a q r (fun v i1 a1 q1 r1 => (i1 6019).toInt = ((i 6019).toInt + 4))) := by
  have hG := kG_self w13_94_l17_l22_K7 hI hr
  refine km_ofI (q := (mi_h13, mi_c13)) rfl (by decide) (Nat.le_of_ble_eq_true rfl) ?_
  intro P hP
  have r1 : ((0 : Int) ≤ ((a 95).getD x1.toNatClampNeg 0).toInt) ∧ (((a 95).getD x1.toNatClampNeg 0).toInt ≤ 7) := hG.I.2.2.1 95 (x1.toNatClampNeg)
  have fi_6019 : ((0 : Int) ≤ (i 6019).toInt) ∧ ((i 6019).toInt ≤ 1000) := hG.I.1 6019
  first | refine fo_goL mi_k13 fz13_0_2_4 [(0, .ref 94), (1, .int x1), (2, .int 7), (3, .int 2), (4, .int x4), (5, .int x5)] [.int 40, .int x5] (by rfl) ?_ | refine ft_go mi_k13 2 4 [(0, .ref 94), (1, .int x1), (2, .int 7), (3, .int 2), (4, .int x4), (5, .int x5)] [.int 40, .int x5] i a q r (by rfl) ?_
  refine ft_ifS mi_k13 (decide (x5 < 40)) 9 7 [] (by rfl) (fun c => ?_) (fun c => ?_)
  ·
    have c2 : x5.toInt < (40 : Int32).toInt := kd_lt c; clear c
    first | refine fo_goS mi_k13 fz13_9_2_11 [.int 2, .int 7] (by rfl) ?_ | refine ft_go mi_k13 2 11 [(0, .ref 94), (1, .int x1), (2, .int 7), (3, .int 2), (4, .int x4), (5, .int x5)] [.int 2, .int 7] i a q r (by rfl) ?_
    refine ko_callPI mi_k13.1 (pc := 11) (ls := [(0, .ref 94), (1, .int x1), (2, .int 7), (3, .int 2), (4, .int x4), (5, .int x5)]) (st := [.int 2, .int 7]) (h := ks i a q r) (i := (.invokestatic 39, 3, 11, 0, 9, 0, 298)) (mi_k13.2 _ _ (by rfl)) (ft_invS mi_pq11 (by rfl)) (cy := mi_c11) mi_pq11 rfl (kc11_l07_l12 hG.I hG.R ) (by decide) ?_
    intro vg3 hg3
    have z4 : vg3.toInt = 4 := hg3
    have evvg3 := kj_eq (oz1446 z4) (by decide : (4 : Int32).toInt = 4)
    subst evvg3
    first | refine ft_goL mi_k13 5 23 [(6, .int 4), (0, .ref 94), (1, .int x1), (2, .int 7), (3, .int 2), (4, .int x4), (5, .int x5)] [.int (4 * 4), .ref (mi_RO + 3)] (by rfl) ?_ | refine ft_go mi_k13 5 23 [(6, .int 4), (0, .ref 94), (1, .int x1), (2, .int 7), (3, .int 2), (4, .int x4), (5, .int x5)] [.int (4 * 4), .ref (mi_RO + 3)] i a q r (by rfl) ?_
    refine ko_top (by decide : (4 * 4 : Int32) = 16) ?_
    first | refine fo_goS mi_k13 fz13_23_2_25 [.int (16 + 2), .ref (mi_RO + 3)] (by rfl) ?_ | refine ft_go mi_k13 2 25 [(6, .int 4), (0, .ref 94), (1, .int x1), (2, .int 7), (3, .int 2), (4, .int x4), (5, .int x5)] [.int (16 + 2), .ref (mi_RO + 3)] i a q r (by rfl) ?_
    refine ko_top (by decide : (16 + 2 : Int32) = 18) ?_
    refine ft_ro mi_k13 (w := 50) (by decide +kernel) (by decide +kernel) ?_
    first | refine fo_goL mi_k13 fz13_26_4_34 [(7, .int 50), (6, .int 4), (0, .ref 94), (1, .int x1), (2, .int 7), (3, .int 2), (4, .int x4), (5, .int x5)] [.int 24, .int (i 6019)] (by rfl) ?_ | refine ft_go mi_k13 4 34 [(7, .int 50), (6, .int 4), (0, .ref 94), (1, .int x1), (2, .int 7), (3, .int 2), (4, .int x4), (5, .int x5)] [.int 24, .int (i 6019)] i a q r (by rfl) ?_
    refine ft_ifS mi_k13 (decide (24 ≤ (i 6019))) 48 37 [] (by rfl) (fun c => ?_) (fun c => ?_)
    ·
      have c6 : (24 : Int32).toInt ≤ (i 6019).toInt := kd_le c; clear c
      have s7 : ((i 6019) + 1).toInt = (i 6019).toInt + (1 : Int32).toInt := kd_add (oz1332 c6 kn24 kn1) (oz951 fi_6019.2 kn1)
      have hJ8 := kG_i hG 6019 rfl (v := ((i 6019) + 1)) ⟨(oz1333 c6 s7 kn24 kn1), (oz1365 hp3.2 s7 kn1)⟩
      first | refine ft_goI mi_k13 12 83 [.int 4, .ref (mi_RO + 4), .int x1, .ref 94] (ku i 6019 ((i 6019) + 1)) (by rfl) ?_ | refine ft_go mi_k13 12 83 [(7, .int 50), (6, .int 4), (0, .ref 94), (1, .int x1), (2, .int 7), (3, .int 2), (4, .int x4), (5, .int x5)] [.int 4, .ref (mi_RO + 4), .int x1, .ref 94] (ku i 6019 ((i 6019) + 1)) a q r (by rfl) ?_
      refine ft_ro mi_k13 (w := 1) (by decide +kernel) (by decide +kernel) ?_
      have s10 : (x5 + 1).toInt = x5.toInt + (1 : Int32).toInt := kd_add (oz12 hp2.1 kn1) (oz1366 hp2.2 kn1)
      first | refine ft_goS mi_k13 8 105 [.int (x5 + 1), .int x4, .int 2, .int 1, .int x1, .ref 94] (by rfl) ?_ | refine ft_go mi_k13 8 105 [(7, .int 50), (6, .int 4), (0, .ref 94), (1, .int x1), (2, .int 7), (3, .int 2), (4, .int x4), (5, .int x5)] [.int (x5 + 1), .int x4, .int 2, .int 1, .int x1, .ref 94] (ku i 6019 ((i 6019) + 1)) a q r (by rfl) ?_
      refine ko_callI mi_k13.1 (pc := 105) (ls := [(7, .int 50), (6, .int 4), (0, .ref 94), (1, .int x1), (2, .int 7), (3, .int 2), (4, .int x4), (5, .int x5)]) (st := [.int (x5 + 1), .int x4, .int 2, .int 1, .int x1, .ref 94]) (h := ks (ku i 6019 ((i 6019) + 1)) a q r) (i := (.invokevirtual 35, 3, 13, 0, 9, 0, 297)) (mi_k13.2 _ _ (by rfl)) (ft_invS mi_pq13 (by rfl)) (cy := mi_c13) mi_pq13 rfl (kc13_94_l11_l22_K7 hJ8.I hJ8.R x1 x4 (x5 + 1) (oz1339 hp0.1 hp0.2) (oz1495 hp1 r1.2) (oz1451 hp2.1 hp2.2 s10 kn1) (oz1452 c6 hp3.2 s7 kn24 kn1)) (by decide) ?_
      intro vg11 ig11 ag11 qg11 rg11 kg11 hg11
      have hGg11 := kG_call hJ8 kg11 (by decide +kernel)
      have z12 : (ig11 6019).toInt = (((i 6019) + 1).toInt + 1) := hg11
      first | refine ft_goL mi_k13 9 211 [(8, .int vg11), (7, .int 50), (6, .int 4), (0, .ref 94), (1, .int x1), (2, .int 7), (3, .int 2), (4, .int x4), (5, .int x5)] [.int x1, .ref 95, .int x1, .ref 94, .int vg11] (by rfl) ?_ | refine ft_go mi_k13 9 211 [(8, .int vg11), (7, .int 50), (6, .int 4), (0, .ref 94), (1, .int x1), (2, .int 7), (3, .int 2), (4, .int x4), (5, .int x5)] [.int x1, .ref 95, .int x1, .ref 94, .int vg11] ig11 ag11 qg11 rg11 (by rfl) ?_
      refine ko_iald3 mi_k13.1 (n := 50) (c := 50) (ax := (0, 0, 0, 0, 0)) (mi_k13.2 _ _ (by rfl)) (by rfl) (ksG95 _ _ _ _) (hGg11.I.2.1 95) rfl (oz3 hp0.1) (oz1336 hp0.2) ?_
      have r13 : ((0 : Int) ≤ ((ag11 95).getD x1.toNatClampNeg 0).toInt) ∧ (((ag11 95).getD x1.toNatClampNeg 0).toInt ≤ 7) := hGg11.I.2.2.1 95 (x1.toNatClampNeg)
      have u14 : ((ag11 95).getD x1.toNatClampNeg 0).toInt = ((a 95).getD x1.toNatClampNeg 0).toInt := congrArg (fun z : List Int32 => (z.getD x1.toNatClampNeg 0).toInt) (kg11.fa 95 rfl)
      refine ko_top (kj_eq (oz1496 hp1 r13.2 u14) (by decide) : ((ag11 95).getD x1.toNatClampNeg 0) = 7) ?_
      first | refine fo_goS mi_k13 fz13_212_5_218 [.int (x5 + 1), .int 2, .int 0, .int 7, .int x1, .ref 94, .int vg11] (by rfl) ?_ | refine ft_go mi_k13 5 218 [(8, .int vg11), (7, .int 50), (6, .int 4), (0, .ref 94), (1, .int x1), (2, .int 7), (3, .int 2), (4, .int x4), (5, .int x5)] [.int (x5 + 1), .int 2, .int 0, .int 7, .int x1, .ref 94, .int vg11] ig11 ag11 qg11 rg11 (by rfl) ?_
      refine ko_callI mi_k13.1 (pc := 218) (ls := [(8, .int vg11), (7, .int 50), (6, .int 4), (0, .ref 94), (1, .int x1), (2, .int 7), (3, .int 2), (4, .int x4), (5, .int x5)]) (st := [.int (x5 + 1), .int 2, .int 0, .int 7, .int x1, .ref 94, .int vg11]) (h := ks ig11 ag11 qg11 rg11) (i := (.invokevirtual 35, 3, 13, 0, 9, 0, 297)) (mi_k13.2 _ _ (by rfl)) (ft_invS mi_pq13 (by rfl)) (cy := mi_c13) mi_pq13 rfl (kc13_94_l17_l20_K7 hGg11.I hGg11.R x1 2 (x5 + 1) (oz1339 hp0.1 hp0.2) (oz1496 hp1 r13.2 u14) (oz1372 hp2.1 hp2.2 s10 kn1) (oz1453 c6 hp3.2 s7 z12 kn24 kn1)) (by decide) ?_
      intro vg15 ig15 ag15 qg15 rg15 kg15 hg15
      have hGg15 := kG_call hGg11 kg15 (by decide +kernel)
      have z16 : (ig15 6019).toInt = ((ig11 6019).toInt + 2) := hg15
      have b17 : ((-2147483648 : Int) ≤ vg11.toInt) ∧ (vg11.toInt ≤ 2147483647) := kd_bd vg11
      have b18 : ((-2147483648 : Int) ≤ vg15.toInt) ∧ (vg15.toInt ≤ 2147483647) := kd_bd vg15
      first | refine ft_goS mi_k13 1 222 [.int (vg11 - vg15)] (by rfl) ?_ | refine ft_go mi_k13 1 222 [(8, .int vg11), (7, .int 50), (6, .int 4), (0, .ref 94), (1, .int x1), (2, .int 7), (3, .int 2), (4, .int x4), (5, .int x5)] [.int (vg11 - vg15)] ig15 ag15 qg15 rg15 (by rfl) ?_
      exact ft_ret mi_k13 (by rfl) (hP (vg11 - vg15) _ _ _ _ hGg15 (oz1454 s7 z12 z16 kn1))
    ·
      have c19 : (i 6019).toInt < (24 : Int32).toInt := kd_leF c; clear c
      first | refine fo_goS mi_k13 fz13_37_5_47 [.int 50, .int (i 6019), .ref 96] (by rfl) ?_ | refine ft_go mi_k13 5 47 [(7, .int 50), (6, .int 4), (0, .ref 94), (1, .int x1), (2, .int 7), (3, .int 2), (4, .int x4), (5, .int x5)] [.int 50, .int (i 6019), .ref 96] i a q r (by rfl) ?_
      refine ko_iast3 mi_k13.1 (n := 24) (c := 24) (ax := (0, 0, 0, 0, 0)) (mi_k13.2 _ _ (by rfl)) (by rfl) (ksG96 _ _ _ _) (ksA96 _ _ _ _) (hG.I.2.1 96) rfl (oz3 fi_6019.1) (oz1343 c19 kn24) ?_
      intro a20 ea20 fa20
      have hJ20 := kG_a3 hG 96 rfl ea20 fa20 (kd_bd _)
      have s21 : ((i 6019) + 1).toInt = (i 6019).toInt + (1 : Int32).toInt := kd_add (oz12 fi_6019.1 kn1) (oz951 fi_6019.2 kn1)
      have hJ22 := kG_i hJ20 6019 rfl (v := ((i 6019) + 1)) ⟨(oz14 fi_6019.1 s21 kn1), (oz1365 hp3.2 s21 kn1)⟩
      first | refine ft_goI mi_k13 12 83 [.int 4, .ref (mi_RO + 4), .int x1, .ref 94] (ku i 6019 ((i 6019) + 1)) (by rfl) ?_ | refine ft_go mi_k13 12 83 [(7, .int 50), (6, .int 4), (0, .ref 94), (1, .int x1), (2, .int 7), (3, .int 2), (4, .int x4), (5, .int x5)] [.int 4, .ref (mi_RO + 4), .int x1, .ref 94] (ku i 6019 ((i 6019) + 1)) a20 q r (by rfl) ?_
      refine ft_ro mi_k13 (w := 1) (by decide +kernel) (by decide +kernel) ?_
      have s24 : (x5 + 1).toInt = x5.toInt + (1 : Int32).toInt := kd_add (oz12 hp2.1 kn1) (oz1366 hp2.2 kn1)
      first | refine ft_goS mi_k13 8 105 [.int (x5 + 1), .int x4, .int 2, .int 1, .int x1, .ref 94] (by rfl) ?_ | refine ft_go mi_k13 8 105 [(7, .int 50), (6, .int 4), (0, .ref 94), (1, .int x1), (2, .int 7), (3, .int 2), (4, .int x4), (5, .int x5)] [.int (x5 + 1), .int x4, .int 2, .int 1, .int x1, .ref 94] (ku i 6019 ((i 6019) + 1)) a20 q r (by rfl) ?_
      have r25 : ((0 : Int) ≤ ((a20 95).getD x1.toNatClampNeg 0).toInt) ∧ (((a20 95).getD x1.toNatClampNeg 0).toInt ≤ 7) := hJ22.I.2.2.1 95 (x1.toNatClampNeg)
      have u26 : ((a20 95).getD x1.toNatClampNeg 0).toInt = ((a 95).getD x1.toNatClampNeg 0).toInt := congrArg (fun z : List Int32 => (z.getD x1.toNatClampNeg 0).toInt) (fa20 95 (by decide))
      refine ko_callI mi_k13.1 (pc := 105) (ls := [(7, .int 50), (6, .int 4), (0, .ref 94), (1, .int x1), (2, .int 7), (3, .int 2), (4, .int x4), (5, .int x5)]) (st := [.int (x5 + 1), .int x4, .int 2, .int 1, .int x1, .ref 94]) (h := ks (ku i 6019 ((i 6019) + 1)) a20 q r) (i := (.invokevirtual 35, 3, 13, 0, 9, 0, 297)) (mi_k13.2 _ _ (by rfl)) (ft_invS mi_pq13 (by rfl)) (cy := mi_c13) mi_pq13 rfl (kc13_94_l11_l22_K7 hJ22.I hJ22.R x1 x4 (x5 + 1) (oz1339 hp0.1 hp0.2) (oz1496 hp1 r25.2 u26) (oz1451 hp2.1 hp2.2 s24 kn1) (oz1455 fi_6019.1 hp3.2 s21 kn1)) (by decide) ?_
      intro vg27 ig27 ag27 qg27 rg27 kg27 hg27
      have hGg27 := kG_call hJ22 kg27 (by decide +kernel)
      have fig27_6019 : ((0 : Int) ≤ (ig27 6019).toInt) ∧ ((ig27 6019).toInt ≤ 1000) := hGg27.I.1 6019
      have z28 : (ig27 6019).toInt = (((i 6019) + 1).toInt + 1) := hg27
      first | refine ft_goL mi_k13 9 211 [(8, .int vg27), (7, .int 50), (6, .int 4), (0, .ref 94), (1, .int x1), (2, .int 7), (3, .int 2), (4, .int x4), (5, .int x5)] [.int x1, .ref 95, .int x1, .ref 94, .int vg27] (by rfl) ?_ | refine ft_go mi_k13 9 211 [(8, .int vg27), (7, .int 50), (6, .int 4), (0, .ref 94), (1, .int x1), (2, .int 7), (3, .int 2), (4, .int x4), (5, .int x5)] [.int x1, .ref 95, .int x1, .ref 94, .int vg27] ig27 ag27 qg27 rg27 (by rfl) ?_
      refine ko_iald3 mi_k13.1 (n := 50) (c := 50) (ax := (0, 0, 0, 0, 0)) (mi_k13.2 _ _ (by rfl)) (by rfl) (ksG95 _ _ _ _) (hGg27.I.2.1 95) rfl (oz3 hp0.1) (oz1336 hp0.2) ?_
      have r29 : ((0 : Int) ≤ ((ag27 95).getD x1.toNatClampNeg 0).toInt) ∧ (((ag27 95).getD x1.toNatClampNeg 0).toInt ≤ 7) := hGg27.I.2.2.1 95 (x1.toNatClampNeg)
      have u30 : ((ag27 95).getD x1.toNatClampNeg 0).toInt = ((a20 95).getD x1.toNatClampNeg 0).toInt := congrArg (fun z : List Int32 => (z.getD x1.toNatClampNeg 0).toInt) (kg27.fa 95 rfl)
      refine ko_top (kj_eq (oz1504 hp1 r29.2 u26 u30) (by decide) : ((ag27 95).getD x1.toNatClampNeg 0) = 7) ?_
      first | refine fo_goS mi_k13 fz13_212_5_218 [.int (x5 + 1), .int 2, .int 0, .int 7, .int x1, .ref 94, .int vg27] (by rfl) ?_ | refine ft_go mi_k13 5 218 [(8, .int vg27), (7, .int 50), (6, .int 4), (0, .ref 94), (1, .int x1), (2, .int 7), (3, .int 2), (4, .int x4), (5, .int x5)] [.int (x5 + 1), .int 2, .int 0, .int 7, .int x1, .ref 94, .int vg27] ig27 ag27 qg27 rg27 (by rfl) ?_
      refine ko_callI mi_k13.1 (pc := 218) (ls := [(8, .int vg27), (7, .int 50), (6, .int 4), (0, .ref 94), (1, .int x1), (2, .int 7), (3, .int 2), (4, .int x4), (5, .int x5)]) (st := [.int (x5 + 1), .int 2, .int 0, .int 7, .int x1, .ref 94, .int vg27]) (h := ks ig27 ag27 qg27 rg27) (i := (.invokevirtual 35, 3, 13, 0, 9, 0, 297)) (mi_k13.2 _ _ (by rfl)) (ft_invS mi_pq13 (by rfl)) (cy := mi_c13) mi_pq13 rfl (kc13_94_l17_l20_K7 hGg27.I hGg27.R x1 2 (x5 + 1) (oz1339 hp0.1 hp0.2) (oz1504 hp1 r29.2 u26 u30) (oz1372 hp2.1 hp2.2 s24 kn1) (oz1457 fig27_6019.1 hp3.2 s21 z28 kn1)) (by decide) ?_
      intro vg31 ig31 ag31 qg31 rg31 kg31 hg31
      have hGg31 := kG_call hGg27 kg31 (by decide +kernel)
      have z32 : (ig31 6019).toInt = ((ig27 6019).toInt + 2) := hg31
      have b33 : ((-2147483648 : Int) ≤ vg27.toInt) ∧ (vg27.toInt ≤ 2147483647) := kd_bd vg27
      have b34 : ((-2147483648 : Int) ≤ vg31.toInt) ∧ (vg31.toInt ≤ 2147483647) := kd_bd vg31
      first | refine ft_goS mi_k13 1 222 [.int (vg27 - vg31)] (by rfl) ?_ | refine ft_go mi_k13 1 222 [(8, .int vg27), (7, .int 50), (6, .int 4), (0, .ref 94), (1, .int x1), (2, .int 7), (3, .int 2), (4, .int x4), (5, .int x5)] [.int (vg27 - vg31)] ig31 ag31 qg31 rg31 (by rfl) ?_
      exact ft_ret mi_k13 (by rfl) (hP (vg27 - vg31) _ _ _ _ hGg31 (oz1454 s21 z28 z32 kn1))
  ·
    have c35 : (40 : Int32).toInt ≤ x5.toInt := kd_ltF c; clear c
    exact (oz1376 c35 hp2.2 kn40).elim
def w13_94_l17_l21_K7 : kW := ([6019], [96], [], [])
set_option maxRecDepth 100000 in
theorem kc13_94_l17_l21_K7 {i : Nat → Int32} {a : Nat → List Int32} {q : Nat → List Int64} {r : Nat → Nat} (hI : kI i a q) (hr : kr r) (x1 : Int32) (x4 : Int32) (x5 : Int32) (hp0 : ((0 : Int) ≤ x1.toInt) ∧ (x1.toInt ≤ 49)) (hp1 : ((a 95).getD x1.toNatClampNeg 0).toInt = 7) (hp2 : ((0 : Int) ≤ x5.toInt) ∧ ((x5.toInt + 4) ≤ 39)) (hp3 : ((0 : Int) ≤ (i 6019).toInt) ∧ (((i 6019).toInt + 8) ≤ 900)) : km 11 13 [.ref 94, .int x1, .int 7, .int 1, .int x4, .int x5] (ks i a q r) (kVI w13_94_l17_l21_K7 i a q r (fun v i1 a1 q1 r1 => (i1 6019).toInt = ((i 6019).toInt + 8))) := by
  have hG := kG_self w13_94_l17_l21_K7 hI hr
  refine km_ofI (q := (mi_h13, mi_c13)) rfl (by decide) (Nat.le_of_ble_eq_true rfl) ?_
  intro P hP
  have r1 : ((0 : Int) ≤ ((a 95).getD x1.toNatClampNeg 0).toInt) ∧ (((a 95).getD x1.toNatClampNeg 0).toInt ≤ 7) := hG.I.2.2.1 95 (x1.toNatClampNeg)
  have fi_6019 : ((0 : Int) ≤ (i 6019).toInt) ∧ ((i 6019).toInt ≤ 1000) := hG.I.1 6019
  first | refine fo_goL mi_k13 fz13_0_2_4 [(0, .ref 94), (1, .int x1), (2, .int 7), (3, .int 1), (4, .int x4), (5, .int x5)] [.int 40, .int x5] (by rfl) ?_ | refine ft_go mi_k13 2 4 [(0, .ref 94), (1, .int x1), (2, .int 7), (3, .int 1), (4, .int x4), (5, .int x5)] [.int 40, .int x5] i a q r (by rfl) ?_
  refine ft_ifS mi_k13 (decide (x5 < 40)) 9 7 [] (by rfl) (fun c => ?_) (fun c => ?_)
  ·
    have c2 : x5.toInt < (40 : Int32).toInt := kd_lt c; clear c
    first | refine fo_goS mi_k13 fz13_9_2_11 [.int 1, .int 7] (by rfl) ?_ | refine ft_go mi_k13 2 11 [(0, .ref 94), (1, .int x1), (2, .int 7), (3, .int 1), (4, .int x4), (5, .int x5)] [.int 1, .int 7] i a q r (by rfl) ?_
    refine ko_callPI mi_k13.1 (pc := 11) (ls := [(0, .ref 94), (1, .int x1), (2, .int 7), (3, .int 1), (4, .int x4), (5, .int x5)]) (st := [.int 1, .int 7]) (h := ks i a q r) (i := (.invokestatic 39, 3, 11, 0, 9, 0, 298)) (mi_k13.2 _ _ (by rfl)) (ft_invS mi_pq11 (by rfl)) (cy := mi_c11) mi_pq11 rfl (kc11_l07_l11 hG.I hG.R ) (by decide) ?_
    intro vg3 hg3
    have z4 : vg3.toInt = 7 := hg3
    have evvg3 := kj_eq (oz1500 z4) (by decide : (7 : Int32).toInt = 7)
    subst evvg3
    first | refine ft_goL mi_k13 5 23 [(6, .int 7), (0, .ref 94), (1, .int x1), (2, .int 7), (3, .int 1), (4, .int x4), (5, .int x5)] [.int (7 * 4), .ref (mi_RO + 3)] (by rfl) ?_ | refine ft_go mi_k13 5 23 [(6, .int 7), (0, .ref 94), (1, .int x1), (2, .int 7), (3, .int 1), (4, .int x4), (5, .int x5)] [.int (7 * 4), .ref (mi_RO + 3)] i a q r (by rfl) ?_
    refine ko_top (by decide : (7 * 4 : Int32) = 28) ?_
    first | refine fo_goS mi_k13 fz13_23_2_25 [.int (28 + 1), .ref (mi_RO + 3)] (by rfl) ?_ | refine ft_go mi_k13 2 25 [(6, .int 7), (0, .ref 94), (1, .int x1), (2, .int 7), (3, .int 1), (4, .int x4), (5, .int x5)] [.int (28 + 1), .ref (mi_RO + 3)] i a q r (by rfl) ?_
    refine ko_top (by decide : (28 + 1 : Int32) = 29) ?_
    refine ft_ro mi_k13 (w := 80) (by decide +kernel) (by decide +kernel) ?_
    first | refine fo_goL mi_k13 fz13_26_4_34 [(7, .int 80), (6, .int 7), (0, .ref 94), (1, .int x1), (2, .int 7), (3, .int 1), (4, .int x4), (5, .int x5)] [.int 24, .int (i 6019)] (by rfl) ?_ | refine ft_go mi_k13 4 34 [(7, .int 80), (6, .int 7), (0, .ref 94), (1, .int x1), (2, .int 7), (3, .int 1), (4, .int x4), (5, .int x5)] [.int 24, .int (i 6019)] i a q r (by rfl) ?_
    refine ft_ifS mi_k13 (decide (24 ≤ (i 6019))) 48 37 [] (by rfl) (fun c => ?_) (fun c => ?_)
    ·
      have c6 : (24 : Int32).toInt ≤ (i 6019).toInt := kd_le c; clear c
      have s7 : ((i 6019) + 1).toInt = (i 6019).toInt + (1 : Int32).toInt := kd_add (oz1332 c6 kn24 kn1) (oz951 fi_6019.2 kn1)
      have hJ8 := kG_i hG 6019 rfl (v := ((i 6019) + 1)) ⟨(oz1333 c6 s7 kn24 kn1), (oz1459 hp3.2 s7 kn1)⟩
      first | refine ft_goI mi_k13 12 83 [.int 7, .ref (mi_RO + 4), .int x1, .ref 94] (ku i 6019 ((i 6019) + 1)) (by rfl) ?_ | refine ft_go mi_k13 12 83 [(7, .int 80), (6, .int 7), (0, .ref 94), (1, .int x1), (2, .int 7), (3, .int 1), (4, .int x4), (5, .int x5)] [.int 7, .ref (mi_RO + 4), .int x1, .ref 94] (ku i 6019 ((i 6019) + 1)) a q r (by rfl) ?_
      refine ft_ro mi_k13 (w := 4) (by decide +kernel) (by decide +kernel) ?_
      have s10 : (x5 + 1).toInt = x5.toInt + (1 : Int32).toInt := kd_add (oz12 hp2.1 kn1) (oz1395 hp2.2 kn1)
      first | refine ft_goS mi_k13 8 105 [.int (x5 + 1), .int x4, .int 1, .int 4, .int x1, .ref 94] (by rfl) ?_ | refine ft_go mi_k13 8 105 [(7, .int 80), (6, .int 7), (0, .ref 94), (1, .int x1), (2, .int 7), (3, .int 1), (4, .int x4), (5, .int x5)] [.int (x5 + 1), .int x4, .int 1, .int 4, .int x1, .ref 94] (ku i 6019 ((i 6019) + 1)) a q r (by rfl) ?_
      refine ko_callI mi_k13.1 (pc := 105) (ls := [(7, .int 80), (6, .int 7), (0, .ref 94), (1, .int x1), (2, .int 7), (3, .int 1), (4, .int x4), (5, .int x5)]) (st := [.int (x5 + 1), .int x4, .int 1, .int 4, .int x1, .ref 94]) (h := ks (ku i 6019 ((i 6019) + 1)) a q r) (i := (.invokevirtual 35, 3, 13, 0, 9, 0, 297)) (mi_k13.2 _ _ (by rfl)) (ft_invS mi_pq13 (by rfl)) (cy := mi_c13) mi_pq13 rfl (kc13_94_l14_l21_K7 hJ8.I hJ8.R x1 x4 (x5 + 1) (oz1339 hp0.1 hp0.2) (oz1495 hp1 r1.2) (oz1401 hp2.1 hp2.2 s10 kn1) (oz1501 c6 hp3.2 s7 kn24 kn1)) (by decide) ?_
      intro vg11 ig11 ag11 qg11 rg11 kg11 hg11
      have hGg11 := kG_call hJ8 kg11 (by decide +kernel)
      have z12 : (ig11 6019).toInt = (((i 6019) + 1).toInt + 3) := hg11
      first | refine ft_goL mi_k13 9 242 [(8, .int vg11), (7, .int 80), (6, .int 7), (0, .ref 94), (1, .int x1), (2, .int 7), (3, .int 1), (4, .int x4), (5, .int x5)] [.int x1, .ref 95, .int x1, .ref 94, .int vg11] (by rfl) ?_ | refine ft_go mi_k13 9 242 [(8, .int vg11), (7, .int 80), (6, .int 7), (0, .ref 94), (1, .int x1), (2, .int 7), (3, .int 1), (4, .int x4), (5, .int x5)] [.int x1, .ref 95, .int x1, .ref 94, .int vg11] ig11 ag11 qg11 rg11 (by rfl) ?_
      refine ko_iald3 mi_k13.1 (n := 50) (c := 50) (ax := (0, 0, 0, 0, 0)) (mi_k13.2 _ _ (by rfl)) (by rfl) (ksG95 _ _ _ _) (hGg11.I.2.1 95) rfl (oz3 hp0.1) (oz1336 hp0.2) ?_
      have r13 : ((0 : Int) ≤ ((ag11 95).getD x1.toNatClampNeg 0).toInt) ∧ (((ag11 95).getD x1.toNatClampNeg 0).toInt ≤ 7) := hGg11.I.2.2.1 95 (x1.toNatClampNeg)
      have u14 : ((ag11 95).getD x1.toNatClampNeg 0).toInt = ((a 95).getD x1.toNatClampNeg 0).toInt := congrArg (fun z : List Int32 => (z.getD x1.toNatClampNeg 0).toInt) (kg11.fa 95 rfl)
      refine ko_top (kj_eq (oz1496 hp1 r13.2 u14) (by decide) : ((ag11 95).getD x1.toNatClampNeg 0) = 7) ?_
      first | refine fo_goS mi_k13 fz13_243_5_249 [.int (x5 + 1), .int 2, .int 2, .int 7, .int x1, .ref 94, .int vg11] (by rfl) ?_ | refine ft_go mi_k13 5 249 [(8, .int vg11), (7, .int 80), (6, .int 7), (0, .ref 94), (1, .int x1), (2, .int 7), (3, .int 1), (4, .int x4), (5, .int x5)] [.int (x5 + 1), .int 2, .int 2, .int 7, .int x1, .ref 94, .int vg11] ig11 ag11 qg11 rg11 (by rfl) ?_
      refine ko_callI mi_k13.1 (pc := 249) (ls := [(8, .int vg11), (7, .int 80), (6, .int 7), (0, .ref 94), (1, .int x1), (2, .int 7), (3, .int 1), (4, .int x4), (5, .int x5)]) (st := [.int (x5 + 1), .int 2, .int 2, .int 7, .int x1, .ref 94, .int vg11]) (h := ks ig11 ag11 qg11 rg11) (i := (.invokevirtual 35, 3, 13, 0, 9, 0, 297)) (mi_k13.2 _ _ (by rfl)) (ft_invS mi_pq13 (by rfl)) (cy := mi_c13) mi_pq13 rfl (kc13_94_l17_l22_K7 hGg11.I hGg11.R x1 2 (x5 + 1) (oz1339 hp0.1 hp0.2) (oz1496 hp1 r13.2 u14) (oz1401 hp2.1 hp2.2 s10 kn1) (oz1505 c6 hp3.2 s7 z12 kn24 kn1)) (by decide) ?_
      intro vg15 ig15 ag15 qg15 rg15 kg15 hg15
      have hGg15 := kG_call hGg11 kg15 (by decide +kernel)
      have z16 : (ig15 6019).toInt = ((ig11 6019).toInt + 4) := hg15
      have b17 : ((-2147483648 : Int) ≤ vg11.toInt) ∧ (vg11.toInt ≤ 2147483647) := kd_bd vg11
      have b18 : ((-2147483648 : Int) ≤ vg15.toInt) ∧ (vg15.toInt ≤ 2147483647) := kd_bd vg15
      first | refine ft_goS mi_k13 1 253 [.int (vg11 + vg15)] (by rfl) ?_ | refine ft_go mi_k13 1 253 [(8, .int vg11), (7, .int 80), (6, .int 7), (0, .ref 94), (1, .int x1), (2, .int 7), (3, .int 1), (4, .int x4), (5, .int x5)] [.int (vg11 + vg15)] ig15 ag15 qg15 rg15 (by rfl) ?_
      exact ft_ret mi_k13 (by rfl) (hP (vg11 + vg15) _ _ _ _ hGg15 (oz1506 s7 z12 z16 kn1))
    ·
      have c19 : (i 6019).toInt < (24 : Int32).toInt := kd_leF c; clear c
      first | refine fo_goS mi_k13 fz13_37_5_47 [.int 80, .int (i 6019), .ref 96] (by rfl) ?_ | refine ft_go mi_k13 5 47 [(7, .int 80), (6, .int 7), (0, .ref 94), (1, .int x1), (2, .int 7), (3, .int 1), (4, .int x4), (5, .int x5)] [.int 80, .int (i 6019), .ref 96] i a q r (by rfl) ?_
      refine ko_iast3 mi_k13.1 (n := 24) (c := 24) (ax := (0, 0, 0, 0, 0)) (mi_k13.2 _ _ (by rfl)) (by rfl) (ksG96 _ _ _ _) (ksA96 _ _ _ _) (hG.I.2.1 96) rfl (oz3 fi_6019.1) (oz1343 c19 kn24) ?_
      intro a20 ea20 fa20
      have hJ20 := kG_a3 hG 96 rfl ea20 fa20 (kd_bd _)
      have s21 : ((i 6019) + 1).toInt = (i 6019).toInt + (1 : Int32).toInt := kd_add (oz12 fi_6019.1 kn1) (oz951 fi_6019.2 kn1)
      have hJ22 := kG_i hJ20 6019 rfl (v := ((i 6019) + 1)) ⟨(oz14 fi_6019.1 s21 kn1), (oz1459 hp3.2 s21 kn1)⟩
      first | refine ft_goI mi_k13 12 83 [.int 7, .ref (mi_RO + 4), .int x1, .ref 94] (ku i 6019 ((i 6019) + 1)) (by rfl) ?_ | refine ft_go mi_k13 12 83 [(7, .int 80), (6, .int 7), (0, .ref 94), (1, .int x1), (2, .int 7), (3, .int 1), (4, .int x4), (5, .int x5)] [.int 7, .ref (mi_RO + 4), .int x1, .ref 94] (ku i 6019 ((i 6019) + 1)) a20 q r (by rfl) ?_
      refine ft_ro mi_k13 (w := 4) (by decide +kernel) (by decide +kernel) ?_
      have s24 : (x5 + 1).toInt = x5.toInt + (1 : Int32).toInt := kd_add (oz12 hp2.1 kn1) (oz1395 hp2.2 kn1)
      first | refine ft_goS mi_k13 8 105 [.int (x5 + 1), .int x4, .int 1, .int 4, .int x1, .ref 94] (by rfl) ?_ | refine ft_go mi_k13 8 105 [(7, .int 80), (6, .int 7), (0, .ref 94), (1, .int x1), (2, .int 7), (3, .int 1), (4, .int x4), (5, .int x5)] [.int (x5 + 1), .int x4, .int 1, .int 4, .int x1, .ref 94] (ku i 6019 ((i 6019) + 1)) a20 q r (by rfl) ?_
      have r25 : ((0 : Int) ≤ ((a20 95).getD x1.toNatClampNeg 0).toInt) ∧ (((a20 95).getD x1.toNatClampNeg 0).toInt ≤ 7) := hJ22.I.2.2.1 95 (x1.toNatClampNeg)
      have u26 : ((a20 95).getD x1.toNatClampNeg 0).toInt = ((a 95).getD x1.toNatClampNeg 0).toInt := congrArg (fun z : List Int32 => (z.getD x1.toNatClampNeg 0).toInt) (fa20 95 (by decide))
      refine ko_callI mi_k13.1 (pc := 105) (ls := [(7, .int 80), (6, .int 7), (0, .ref 94), (1, .int x1), (2, .int 7), (3, .int 1), (4, .int x4), (5, .int x5)]) (st := [.int (x5 + 1), .int x4, .int 1, .int 4, .int x1, .ref 94]) (h := ks (ku i 6019 ((i 6019) + 1)) a20 q r) (i := (.invokevirtual 35, 3, 13, 0, 9, 0, 297)) (mi_k13.2 _ _ (by rfl)) (ft_invS mi_pq13 (by rfl)) (cy := mi_c13) mi_pq13 rfl (kc13_94_l14_l21_K7 hJ22.I hJ22.R x1 x4 (x5 + 1) (oz1339 hp0.1 hp0.2) (oz1496 hp1 r25.2 u26) (oz1401 hp2.1 hp2.2 s24 kn1) (oz1507 fi_6019.1 hp3.2 s21 kn1)) (by decide) ?_
      intro vg27 ig27 ag27 qg27 rg27 kg27 hg27
      have hGg27 := kG_call hJ22 kg27 (by decide +kernel)
      have fig27_6019 : ((0 : Int) ≤ (ig27 6019).toInt) ∧ ((ig27 6019).toInt ≤ 1000) := hGg27.I.1 6019
      have z28 : (ig27 6019).toInt = (((i 6019) + 1).toInt + 3) := hg27
      first | refine ft_goL mi_k13 9 242 [(8, .int vg27), (7, .int 80), (6, .int 7), (0, .ref 94), (1, .int x1), (2, .int 7), (3, .int 1), (4, .int x4), (5, .int x5)] [.int x1, .ref 95, .int x1, .ref 94, .int vg27] (by rfl) ?_ | refine ft_go mi_k13 9 242 [(8, .int vg27), (7, .int 80), (6, .int 7), (0, .ref 94), (1, .int x1), (2, .int 7), (3, .int 1), (4, .int x4), (5, .int x5)] [.int x1, .ref 95, .int x1, .ref 94, .int vg27] ig27 ag27 qg27 rg27 (by rfl) ?_
      refine ko_iald3 mi_k13.1 (n := 50) (c := 50) (ax := (0, 0, 0, 0, 0)) (mi_k13.2 _ _ (by rfl)) (by rfl) (ksG95 _ _ _ _) (hGg27.I.2.1 95) rfl (oz3 hp0.1) (oz1336 hp0.2) ?_
      have r29 : ((0 : Int) ≤ ((ag27 95).getD x1.toNatClampNeg 0).toInt) ∧ (((ag27 95).getD x1.toNatClampNeg 0).toInt ≤ 7) := hGg27.I.2.2.1 95 (x1.toNatClampNeg)
      have u30 : ((ag27 95).getD x1.toNatClampNeg 0).toInt = ((a20 95).getD x1.toNatClampNeg 0).toInt := congrArg (fun z : List Int32 => (z.getD x1.toNatClampNeg 0).toInt) (kg27.fa 95 rfl)
      refine ko_top (kj_eq (oz1504 hp1 r29.2 u26 u30) (by decide) : ((ag27 95).getD x1.toNatClampNeg 0) = 7) ?_
      first | refine fo_goS mi_k13 fz13_243_5_249 [.int (x5 + 1), .int 2, .int 2, .int 7, .int x1, .ref 94, .int vg27] (by rfl) ?_ | refine ft_go mi_k13 5 249 [(8, .int vg27), (7, .int 80), (6, .int 7), (0, .ref 94), (1, .int x1), (2, .int 7), (3, .int 1), (4, .int x4), (5, .int x5)] [.int (x5 + 1), .int 2, .int 2, .int 7, .int x1, .ref 94, .int vg27] ig27 ag27 qg27 rg27 (by rfl) ?_
      refine ko_callI mi_k13.1 (pc := 249) (ls := [(8, .int vg27), (7, .int 80), (6, .int 7), (0, .ref 94), (1, .int x1), (2, .int 7), (3, .int 1), (4, .int x4), (5, .int x5)]) (st := [.int (x5 + 1), .int 2, .int 2, .int 7, .int x1, .ref 94, .int vg27]) (h := ks ig27 ag27 qg27 rg27) (i := (.invokevirtual 35, 3, 13, 0, 9, 0, 297)) (mi_k13.2 _ _ (by rfl)) (ft_invS mi_pq13 (by rfl)) (cy := mi_c13) mi_pq13 rfl (kc13_94_l17_l22_K7 hGg27.I hGg27.R x1 2 (x5 + 1) (oz1339 hp0.1 hp0.2) (oz1504 hp1 r29.2 u26 u30) (oz1401 hp2.1 hp2.2 s24 kn1) (oz1508 fig27_6019.1 hp3.2 s21 z28 kn1)) (by decide) ?_
      intro vg31 ig31 ag31 qg31 rg31 kg31 hg31
      have hGg31 := kG_call hGg27 kg31 (by decide +kernel)
      have z32 : (ig31 6019).toInt = ((ig27 6019).toInt + 4) := hg31
      have b33 : ((-2147483648 : Int) ≤ vg27.toInt) ∧ (vg27.toInt ≤ 2147483647) := kd_bd vg27
      have b34 : ((-2147483648 : Int) ≤ vg31.toInt) ∧ (vg31.toInt ≤ 2147483647) := kd_bd vg31
      first | refine ft_goS mi_k13 1 253 [.int (vg27 + vg31)] (by rfl) ?_ | refine ft_go mi_k13 1 253 [(8, .int vg27), (7, .int 80), (6, .int 7), (0, .ref 94), (1, .int x1), (2, .int 7), (3, .int 1), (4, .int x4), (5, .int x5)] [.int (vg27 + vg31)] ig31 ag31 qg31 rg31 (by rfl) ?_
      exact ft_ret mi_k13 (by rfl) (hP (vg27 + vg31) _ _ _ _ hGg31 (oz1506 s21 z28 z32 kn1))
  ·
    have c35 : (40 : Int32).toInt ≤ x5.toInt := kd_ltF c; clear c
    exact (oz1405 c35 hp2.2 kn40).elim
set_option maxRecDepth 100000 in
theorem kc11_l07_l13 {i : Nat → Int32} {a : Nat → List Int32} {q : Nat → List Int64} {r : Nat → Nat} (hI : kI i a q) (hr : kr r)  : km 1 11 [.int 7, .int 3] (ks i a q r) (kPI (ks i a q r) (fun v => v.toInt = 7)) := by
  have hG := kG_self kW0 hI hr
  refine km_ofPI (q := (mi_h11, mi_c11)) rfl (by decide) (Nat.le_of_ble_eq_true rfl) ?_
  intro P hP
  first | refine ft_goL mi_k11 16 26 [(3, .int 0), (2, .int 7), (0, .int 7), (1, .int 3)] [.int (7 * 4), .ref (mi_RO + 3)] (by rfl) ?_ | refine ft_go mi_k11 16 26 [(3, .int 0), (2, .int 7), (0, .int 7), (1, .int 3)] [.int (7 * 4), .ref (mi_RO + 3)] i a q r (by rfl) ?_
  refine ko_top (by decide : (7 * 4 : Int32) = 28) ?_
  first | refine fo_goS mi_k11 fz11_26_2_28 [.int (28 + 3), .ref (mi_RO + 3)] (by rfl) ?_ | refine ft_go mi_k11 2 28 [(3, .int 0), (2, .int 7), (0, .int 7), (1, .int 3)] [.int (28 + 3), .ref (mi_RO + 3)] i a q r (by rfl) ?_
  refine ko_top (by decide : (28 + 3 : Int32) = 31) ?_
  refine ft_ro mi_k11 (w := 81) (by decide +kernel) (by decide +kernel) ?_
  first | refine fo_goS mi_k11 fz11_29_2_33 [.int 7] (by rfl) ?_ | refine ft_go mi_k11 2 33 [(3, .int 0), (2, .int 7), (0, .int 7), (1, .int 3)] [.int 7] i a q r (by rfl) ?_
  exact ft_ret mi_k11 (by rfl) (hP 7 (oz1500 kn7))
def w14_94_l13_K7 : kW := ([6019], [96], [], [])
set_option maxRecDepth 100000 in
theorem kc14_94_l13_K7 {i : Nat → Int32} {a : Nat → List Int32} {q : Nat → List Int64} {r : Nat → Nat} (hI : kI i a q) (hr : kr r) (x1 : Int32) (x3 : Int32) (x4 : Int32) (hp0 : ((0 : Int) ≤ x1.toInt) ∧ (x1.toInt ≤ 49)) (hp1 : ((a 95).getD x1.toNatClampNeg 0).toInt = 7) (hp2 : ((0 : Int) ≤ x4.toInt) ∧ ((x4.toInt + 4) ≤ 39)) (hp3 : ((0 : Int) ≤ (i 6019).toInt) ∧ (((i 6019).toInt + 12) ≤ 900)) : km 13 14 [.ref 94, .int x1, .int 3, .int x3, .int x4] (ks i a q r) (kVI w14_94_l13_K7 i a q r (fun v i1 a1 q1 r1 => (i1 6019).toInt = ((i 6019).toInt + 12))) := by
  have hG := kG_self w14_94_l13_K7 hI hr
  refine km_ofI (q := (mi_h14, mi_c14)) rfl (by decide) (Nat.le_of_ble_eq_true rfl) ?_
  intro P hP
  have r1 : ((0 : Int) ≤ ((a 95).getD x1.toNatClampNeg 0).toInt) ∧ (((a 95).getD x1.toNatClampNeg 0).toInt ≤ 7) := hG.I.2.2.1 95 (x1.toNatClampNeg)
  have fi_6019 : ((0 : Int) ≤ (i 6019).toInt) ∧ ((i 6019).toInt ≤ 1000) := hG.I.1 6019
  first | refine fo_goL mi_k14 fz14_0_3_5 [(0, .ref 94), (1, .int x1), (2, .int 3), (3, .int x3), (4, .int x4)] [.int x1, .ref 95] (by rfl) ?_ | refine ft_go mi_k14 3 5 [(0, .ref 94), (1, .int x1), (2, .int 3), (3, .int x3), (4, .int x4)] [.int x1, .ref 95] i a q r (by rfl) ?_
  refine ko_iald3 mi_k14.1 (n := 50) (c := 50) (ax := (0, 0, 0, 0, 0)) (mi_k14.2 _ _ (by rfl)) (by rfl) (ksG95 _ _ _ _) (hG.I.2.1 95) rfl (oz3 hp0.1) (oz1336 hp0.2) ?_
  refine ko_top (kj_eq (oz1495 hp1 r1.2) (by decide) : ((a 95).getD x1.toNatClampNeg 0) = 7) ?_
  first | refine ft_goL mi_k14 9 66 [(5, .int 7), (0, .ref 94), (1, .int x1), (2, .int 3), (3, .int x3), (4, .int x4)] [.int x4, .int x3, .int 1, .int 7, .int x1, .ref 94] (by rfl) ?_ | refine ft_go mi_k14 9 66 [(5, .int 7), (0, .ref 94), (1, .int x1), (2, .int 3), (3, .int x3), (4, .int x4)] [.int x4, .int x3, .int 1, .int 7, .int x1, .ref 94] i a q r (by rfl) ?_
  refine ko_callI mi_k14.1 (pc := 66) (ls := [(5, .int 7), (0, .ref 94), (1, .int x1), (2, .int 3), (3, .int x3), (4, .int x4)]) (st := [.int x4, .int x3, .int 1, .int 7, .int x1, .ref 94]) (h := ks i a q r) (i := (.invokevirtual 35, 3, 13, 0, 9, 0, 297)) (mi_k14.2 _ _ (by rfl)) (ft_invS mi_pq13 (by rfl)) (cy := mi_c13) mi_pq13 rfl (kc13_94_l17_l21_K7 hG.I hG.R x1 x3 x4 (oz1339 hp0.1 hp0.2) (oz1495 hp1 r1.2) (oz1431 hp2.1 hp2.2) (oz1513 fi_6019.1 hp3.2)) (by decide) ?_
  intro vg2 ig2 ag2 qg2 rg2 kg2 hg2
  have hGg2 := kG_call hG kg2 (by decide +kernel)
  have fig2_6019 : ((0 : Int) ≤ (ig2 6019).toInt) ∧ ((ig2 6019).toInt ≤ 1000) := hGg2.I.1 6019
  have z3 : (ig2 6019).toInt = ((i 6019).toInt + 8) := hg2
  first | refine fo_goL mi_k14 fz14_69_8_81 [(6, .int vg2), (5, .int 7), (0, .ref 94), (1, .int x1), (2, .int 3), (3, .int x3), (4, .int x4)] [.int x4, .int 1, .int 2, .int 7, .int x1, .ref 94, .int vg2] (by rfl) ?_ | refine ft_go mi_k14 8 81 [(6, .int vg2), (5, .int 7), (0, .ref 94), (1, .int x1), (2, .int 3), (3, .int x3), (4, .int x4)] [.int x4, .int 1, .int 2, .int 7, .int x1, .ref 94, .int vg2] ig2 ag2 qg2 rg2 (by rfl) ?_
  have r4 : ((0 : Int) ≤ ((ag2 95).getD x1.toNatClampNeg 0).toInt) ∧ (((ag2 95).getD x1.toNatClampNeg 0).toInt ≤ 7) := hGg2.I.2.2.1 95 (x1.toNatClampNeg)
  have u5 : ((ag2 95).getD x1.toNatClampNeg 0).toInt = ((a 95).getD x1.toNatClampNeg 0).toInt := congrArg (fun z : List Int32 => (z.getD x1.toNatClampNeg 0).toInt) (kg2.fa 95 rfl)
  refine ko_callI mi_k14.1 (pc := 81) (ls := [(6, .int vg2), (5, .int 7), (0, .ref 94), (1, .int x1), (2, .int 3), (3, .int x3), (4, .int x4)]) (st := [.int x4, .int 1, .int 2, .int 7, .int x1, .ref 94, .int vg2]) (h := ks ig2 ag2 qg2 rg2) (i := (.invokevirtual 35, 3, 13, 0, 9, 0, 297)) (mi_k14.2 _ _ (by rfl)) (ft_invS mi_pq13 (by rfl)) (cy := mi_c13) mi_pq13 rfl (kc13_94_l17_l22_K7 hGg2.I hGg2.R x1 1 x4 (oz1339 hp0.1 hp0.2) (oz1496 hp1 r4.2 u5) (oz1514 hp2.1 hp2.2) (oz1515 fig2_6019.1 hp3.2 z3)) (by decide) ?_
  intro vg6 ig6 ag6 qg6 rg6 kg6 hg6
  have hGg6 := kG_call hGg2 kg6 (by decide +kernel)
  have z7 : (ig6 6019).toInt = ((ig2 6019).toInt + 4) := hg6
  have b8 : ((-2147483648 : Int) ≤ vg2.toInt) ∧ (vg2.toInt ≤ 2147483647) := kd_bd vg2
  have b9 : ((-2147483648 : Int) ≤ vg6.toInt) ∧ (vg6.toInt ≤ 2147483647) := kd_bd vg6
  first | refine fo_goS mi_k14 fz14_84_1_85 [.int (vg2 - vg6)] (by rfl) ?_ | refine ft_go mi_k14 1 85 [(6, .int vg2), (5, .int 7), (0, .ref 94), (1, .int x1), (2, .int 3), (3, .int x3), (4, .int x4)] [.int (vg2 - vg6)] ig6 ag6 qg6 rg6 (by rfl) ?_
  exact ft_ret mi_k14 (by rfl) (hP (vg2 - vg6) _ _ _ _ hGg6 (oz1516 z3 z7))
def w13_94_l14_l23_K7 : kW := ([6019], [96], [], [])
set_option maxRecDepth 100000 in
theorem kc13_94_l14_l23_K7 {i : Nat → Int32} {a : Nat → List Int32} {q : Nat → List Int64} {r : Nat → Nat} (hI : kI i a q) (hr : kr r) (x1 : Int32) (x4 : Int32) (x5 : Int32) (hp0 : ((0 : Int) ≤ x1.toInt) ∧ (x1.toInt ≤ 49)) (hp1 : ((a 95).getD x1.toNatClampNeg 0).toInt = 7) (hp2 : ((0 : Int) ≤ x5.toInt) ∧ ((x5.toInt + 5) ≤ 39)) (hp3 : ((0 : Int) ≤ (i 6019).toInt) ∧ (((i 6019).toInt + 13) ≤ 900)) : km 15 13 [.ref 94, .int x1, .int 4, .int 3, .int x4, .int x5] (ks i a q r) (kVI w13_94_l14_l23_K7 i a q r (fun v i1 a1 q1 r1 => (i1 6019).toInt = ((i 6019).toInt + 13))) := by
  have hG := kG_self w13_94_l14_l23_K7 hI hr
  refine km_ofI (q := (mi_h13, mi_c13)) rfl (by decide) (Nat.le_of_ble_eq_true rfl) ?_
  intro P hP
  have r1 : ((0 : Int) ≤ ((a 95).getD x1.toNatClampNeg 0).toInt) ∧ (((a 95).getD x1.toNatClampNeg 0).toInt ≤ 7) := hG.I.2.2.1 95 (x1.toNatClampNeg)
  have fi_6019 : ((0 : Int) ≤ (i 6019).toInt) ∧ ((i 6019).toInt ≤ 1000) := hG.I.1 6019
  first | refine fo_goL mi_k13 fz13_0_2_4 [(0, .ref 94), (1, .int x1), (2, .int 4), (3, .int 3), (4, .int x4), (5, .int x5)] [.int 40, .int x5] (by rfl) ?_ | refine ft_go mi_k13 2 4 [(0, .ref 94), (1, .int x1), (2, .int 4), (3, .int 3), (4, .int x4), (5, .int x5)] [.int 40, .int x5] i a q r (by rfl) ?_
  refine ft_ifS mi_k13 (decide (x5 < 40)) 9 7 [] (by rfl) (fun c => ?_) (fun c => ?_)
  ·
    have c2 : x5.toInt < (40 : Int32).toInt := kd_lt c; clear c
    first | refine fo_goS mi_k13 fz13_9_2_11 [.int 3, .int 4] (by rfl) ?_ | refine ft_go mi_k13 2 11 [(0, .ref 94), (1, .int x1), (2, .int 4), (3, .int 3), (4, .int x4), (5, .int x5)] [.int 3, .int 4] i a q r (by rfl) ?_
    refine ko_callPI mi_k13.1 (pc := 11) (ls := [(0, .ref 94), (1, .int x1), (2, .int 4), (3, .int 3), (4, .int x4), (5, .int x5)]) (st := [.int 3, .int 4]) (h := ks i a q r) (i := (.invokestatic 39, 3, 11, 0, 9, 0, 298)) (mi_k13.2 _ _ (by rfl)) (ft_invS mi_pq11 (by rfl)) (cy := mi_c11) mi_pq11 rfl (kc11_l04_l13 hG.I hG.R ) (by decide) ?_
    intro vg3 hg3
    have z4 : vg3.toInt = 0 := hg3
    have evvg3 := kj_eq (oz236 z4) (by decide : (0 : Int32).toInt = 0)
    subst evvg3
    first | refine ft_goL mi_k13 5 23 [(6, .int 0), (0, .ref 94), (1, .int x1), (2, .int 4), (3, .int 3), (4, .int x4), (5, .int x5)] [.int (0 * 4), .ref (mi_RO + 3)] (by rfl) ?_ | refine ft_go mi_k13 5 23 [(6, .int 0), (0, .ref 94), (1, .int x1), (2, .int 4), (3, .int 3), (4, .int x4), (5, .int x5)] [.int (0 * 4), .ref (mi_RO + 3)] i a q r (by rfl) ?_
    refine ko_top (by decide : (0 * 4 : Int32) = 0) ?_
    first | refine fo_goS mi_k13 fz13_23_2_25 [.int (0 + 3), .ref (mi_RO + 3)] (by rfl) ?_ | refine ft_go mi_k13 2 25 [(6, .int 0), (0, .ref 94), (1, .int x1), (2, .int 4), (3, .int 3), (4, .int x4), (5, .int x5)] [.int (0 + 3), .ref (mi_RO + 3)] i a q r (by rfl) ?_
    refine ko_top (by decide : (0 + 3 : Int32) = 3) ?_
    refine ft_ro mi_k13 (w := 2) (by decide +kernel) (by decide +kernel) ?_
    first | refine fo_goL mi_k13 fz13_26_4_34 [(7, .int 2), (6, .int 0), (0, .ref 94), (1, .int x1), (2, .int 4), (3, .int 3), (4, .int x4), (5, .int x5)] [.int 24, .int (i 6019)] (by rfl) ?_ | refine ft_go mi_k13 4 34 [(7, .int 2), (6, .int 0), (0, .ref 94), (1, .int x1), (2, .int 4), (3, .int 3), (4, .int x4), (5, .int x5)] [.int 24, .int (i 6019)] i a q r (by rfl) ?_
    refine ft_ifS mi_k13 (decide (24 ≤ (i 6019))) 48 37 [] (by rfl) (fun c => ?_) (fun c => ?_)
    ·
      have c6 : (24 : Int32).toInt ≤ (i 6019).toInt := kd_le c; clear c
      have s7 : ((i 6019) + 1).toInt = (i 6019).toInt + (1 : Int32).toInt := kd_add (oz1332 c6 kn24 kn1) (oz951 fi_6019.2 kn1)
      have hJ8 := kG_i hG 6019 rfl (v := ((i 6019) + 1)) ⟨(oz1333 c6 s7 kn24 kn1), (oz1512 hp3.2 s7 kn1)⟩
      have s9 : (x5 + 1).toInt = x5.toInt + (1 : Int32).toInt := kd_add (oz12 hp2.1 kn1) (oz1430 hp2.2 kn1)
      first | refine fo_goI mi_k13 fz13_48_15_72 [.int (x5 + 1), .int x4, .int 3, .int x1, .ref 94] (ku i 6019 ((i 6019) + 1)) (by rfl) ?_ | refine ft_go mi_k13 15 72 [(7, .int 2), (6, .int 0), (0, .ref 94), (1, .int x1), (2, .int 4), (3, .int 3), (4, .int x4), (5, .int x5)] [.int (x5 + 1), .int x4, .int 3, .int x1, .ref 94] (ku i 6019 ((i 6019) + 1)) a q r (by rfl) ?_
      refine ko_callI mi_k13.1 (pc := 72) (ls := [(7, .int 2), (6, .int 0), (0, .ref 94), (1, .int x1), (2, .int 4), (3, .int 3), (4, .int x4), (5, .int x5)]) (st := [.int (x5 + 1), .int x4, .int 3, .int x1, .ref 94]) (h := ks (ku i 6019 ((i 6019) + 1)) a q r) (i := (.invokevirtual 43, 3, 14, 0, 9, 0, 301)) (mi_k13.2 _ _ (by rfl)) (ft_invS mi_pq14 (by rfl)) (cy := mi_c14) mi_pq14 rfl (kc14_94_l13_K7 hJ8.I hJ8.R x1 x4 (x5 + 1) (oz1339 hp0.1 hp0.2) (oz1495 hp1 r1.2) (oz1436 hp2.1 hp2.2 s9 kn1) (oz1517 c6 hp3.2 s7 kn24 kn1)) (by decide) ?_
      intro vg10 ig10 ag10 qg10 rg10 kg10 hg10
      have hGg10 := kG_call hJ8 kg10 (by decide +kernel)
      have z11 : (ig10 6019).toInt = (((i 6019) + 1).toInt + 12) := hg10
      exact ft_ret mi_k13 (by rfl) (hP vg10 _ _ _ _ hGg10 (oz1518 s7 z11 kn1))
    ·
      have c12 : (i 6019).toInt < (24 : Int32).toInt := kd_leF c; clear c
      first | refine fo_goS mi_k13 fz13_37_5_47 [.int 2, .int (i 6019), .ref 96] (by rfl) ?_ | refine ft_go mi_k13 5 47 [(7, .int 2), (6, .int 0), (0, .ref 94), (1, .int x1), (2, .int 4), (3, .int 3), (4, .int x4), (5, .int x5)] [.int 2, .int (i 6019), .ref 96] i a q r (by rfl) ?_
      refine ko_iast3 mi_k13.1 (n := 24) (c := 24) (ax := (0, 0, 0, 0, 0)) (mi_k13.2 _ _ (by rfl)) (by rfl) (ksG96 _ _ _ _) (ksA96 _ _ _ _) (hG.I.2.1 96) rfl (oz3 fi_6019.1) (oz1343 c12 kn24) ?_
      intro a13 ea13 fa13
      have hJ13 := kG_a3 hG 96 rfl ea13 fa13 (kd_bd _)
      have s14 : ((i 6019) + 1).toInt = (i 6019).toInt + (1 : Int32).toInt := kd_add (oz12 fi_6019.1 kn1) (oz951 fi_6019.2 kn1)
      have hJ15 := kG_i hJ13 6019 rfl (v := ((i 6019) + 1)) ⟨(oz14 fi_6019.1 s14 kn1), (oz1512 hp3.2 s14 kn1)⟩
      have s16 : (x5 + 1).toInt = x5.toInt + (1 : Int32).toInt := kd_add (oz12 hp2.1 kn1) (oz1430 hp2.2 kn1)
      first | refine fo_goI mi_k13 fz13_48_15_72 [.int (x5 + 1), .int x4, .int 3, .int x1, .ref 94] (ku i 6019 ((i 6019) + 1)) (by rfl) ?_ | refine ft_go mi_k13 15 72 [(7, .int 2), (6, .int 0), (0, .ref 94), (1, .int x1), (2, .int 4), (3, .int 3), (4, .int x4), (5, .int x5)] [.int (x5 + 1), .int x4, .int 3, .int x1, .ref 94] (ku i 6019 ((i 6019) + 1)) a13 q r (by rfl) ?_
      have r17 : ((0 : Int) ≤ ((a13 95).getD x1.toNatClampNeg 0).toInt) ∧ (((a13 95).getD x1.toNatClampNeg 0).toInt ≤ 7) := hJ15.I.2.2.1 95 (x1.toNatClampNeg)
      have u18 : ((a13 95).getD x1.toNatClampNeg 0).toInt = ((a 95).getD x1.toNatClampNeg 0).toInt := congrArg (fun z : List Int32 => (z.getD x1.toNatClampNeg 0).toInt) (fa13 95 (by decide))
      refine ko_callI mi_k13.1 (pc := 72) (ls := [(7, .int 2), (6, .int 0), (0, .ref 94), (1, .int x1), (2, .int 4), (3, .int 3), (4, .int x4), (5, .int x5)]) (st := [.int (x5 + 1), .int x4, .int 3, .int x1, .ref 94]) (h := ks (ku i 6019 ((i 6019) + 1)) a13 q r) (i := (.invokevirtual 43, 3, 14, 0, 9, 0, 301)) (mi_k13.2 _ _ (by rfl)) (ft_invS mi_pq14 (by rfl)) (cy := mi_c14) mi_pq14 rfl (kc14_94_l13_K7 hJ15.I hJ15.R x1 x4 (x5 + 1) (oz1339 hp0.1 hp0.2) (oz1496 hp1 r17.2 u18) (oz1436 hp2.1 hp2.2 s16 kn1) (oz1519 fi_6019.1 hp3.2 s14 kn1)) (by decide) ?_
      intro vg19 ig19 ag19 qg19 rg19 kg19 hg19
      have hGg19 := kG_call hJ15 kg19 (by decide +kernel)
      have z20 : (ig19 6019).toInt = (((i 6019) + 1).toInt + 12) := hg19
      exact ft_ret mi_k13 (by rfl) (hP vg19 _ _ _ _ hGg19 (oz1518 s14 z20 kn1))
  ·
    have c21 : (40 : Int32).toInt ≤ x5.toInt := kd_ltF c; clear c
    exact (oz1440 c21 hp2.2 kn40).elim
def w13_94_l17_l23_K7 : kW := ([6019], [96], [], [])
set_option maxRecDepth 100000 in
theorem kc13_94_l17_l23_K7 {i : Nat → Int32} {a : Nat → List Int32} {q : Nat → List Int64} {r : Nat → Nat} (hI : kI i a q) (hr : kr r) (x1 : Int32) (x4 : Int32) (x5 : Int32) (hp0 : ((0 : Int) ≤ x1.toInt) ∧ (x1.toInt ≤ 49)) (hp1 : ((a 95).getD x1.toNatClampNeg 0).toInt = 7) (hp2 : ((0 : Int) ≤ x5.toInt) ∧ ((x5.toInt + 6) ≤ 39)) (hp3 : ((0 : Int) ≤ (i 6019).toInt) ∧ (((i 6019).toInt + 14) ≤ 900)) : km 17 13 [.ref 94, .int x1, .int 7, .int 3, .int x4, .int x5] (ks i a q r) (kVI w13_94_l17_l23_K7 i a q r (fun v i1 a1 q1 r1 => (i1 6019).toInt = ((i 6019).toInt + 14))) := by
  have hG := kG_self w13_94_l17_l23_K7 hI hr
  refine km_ofI (q := (mi_h13, mi_c13)) rfl (by decide) (Nat.le_of_ble_eq_true rfl) ?_
  intro P hP
  have r1 : ((0 : Int) ≤ ((a 95).getD x1.toNatClampNeg 0).toInt) ∧ (((a 95).getD x1.toNatClampNeg 0).toInt ≤ 7) := hG.I.2.2.1 95 (x1.toNatClampNeg)
  have fi_6019 : ((0 : Int) ≤ (i 6019).toInt) ∧ ((i 6019).toInt ≤ 1000) := hG.I.1 6019
  first | refine fo_goL mi_k13 fz13_0_2_4 [(0, .ref 94), (1, .int x1), (2, .int 7), (3, .int 3), (4, .int x4), (5, .int x5)] [.int 40, .int x5] (by rfl) ?_ | refine ft_go mi_k13 2 4 [(0, .ref 94), (1, .int x1), (2, .int 7), (3, .int 3), (4, .int x4), (5, .int x5)] [.int 40, .int x5] i a q r (by rfl) ?_
  refine ft_ifS mi_k13 (decide (x5 < 40)) 9 7 [] (by rfl) (fun c => ?_) (fun c => ?_)
  ·
    have c2 : x5.toInt < (40 : Int32).toInt := kd_lt c; clear c
    first | refine fo_goS mi_k13 fz13_9_2_11 [.int 3, .int 7] (by rfl) ?_ | refine ft_go mi_k13 2 11 [(0, .ref 94), (1, .int x1), (2, .int 7), (3, .int 3), (4, .int x4), (5, .int x5)] [.int 3, .int 7] i a q r (by rfl) ?_
    refine ko_callPI mi_k13.1 (pc := 11) (ls := [(0, .ref 94), (1, .int x1), (2, .int 7), (3, .int 3), (4, .int x4), (5, .int x5)]) (st := [.int 3, .int 7]) (h := ks i a q r) (i := (.invokestatic 39, 3, 11, 0, 9, 0, 298)) (mi_k13.2 _ _ (by rfl)) (ft_invS mi_pq11 (by rfl)) (cy := mi_c11) mi_pq11 rfl (kc11_l07_l13 hG.I hG.R ) (by decide) ?_
    intro vg3 hg3
    have z4 : vg3.toInt = 7 := hg3
    have evvg3 := kj_eq (oz1500 z4) (by decide : (7 : Int32).toInt = 7)
    subst evvg3
    first | refine ft_goL mi_k13 5 23 [(6, .int 7), (0, .ref 94), (1, .int x1), (2, .int 7), (3, .int 3), (4, .int x4), (5, .int x5)] [.int (7 * 4), .ref (mi_RO + 3)] (by rfl) ?_ | refine ft_go mi_k13 5 23 [(6, .int 7), (0, .ref 94), (1, .int x1), (2, .int 7), (3, .int 3), (4, .int x4), (5, .int x5)] [.int (7 * 4), .ref (mi_RO + 3)] i a q r (by rfl) ?_
    refine ko_top (by decide : (7 * 4 : Int32) = 28) ?_
    first | refine fo_goS mi_k13 fz13_23_2_25 [.int (28 + 3), .ref (mi_RO + 3)] (by rfl) ?_ | refine ft_go mi_k13 2 25 [(6, .int 7), (0, .ref 94), (1, .int x1), (2, .int 7), (3, .int 3), (4, .int x4), (5, .int x5)] [.int (28 + 3), .ref (mi_RO + 3)] i a q r (by rfl) ?_
    refine ko_top (by decide : (28 + 3 : Int32) = 31) ?_
    refine ft_ro mi_k13 (w := 81) (by decide +kernel) (by decide +kernel) ?_
    first | refine fo_goL mi_k13 fz13_26_4_34 [(7, .int 81), (6, .int 7), (0, .ref 94), (1, .int x1), (2, .int 7), (3, .int 3), (4, .int x4), (5, .int x5)] [.int 24, .int (i 6019)] (by rfl) ?_ | refine ft_go mi_k13 4 34 [(7, .int 81), (6, .int 7), (0, .ref 94), (1, .int x1), (2, .int 7), (3, .int 3), (4, .int x4), (5, .int x5)] [.int 24, .int (i 6019)] i a q r (by rfl) ?_
    refine ft_ifS mi_k13 (decide (24 ≤ (i 6019))) 48 37 [] (by rfl) (fun c => ?_) (fun c => ?_)
    ·
      have c6 : (24 : Int32).toInt ≤ (i 6019).toInt := kd_le c; clear c
      have s7 : ((i 6019) + 1).toInt = (i 6019).toInt + (1 : Int32).toInt := kd_add (oz1332 c6 kn24 kn1) (oz951 fi_6019.2 kn1)
      have hJ8 := kG_i hG 6019 rfl (v := ((i 6019) + 1)) ⟨(oz1333 c6 s7 kn24 kn1), (oz1511 hp3.2 s7 kn1)⟩
      first | refine ft_goI mi_k13 12 83 [.int 7, .ref (mi_RO + 4), .int x1, .ref 94] (ku i 6019 ((i 6019) + 1)) (by rfl) ?_ | refine ft_go mi_k13 12 83 [(7, .int 81), (6, .int 7), (0, .ref 94), (1, .int x1), (2, .int 7), (3, .int 3), (4, .int x4), (5, .int x5)] [.int 7, .ref (mi_RO + 4), .int x1, .ref 94] (ku i 6019 ((i 6019) + 1)) a q r (by rfl) ?_
      refine ft_ro mi_k13 (w := 4) (by decide +kernel) (by decide +kernel) ?_
      have s10 : (x5 + 1).toInt = x5.toInt + (1 : Int32).toInt := kd_add (oz12 hp2.1 kn1) (oz1478 hp2.2 kn1)
      first | refine ft_goS mi_k13 8 105 [.int (x5 + 1), .int x4, .int 3, .int 4, .int x1, .ref 94] (by rfl) ?_ | refine ft_go mi_k13 8 105 [(7, .int 81), (6, .int 7), (0, .ref 94), (1, .int x1), (2, .int 7), (3, .int 3), (4, .int x4), (5, .int x5)] [.int (x5 + 1), .int x4, .int 3, .int 4, .int x1, .ref 94] (ku i 6019 ((i 6019) + 1)) a q r (by rfl) ?_
      refine ko_callI mi_k13.1 (pc := 105) (ls := [(7, .int 81), (6, .int 7), (0, .ref 94), (1, .int x1), (2, .int 7), (3, .int 3), (4, .int x4), (5, .int x5)]) (st := [.int (x5 + 1), .int x4, .int 3, .int 4, .int x1, .ref 94]) (h := ks (ku i 6019 ((i 6019) + 1)) a q r) (i := (.invokevirtual 35, 3, 13, 0, 9, 0, 297)) (mi_k13.2 _ _ (by rfl)) (ft_invS mi_pq13 (by rfl)) (cy := mi_c13) mi_pq13 rfl (kc13_94_l14_l23_K7 hJ8.I hJ8.R x1 x4 (x5 + 1) (oz1339 hp0.1 hp0.2) (oz1495 hp1 r1.2) (oz1479 hp2.1 hp2.2 s10 kn1) (oz1520 c6 hp3.2 s7 kn24 kn1)) (by decide) ?_
      intro vg11 ig11 ag11 qg11 rg11 kg11 hg11
      have hGg11 := kG_call hJ8 kg11 (by decide +kernel)
      have z12 : (ig11 6019).toInt = (((i 6019) + 1).toInt + 13) := hg11
      have b13 : ((-2147483648 : Int) ≤ vg11.toInt) ∧ (vg11.toInt ≤ 2147483647) := kd_bd vg11
      first | refine ft_goL mi_k13 6 258 [(8, .int vg11), (7, .int 81), (6, .int 7), (0, .ref 94), (1, .int x1), (2, .int 7), (3, .int 3), (4, .int x4), (5, .int x5)] [.int (vg11 - 1)] (by rfl) ?_ | refine ft_go mi_k13 6 258 [(8, .int vg11), (7, .int 81), (6, .int 7), (0, .ref 94), (1, .int x1), (2, .int 7), (3, .int 3), (4, .int x4), (5, .int x5)] [.int (vg11 - 1)] ig11 ag11 qg11 rg11 (by rfl) ?_
      exact ft_ret mi_k13 (by rfl) (hP (vg11 - 1) _ _ _ _ hGg11 (oz1521 s7 z12 kn1))
    ·
      have c14 : (i 6019).toInt < (24 : Int32).toInt := kd_leF c; clear c
      first | refine fo_goS mi_k13 fz13_37_5_47 [.int 81, .int (i 6019), .ref 96] (by rfl) ?_ | refine ft_go mi_k13 5 47 [(7, .int 81), (6, .int 7), (0, .ref 94), (1, .int x1), (2, .int 7), (3, .int 3), (4, .int x4), (5, .int x5)] [.int 81, .int (i 6019), .ref 96] i a q r (by rfl) ?_
      refine ko_iast3 mi_k13.1 (n := 24) (c := 24) (ax := (0, 0, 0, 0, 0)) (mi_k13.2 _ _ (by rfl)) (by rfl) (ksG96 _ _ _ _) (ksA96 _ _ _ _) (hG.I.2.1 96) rfl (oz3 fi_6019.1) (oz1343 c14 kn24) ?_
      intro a15 ea15 fa15
      have hJ15 := kG_a3 hG 96 rfl ea15 fa15 (kd_bd _)
      have s16 : ((i 6019) + 1).toInt = (i 6019).toInt + (1 : Int32).toInt := kd_add (oz12 fi_6019.1 kn1) (oz951 fi_6019.2 kn1)
      have hJ17 := kG_i hJ15 6019 rfl (v := ((i 6019) + 1)) ⟨(oz14 fi_6019.1 s16 kn1), (oz1511 hp3.2 s16 kn1)⟩
      first | refine ft_goI mi_k13 12 83 [.int 7, .ref (mi_RO + 4), .int x1, .ref 94] (ku i 6019 ((i 6019) + 1)) (by rfl) ?_ | refine ft_go mi_k13 12 83 [(7, .int 81), (6, .int 7), (0, .ref 94), (1, .int x1), (2, .int 7), (3, .int 3), (4, .int x4), (5, .int x5)] [.int 7, .ref (mi_RO + 4), .int x1, .ref 94] (ku i 6019 ((i 6019) + 1)) a15 q r (by rfl) ?_
      refine ft_ro mi_k13 (w := 4) (by decide +kernel) (by decide +kernel) ?_
      have s19 : (x5 + 1).toInt = x5.toInt + (1 : Int32).toInt := kd_add (oz12 hp2.1 kn1) (oz1478 hp2.2 kn1)
      first | refine ft_goS mi_k13 8 105 [.int (x5 + 1), .int x4, .int 3, .int 4, .int x1, .ref 94] (by rfl) ?_ | refine ft_go mi_k13 8 105 [(7, .int 81), (6, .int 7), (0, .ref 94), (1, .int x1), (2, .int 7), (3, .int 3), (4, .int x4), (5, .int x5)] [.int (x5 + 1), .int x4, .int 3, .int 4, .int x1, .ref 94] (ku i 6019 ((i 6019) + 1)) a15 q r (by rfl) ?_
      have r20 : ((0 : Int) ≤ ((a15 95).getD x1.toNatClampNeg 0).toInt) ∧ (((a15 95).getD x1.toNatClampNeg 0).toInt ≤ 7) := hJ17.I.2.2.1 95 (x1.toNatClampNeg)
      have u21 : ((a15 95).getD x1.toNatClampNeg 0).toInt = ((a 95).getD x1.toNatClampNeg 0).toInt := congrArg (fun z : List Int32 => (z.getD x1.toNatClampNeg 0).toInt) (fa15 95 (by decide))
      refine ko_callI mi_k13.1 (pc := 105) (ls := [(7, .int 81), (6, .int 7), (0, .ref 94), (1, .int x1), (2, .int 7), (3, .int 3), (4, .int x4), (5, .int x5)]) (st := [.int (x5 + 1), .int x4, .int 3, .int 4, .int x1, .ref 94]) (h := ks (ku i 6019 ((i 6019) + 1)) a15 q r) (i := (.invokevirtual 35, 3, 13, 0, 9, 0, 297)) (mi_k13.2 _ _ (by rfl)) (ft_invS mi_pq13 (by rfl)) (cy := mi_c13) mi_pq13 rfl (kc13_94_l14_l23_K7 hJ17.I hJ17.R x1 x4 (x5 + 1) (oz1339 hp0.1 hp0.2) (oz1496 hp1 r20.2 u21) (oz1479 hp2.1 hp2.2 s19 kn1) (oz1522 fi_6019.1 hp3.2 s16 kn1)) (by decide) ?_
      intro vg22 ig22 ag22 qg22 rg22 kg22 hg22
      have hGg22 := kG_call hJ17 kg22 (by decide +kernel)
      have z23 : (ig22 6019).toInt = (((i 6019) + 1).toInt + 13) := hg22
      have b24 : ((-2147483648 : Int) ≤ vg22.toInt) ∧ (vg22.toInt ≤ 2147483647) := kd_bd vg22
      first | refine ft_goL mi_k13 6 258 [(8, .int vg22), (7, .int 81), (6, .int 7), (0, .ref 94), (1, .int x1), (2, .int 7), (3, .int 3), (4, .int x4), (5, .int x5)] [.int (vg22 - 1)] (by rfl) ?_ | refine ft_go mi_k13 6 258 [(8, .int vg22), (7, .int 81), (6, .int 7), (0, .ref 94), (1, .int x1), (2, .int 7), (3, .int 3), (4, .int x4), (5, .int x5)] [.int (vg22 - 1)] ig22 ag22 qg22 rg22 (by rfl) ?_
      exact ft_ret mi_k13 (by rfl) (hP (vg22 - 1) _ _ _ _ hGg22 (oz1521 s16 z23 kn1))
  ·
    have c25 : (40 : Int32).toInt ≤ x5.toInt := kd_ltF c; clear c
    exact (oz1480 c25 hp2.2 kn40).elim
def w12_94 : kW := ([6019], [96], [], [])
set_option maxRecDepth 100000 in
theorem kc12_94 {i : Nat → Int32} {a : Nat → List Int32} {q : Nat → List Int64} {r : Nat → Nat} (hI : kI i a q) (hr : kr r) (x1 : Int32) (x2 : Int32) (x3 : Int32) : km 19 12 [.ref 94, .int x1, .int x2, .int x3] (ks i a q r) (kVI w12_94 i a q r (fun v i1 a1 q1 r1 => True)) := by
  have hG := kG_self w12_94 hI hr
  refine km_ofI (q := (mi_h12, mi_c12)) rfl (by decide) (Nat.le_of_ble_eq_true rfl) ?_
  intro P hP
  have hJ1 := kG_i hG 6019 rfl (v := 0) ⟨(oz46 kn0), (oz1331 kn0)⟩
  first | refine fo_go mi_k12 fz12_0_5_7 [(0, .ref 94), (1, .int x1), (2, .int x2), (3, .int x3)] [.int x1, .ref 94] (ku i 6019 0) a q r (by rfl) ?_ | refine ft_go mi_k12 5 7 [(0, .ref 94), (1, .int x1), (2, .int x2), (3, .int x3)] [.int x1, .ref 94] (ku i 6019 0) a q r (by rfl) ?_
  refine ko_callPI mi_k12.1 (pc := 7) (ls := [(0, .ref 94), (1, .int x1), (2, .int x2), (3, .int x3)]) (st := [.int x1, .ref 94]) (h := ks (ku i 6019 0) a q r) (i := (.invokevirtual 31, 3, 8, 0, 9, 0, 296)) (mi_k12.2 _ _ (by rfl)) (ft_invS mi_pq8 (by rfl)) (cy := mi_c8) mi_pq8 rfl (kc8_94 hJ1.I hJ1.R x1) (by decide) ?_
  intro vg2 hg2
  rcases hg2 with ⟨eg2, hg2⟩ | ⟨eg2, hg2⟩
  ·
    subst eg2
    have fi_6017 : ((0 : Int) ≤ (i 6017).toInt) ∧ ((i 6017).toInt ≤ 50) := hJ1.I.1 6017
    have z3 : ((0 : Int) ≤ x1.toInt) ∧ (x1.toInt < (i 6017).toInt) := hg2
    first | refine ft_goS mi_k12 2 14 [.int x2] (by rfl) ?_ | refine ft_go mi_k12 2 14 [(0, .ref 94), (1, .int x1), (2, .int x2), (3, .int x3)] [.int x2] (ku i 6019 0) a q r (by rfl) ?_
    refine ft_ifS mi_k12 (decide (x2 < 0)) 22 17 [] (by rfl) (fun c => ?_) (fun c => ?_)
    ·
      have c4 : x2.toInt < (0 : Int32).toInt := kd_lt c; clear c
      first | refine ft_goS mi_k12 1 23 [.int 0] (by rfl) ?_ | refine ft_go mi_k12 1 23 [(0, .ref 94), (1, .int x1), (2, .int x2), (3, .int x3)] [.int 0] (ku i 6019 0) a q r (by rfl) ?_
      exact ft_ret mi_k12 (by rfl) (hP 0 _ _ _ _ hJ1 trivial)
    ·
      have c5 : (0 : Int32).toInt ≤ x2.toInt := kd_ltF c; clear c
      first | refine ft_goS mi_k12 2 19 [.int 4, .int x2] (by rfl) ?_ | refine ft_go mi_k12 2 19 [(0, .ref 94), (1, .int x1), (2, .int x2), (3, .int x3)] [.int 4, .int x2] (ku i 6019 0) a q r (by rfl) ?_
      refine ft_ifS mi_k12 (decide (x2 < 4)) 24 22 [] (by rfl) (fun c => ?_) (fun c => ?_)
      ·
        have c6 : x2.toInt < (4 : Int32).toInt := kd_lt c; clear c
        first | refine fo_goS mi_k12 fz12_24_5_31 [.int x1, .ref 95, .int x1, .ref 94] (by rfl) ?_ | refine ft_go mi_k12 5 31 [(0, .ref 94), (1, .int x1), (2, .int x2), (3, .int x3)] [.int x1, .ref 95, .int x1, .ref 94] (ku i 6019 0) a q r (by rfl) ?_
        refine ko_iald3 mi_k12.1 (n := 50) (c := 50) (ax := (0, 0, 0, 0, 0)) (mi_k12.2 _ _ (by rfl)) (by rfl) (ksG95 _ _ _ _) (hJ1.I.2.1 95) rfl (oz3 z3.1) (oz1283 fi_6017.2 z3.2) ?_
        have r7 : ((0 : Int) ≤ ((a 95).getD x1.toNatClampNeg 0).toInt) ∧ (((a 95).getD x1.toNatClampNeg 0).toInt ≤ 7) := hJ1.I.2.2.1 95 (x1.toNatClampNeg)
        first | refine ft_goS mi_k12 3 35 [.int 0, .int x3, .int x2, .int ((a 95).getD x1.toNatClampNeg 0), .int x1, .ref 94] (by rfl) ?_ | refine ft_go mi_k12 3 35 [(0, .ref 94), (1, .int x1), (2, .int x2), (3, .int x3)] [.int 0, .int x3, .int x2, .int ((a 95).getD x1.toNatClampNeg 0), .int x1, .ref 94] (ku i 6019 0) a q r (by rfl) ?_
        by_cases w8 : ((a 95).getD x1.toNatClampNeg 0).toInt = 0
        ·
          refine ko_eq (x1 := (35, [(0, .ref 94), (1, .int x1), (2, .int x2), (3, .int x3)], [.int 0, .int x3, .int x2, .int 0, .int x1, .ref 94], (0, 0), ks (ku i 6019 0) a q r)) (by rw [(kj_eq w8 (by decide) : ((a 95).getD x1.toNatClampNeg 0) = 0)]) ?_
          by_cases w9 : x2.toInt = 0
          ·
            refine ko_eq (x1 := (35, [(0, .ref 94), (1, .int x1), (2, .int x2), (3, .int x3)], [.int 0, .int x3, .int 0, .int 0, .int x1, .ref 94], (0, 0), ks (ku i 6019 0) a q r)) (by rw [(kj_eq w9 (by decide) : x2 = 0)]) ?_
            refine ko_callI mi_k12.1 (pc := 35) (ls := [(0, .ref 94), (1, .int x1), (2, .int x2), (3, .int x3)]) (st := [.int 0, .int x3, .int 0, .int 0, .int x1, .ref 94]) (h := ks (ku i 6019 0) a q r) (i := (.invokevirtual 35, 3, 13, 0, 9, 0, 297)) (mi_k12.2 _ _ (by rfl)) (ft_invS mi_pq13 (by rfl)) (cy := mi_c13) mi_pq13 rfl (kc13_94_l10_l20_K0 hJ1.I hJ1.R x1 x3 0 (oz1347 fi_6017.2 z3.1 z3.2) (oz1348 r7.1 w8) (oz1349 kn0) (oz1350 kn0)) (by decide) ?_
            intro vg10 ig10 ag10 qg10 rg10 kg10 hg10
            have hGg10 := kG_call hJ1 kg10 (by decide +kernel)
            exact ft_ret mi_k12 (by rfl) (hP vg10 _ _ _ _ hGg10 trivial)
          by_cases w12 : x2.toInt = 1
          ·
            refine ko_eq (x1 := (35, [(0, .ref 94), (1, .int x1), (2, .int x2), (3, .int x3)], [.int 0, .int x3, .int 1, .int 0, .int x1, .ref 94], (0, 0), ks (ku i 6019 0) a q r)) (by rw [(kj_eq w12 (by decide) : x2 = 1)]) ?_
            refine ko_callI mi_k12.1 (pc := 35) (ls := [(0, .ref 94), (1, .int x1), (2, .int x2), (3, .int x3)]) (st := [.int 0, .int x3, .int 1, .int 0, .int x1, .ref 94]) (h := ks (ku i 6019 0) a q r) (i := (.invokevirtual 35, 3, 13, 0, 9, 0, 297)) (mi_k12.2 _ _ (by rfl)) (ft_invS mi_pq13 (by rfl)) (cy := mi_c13) mi_pq13 rfl (kc13_94_l10_l21_K0 hJ1.I hJ1.R x1 x3 0 (oz1347 fi_6017.2 z3.1 z3.2) (oz1348 r7.1 w8) (oz1361 kn0) (oz1362 kn0)) (by decide) ?_
            intro vg13 ig13 ag13 qg13 rg13 kg13 hg13
            have hGg13 := kG_call hJ1 kg13 (by decide +kernel)
            exact ft_ret mi_k12 (by rfl) (hP vg13 _ _ _ _ hGg13 trivial)
          by_cases w15 : x2.toInt = 2
          ·
            refine ko_eq (x1 := (35, [(0, .ref 94), (1, .int x1), (2, .int x2), (3, .int x3)], [.int 0, .int x3, .int 2, .int 0, .int x1, .ref 94], (0, 0), ks (ku i 6019 0) a q r)) (by rw [(kj_eq w15 (by decide) : x2 = 2)]) ?_
            refine ko_callI mi_k12.1 (pc := 35) (ls := [(0, .ref 94), (1, .int x1), (2, .int x2), (3, .int x3)]) (st := [.int 0, .int x3, .int 2, .int 0, .int x1, .ref 94]) (h := ks (ku i 6019 0) a q r) (i := (.invokevirtual 35, 3, 13, 0, 9, 0, 297)) (mi_k12.2 _ _ (by rfl)) (ft_invS mi_pq13 (by rfl)) (cy := mi_c13) mi_pq13 rfl (kc13_94_l10_l22_K0 hJ1.I hJ1.R x1 x3 0 (oz1347 fi_6017.2 z3.1 z3.2) (oz1348 r7.1 w8) (oz1349 kn0) (oz1350 kn0)) (by decide) ?_
            intro vg16 ig16 ag16 qg16 rg16 kg16 hg16
            have hGg16 := kG_call hJ1 kg16 (by decide +kernel)
            exact ft_ret mi_k12 (by rfl) (hP vg16 _ _ _ _ hGg16 trivial)
          by_cases w18 : x2.toInt = 3
          ·
            refine ko_eq (x1 := (35, [(0, .ref 94), (1, .int x1), (2, .int x2), (3, .int x3)], [.int 0, .int x3, .int 3, .int 0, .int x1, .ref 94], (0, 0), ks (ku i 6019 0) a q r)) (by rw [(kj_eq w18 (by decide) : x2 = 3)]) ?_
            refine ko_callI mi_k12.1 (pc := 35) (ls := [(0, .ref 94), (1, .int x1), (2, .int x2), (3, .int x3)]) (st := [.int 0, .int x3, .int 3, .int 0, .int x1, .ref 94]) (h := ks (ku i 6019 0) a q r) (i := (.invokevirtual 35, 3, 13, 0, 9, 0, 297)) (mi_k12.2 _ _ (by rfl)) (ft_invS mi_pq13 (by rfl)) (cy := mi_c13) mi_pq13 rfl (kc13_94_l10_l23_K0 hJ1.I hJ1.R x1 x3 0 (oz1347 fi_6017.2 z3.1 z3.2) (oz1348 r7.1 w8) (oz1377 kn0) (oz1378 kn0)) (by decide) ?_
            intro vg19 ig19 ag19 qg19 rg19 kg19 hg19
            have hGg19 := kG_call hJ1 kg19 (by decide +kernel)
            exact ft_ret mi_k12 (by rfl) (hP vg19 _ _ _ _ hGg19 trivial)
          exact (oz1379 c5 c6 w12 w15 w18 w9 kn0 kn4).elim
        by_cases w21 : ((a 95).getD x1.toNatClampNeg 0).toInt = 1
        ·
          refine ko_eq (x1 := (35, [(0, .ref 94), (1, .int x1), (2, .int x2), (3, .int x3)], [.int 0, .int x3, .int x2, .int 1, .int x1, .ref 94], (0, 0), ks (ku i 6019 0) a q r)) (by rw [(kj_eq w21 (by decide) : ((a 95).getD x1.toNatClampNeg 0) = 1)]) ?_
          by_cases w22 : x2.toInt = 0
          ·
            refine ko_eq (x1 := (35, [(0, .ref 94), (1, .int x1), (2, .int x2), (3, .int x3)], [.int 0, .int x3, .int 0, .int 1, .int x1, .ref 94], (0, 0), ks (ku i 6019 0) a q r)) (by rw [(kj_eq w22 (by decide) : x2 = 0)]) ?_
            refine ko_callI mi_k12.1 (pc := 35) (ls := [(0, .ref 94), (1, .int x1), (2, .int x2), (3, .int x3)]) (st := [.int 0, .int x3, .int 0, .int 1, .int x1, .ref 94]) (h := ks (ku i 6019 0) a q r) (i := (.invokevirtual 35, 3, 13, 0, 9, 0, 297)) (mi_k12.2 _ _ (by rfl)) (ft_invS mi_pq13 (by rfl)) (cy := mi_c13) mi_pq13 rfl (kc13_94_l11_l20_K1 hJ1.I hJ1.R x1 x3 0 (oz1347 fi_6017.2 z3.1 z3.2) (oz1381 w21) (oz1361 kn0) (oz1362 kn0)) (by decide) ?_
            intro vg23 ig23 ag23 qg23 rg23 kg23 hg23
            have hGg23 := kG_call hJ1 kg23 (by decide +kernel)
            exact ft_ret mi_k12 (by rfl) (hP vg23 _ _ _ _ hGg23 trivial)
          by_cases w25 : x2.toInt = 1
          ·
            refine ko_eq (x1 := (35, [(0, .ref 94), (1, .int x1), (2, .int x2), (3, .int x3)], [.int 0, .int x3, .int 1, .int 1, .int x1, .ref 94], (0, 0), ks (ku i 6019 0) a q r)) (by rw [(kj_eq w25 (by decide) : x2 = 1)]) ?_
            refine ko_callI mi_k12.1 (pc := 35) (ls := [(0, .ref 94), (1, .int x1), (2, .int x2), (3, .int x3)]) (st := [.int 0, .int x3, .int 1, .int 1, .int x1, .ref 94]) (h := ks (ku i 6019 0) a q r) (i := (.invokevirtual 35, 3, 13, 0, 9, 0, 297)) (mi_k12.2 _ _ (by rfl)) (ft_invS mi_pq13 (by rfl)) (cy := mi_c13) mi_pq13 rfl (kc13_94_l11_l21_K1 hJ1.I hJ1.R x1 x3 0 (oz1347 fi_6017.2 z3.1 z3.2) (oz1381 w21) (oz1377 kn0) (oz1391 kn0)) (by decide) ?_
            intro vg26 ig26 ag26 qg26 rg26 kg26 hg26
            have hGg26 := kG_call hJ1 kg26 (by decide +kernel)
            exact ft_ret mi_k12 (by rfl) (hP vg26 _ _ _ _ hGg26 trivial)
          by_cases w28 : x2.toInt = 2
          ·
            refine ko_eq (x1 := (35, [(0, .ref 94), (1, .int x1), (2, .int x2), (3, .int x3)], [.int 0, .int x3, .int 2, .int 1, .int x1, .ref 94], (0, 0), ks (ku i 6019 0) a q r)) (by rw [(kj_eq w28 (by decide) : x2 = 2)]) ?_
            refine ko_callI mi_k12.1 (pc := 35) (ls := [(0, .ref 94), (1, .int x1), (2, .int x2), (3, .int x3)]) (st := [.int 0, .int x3, .int 2, .int 1, .int x1, .ref 94]) (h := ks (ku i 6019 0) a q r) (i := (.invokevirtual 35, 3, 13, 0, 9, 0, 297)) (mi_k12.2 _ _ (by rfl)) (ft_invS mi_pq13 (by rfl)) (cy := mi_c13) mi_pq13 rfl (kc13_94_l11_l22_K1 hJ1.I hJ1.R x1 x3 0 (oz1347 fi_6017.2 z3.1 z3.2) (oz1381 w21) (oz1349 kn0) (oz1350 kn0)) (by decide) ?_
            intro vg29 ig29 ag29 qg29 rg29 kg29 hg29
            have hGg29 := kG_call hJ1 kg29 (by decide +kernel)
            exact ft_ret mi_k12 (by rfl) (hP vg29 _ _ _ _ hGg29 trivial)
          by_cases w31 : x2.toInt = 3
          ·
            refine ko_eq (x1 := (35, [(0, .ref 94), (1, .int x1), (2, .int x2), (3, .int x3)], [.int 0, .int x3, .int 3, .int 1, .int x1, .ref 94], (0, 0), ks (ku i 6019 0) a q r)) (by rw [(kj_eq w31 (by decide) : x2 = 3)]) ?_
            refine ko_callI mi_k12.1 (pc := 35) (ls := [(0, .ref 94), (1, .int x1), (2, .int x2), (3, .int x3)]) (st := [.int 0, .int x3, .int 3, .int 1, .int x1, .ref 94]) (h := ks (ku i 6019 0) a q r) (i := (.invokevirtual 35, 3, 13, 0, 9, 0, 297)) (mi_k12.2 _ _ (by rfl)) (ft_invS mi_pq13 (by rfl)) (cy := mi_c13) mi_pq13 rfl (kc13_94_l11_l23_K1 hJ1.I hJ1.R x1 x3 0 (oz1347 fi_6017.2 z3.1 z3.2) (oz1381 w21) (oz1406 kn0) (oz1407 kn0)) (by decide) ?_
            intro vg32 ig32 ag32 qg32 rg32 kg32 hg32
            have hGg32 := kG_call hJ1 kg32 (by decide +kernel)
            exact ft_ret mi_k12 (by rfl) (hP vg32 _ _ _ _ hGg32 trivial)
          exact (oz1408 c5 c6 w22 w25 w28 w31 kn0 kn4).elim
        by_cases w34 : ((a 95).getD x1.toNatClampNeg 0).toInt = 2
        ·
          refine ko_eq (x1 := (35, [(0, .ref 94), (1, .int x1), (2, .int x2), (3, .int x3)], [.int 0, .int x3, .int x2, .int 2, .int x1, .ref 94], (0, 0), ks (ku i 6019 0) a q r)) (by rw [(kj_eq w34 (by decide) : ((a 95).getD x1.toNatClampNeg 0) = 2)]) ?_
          by_cases w35 : x2.toInt = 0
          ·
            refine ko_eq (x1 := (35, [(0, .ref 94), (1, .int x1), (2, .int x2), (3, .int x3)], [.int 0, .int x3, .int 0, .int 2, .int x1, .ref 94], (0, 0), ks (ku i 6019 0) a q r)) (by rw [(kj_eq w35 (by decide) : x2 = 0)]) ?_
            refine ko_callI mi_k12.1 (pc := 35) (ls := [(0, .ref 94), (1, .int x1), (2, .int x2), (3, .int x3)]) (st := [.int 0, .int x3, .int 0, .int 2, .int x1, .ref 94]) (h := ks (ku i 6019 0) a q r) (i := (.invokevirtual 35, 3, 13, 0, 9, 0, 297)) (mi_k12.2 _ _ (by rfl)) (ft_invS mi_pq13 (by rfl)) (cy := mi_c13) mi_pq13 rfl (kc13_94_l12_l20_K2 hJ1.I hJ1.R x1 x3 0 (oz1347 fi_6017.2 z3.1 z3.2) (oz1411 w34) (oz1349 kn0) (oz1350 kn0)) (by decide) ?_
            intro vg36 ig36 ag36 qg36 rg36 kg36 hg36
            have hGg36 := kG_call hJ1 kg36 (by decide +kernel)
            exact ft_ret mi_k12 (by rfl) (hP vg36 _ _ _ _ hGg36 trivial)
          by_cases w38 : x2.toInt = 1
          ·
            refine ko_eq (x1 := (35, [(0, .ref 94), (1, .int x1), (2, .int x2), (3, .int x3)], [.int 0, .int x3, .int 1, .int 2, .int x1, .ref 94], (0, 0), ks (ku i 6019 0) a q r)) (by rw [(kj_eq w38 (by decide) : x2 = 1)]) ?_
            refine ko_callI mi_k12.1 (pc := 35) (ls := [(0, .ref 94), (1, .int x1), (2, .int x2), (3, .int x3)]) (st := [.int 0, .int x3, .int 1, .int 2, .int x1, .ref 94]) (h := ks (ku i 6019 0) a q r) (i := (.invokevirtual 35, 3, 13, 0, 9, 0, 297)) (mi_k12.2 _ _ (by rfl)) (ft_invS mi_pq13 (by rfl)) (cy := mi_c13) mi_pq13 rfl (kc13_94_l12_l21_K2 hJ1.I hJ1.R x1 x3 0 (oz1347 fi_6017.2 z3.1 z3.2) (oz1411 w34) (oz1377 kn0) (oz1391 kn0)) (by decide) ?_
            intro vg39 ig39 ag39 qg39 rg39 kg39 hg39
            have hGg39 := kG_call hJ1 kg39 (by decide +kernel)
            exact ft_ret mi_k12 (by rfl) (hP vg39 _ _ _ _ hGg39 trivial)
          by_cases w41 : x2.toInt = 2
          ·
            refine ko_eq (x1 := (35, [(0, .ref 94), (1, .int x1), (2, .int x2), (3, .int x3)], [.int 0, .int x3, .int 2, .int 2, .int x1, .ref 94], (0, 0), ks (ku i 6019 0) a q r)) (by rw [(kj_eq w41 (by decide) : x2 = 2)]) ?_
            refine ko_callI mi_k12.1 (pc := 35) (ls := [(0, .ref 94), (1, .int x1), (2, .int x2), (3, .int x3)]) (st := [.int 0, .int x3, .int 2, .int 2, .int x1, .ref 94]) (h := ks (ku i 6019 0) a q r) (i := (.invokevirtual 35, 3, 13, 0, 9, 0, 297)) (mi_k12.2 _ _ (by rfl)) (ft_invS mi_pq13 (by rfl)) (cy := mi_c13) mi_pq13 rfl (kc13_94_l12_l22_K2 hJ1.I hJ1.R x1 x3 0 (oz1347 fi_6017.2 z3.1 z3.2) (oz1411 w34) (oz1349 kn0) (oz1350 kn0)) (by decide) ?_
            intro vg42 ig42 ag42 qg42 rg42 kg42 hg42
            have hGg42 := kG_call hJ1 kg42 (by decide +kernel)
            exact ft_ret mi_k12 (by rfl) (hP vg42 _ _ _ _ hGg42 trivial)
          by_cases w44 : x2.toInt = 3
          ·
            refine ko_eq (x1 := (35, [(0, .ref 94), (1, .int x1), (2, .int x2), (3, .int x3)], [.int 0, .int x3, .int 3, .int 2, .int x1, .ref 94], (0, 0), ks (ku i 6019 0) a q r)) (by rw [(kj_eq w44 (by decide) : x2 = 3)]) ?_
            refine ko_callI mi_k12.1 (pc := 35) (ls := [(0, .ref 94), (1, .int x1), (2, .int x2), (3, .int x3)]) (st := [.int 0, .int x3, .int 3, .int 2, .int x1, .ref 94]) (h := ks (ku i 6019 0) a q r) (i := (.invokevirtual 35, 3, 13, 0, 9, 0, 297)) (mi_k12.2 _ _ (by rfl)) (ft_invS mi_pq13 (by rfl)) (cy := mi_c13) mi_pq13 rfl (kc13_94_l12_l23_K2 hJ1.I hJ1.R x1 x3 0 (oz1347 fi_6017.2 z3.1 z3.2) (oz1411 w34) (oz1406 kn0) (oz1407 kn0)) (by decide) ?_
            intro vg45 ig45 ag45 qg45 rg45 kg45 hg45
            have hGg45 := kG_call hJ1 kg45 (by decide +kernel)
            exact ft_ret mi_k12 (by rfl) (hP vg45 _ _ _ _ hGg45 trivial)
          exact (oz1408 c5 c6 w35 w38 w41 w44 kn0 kn4).elim
        by_cases w47 : ((a 95).getD x1.toNatClampNeg 0).toInt = 3
        ·
          refine ko_eq (x1 := (35, [(0, .ref 94), (1, .int x1), (2, .int x2), (3, .int x3)], [.int 0, .int x3, .int x2, .int 3, .int x1, .ref 94], (0, 0), ks (ku i 6019 0) a q r)) (by rw [(kj_eq w47 (by decide) : ((a 95).getD x1.toNatClampNeg 0) = 3)]) ?_
          by_cases w48 : x2.toInt = 0
          ·
            refine ko_eq (x1 := (35, [(0, .ref 94), (1, .int x1), (2, .int x2), (3, .int x3)], [.int 0, .int x3, .int 0, .int 3, .int x1, .ref 94], (0, 0), ks (ku i 6019 0) a q r)) (by rw [(kj_eq w48 (by decide) : x2 = 0)]) ?_
            refine ko_callI mi_k12.1 (pc := 35) (ls := [(0, .ref 94), (1, .int x1), (2, .int x2), (3, .int x3)]) (st := [.int 0, .int x3, .int 0, .int 3, .int x1, .ref 94]) (h := ks (ku i 6019 0) a q r) (i := (.invokevirtual 35, 3, 13, 0, 9, 0, 297)) (mi_k12.2 _ _ (by rfl)) (ft_invS mi_pq13 (by rfl)) (cy := mi_c13) mi_pq13 rfl (kc13_94_l13_l20_K3 hJ1.I hJ1.R x1 x3 0 (oz1347 fi_6017.2 z3.1 z3.2) (oz1421 w47) (oz1349 kn0) (oz1350 kn0)) (by decide) ?_
            intro vg49 ig49 ag49 qg49 rg49 kg49 hg49
            have hGg49 := kG_call hJ1 kg49 (by decide +kernel)
            exact ft_ret mi_k12 (by rfl) (hP vg49 _ _ _ _ hGg49 trivial)
          by_cases w51 : x2.toInt = 1
          ·
            refine ko_eq (x1 := (35, [(0, .ref 94), (1, .int x1), (2, .int x2), (3, .int x3)], [.int 0, .int x3, .int 1, .int 3, .int x1, .ref 94], (0, 0), ks (ku i 6019 0) a q r)) (by rw [(kj_eq w51 (by decide) : x2 = 1)]) ?_
            refine ko_callI mi_k12.1 (pc := 35) (ls := [(0, .ref 94), (1, .int x1), (2, .int x2), (3, .int x3)]) (st := [.int 0, .int x3, .int 1, .int 3, .int x1, .ref 94]) (h := ks (ku i 6019 0) a q r) (i := (.invokevirtual 35, 3, 13, 0, 9, 0, 297)) (mi_k12.2 _ _ (by rfl)) (ft_invS mi_pq13 (by rfl)) (cy := mi_c13) mi_pq13 rfl (kc13_94_l13_l21_K3 hJ1.I hJ1.R x1 x3 0 (oz1347 fi_6017.2 z3.1 z3.2) (oz1421 w47) (oz1406 kn0) (oz1378 kn0)) (by decide) ?_
            intro vg52 ig52 ag52 qg52 rg52 kg52 hg52
            have hGg52 := kG_call hJ1 kg52 (by decide +kernel)
            exact ft_ret mi_k12 (by rfl) (hP vg52 _ _ _ _ hGg52 trivial)
          by_cases w54 : x2.toInt = 2
          ·
            refine ko_eq (x1 := (35, [(0, .ref 94), (1, .int x1), (2, .int x2), (3, .int x3)], [.int 0, .int x3, .int 2, .int 3, .int x1, .ref 94], (0, 0), ks (ku i 6019 0) a q r)) (by rw [(kj_eq w54 (by decide) : x2 = 2)]) ?_
            refine ko_callI mi_k12.1 (pc := 35) (ls := [(0, .ref 94), (1, .int x1), (2, .int x2), (3, .int x3)]) (st := [.int 0, .int x3, .int 2, .int 3, .int x1, .ref 94]) (h := ks (ku i 6019 0) a q r) (i := (.invokevirtual 35, 3, 13, 0, 9, 0, 297)) (mi_k12.2 _ _ (by rfl)) (ft_invS mi_pq13 (by rfl)) (cy := mi_c13) mi_pq13 rfl (kc13_94_l13_l22_K3 hJ1.I hJ1.R x1 x3 0 (oz1347 fi_6017.2 z3.1 z3.2) (oz1421 w47) (oz1361 kn0) (oz1362 kn0)) (by decide) ?_
            intro vg55 ig55 ag55 qg55 rg55 kg55 hg55
            have hGg55 := kG_call hJ1 kg55 (by decide +kernel)
            exact ft_ret mi_k12 (by rfl) (hP vg55 _ _ _ _ hGg55 trivial)
          by_cases w57 : x2.toInt = 3
          ·
            refine ko_eq (x1 := (35, [(0, .ref 94), (1, .int x1), (2, .int x2), (3, .int x3)], [.int 0, .int x3, .int 3, .int 3, .int x1, .ref 94], (0, 0), ks (ku i 6019 0) a q r)) (by rw [(kj_eq w57 (by decide) : x2 = 3)]) ?_
            refine ko_callI mi_k12.1 (pc := 35) (ls := [(0, .ref 94), (1, .int x1), (2, .int x2), (3, .int x3)]) (st := [.int 0, .int x3, .int 3, .int 3, .int x1, .ref 94]) (h := ks (ku i 6019 0) a q r) (i := (.invokevirtual 35, 3, 13, 0, 9, 0, 297)) (mi_k12.2 _ _ (by rfl)) (ft_invS mi_pq13 (by rfl)) (cy := mi_c13) mi_pq13 rfl (kc13_94_l13_l23_K3 hJ1.I hJ1.R x1 x3 0 (oz1347 fi_6017.2 z3.1 z3.2) (oz1421 w47) (oz1441 kn0) (oz1442 kn0)) (by decide) ?_
            intro vg58 ig58 ag58 qg58 rg58 kg58 hg58
            have hGg58 := kG_call hJ1 kg58 (by decide +kernel)
            exact ft_ret mi_k12 (by rfl) (hP vg58 _ _ _ _ hGg58 trivial)
          exact (oz1408 c5 c6 w48 w51 w54 w57 kn0 kn4).elim
        by_cases w60 : ((a 95).getD x1.toNatClampNeg 0).toInt = 4
        ·
          refine ko_eq (x1 := (35, [(0, .ref 94), (1, .int x1), (2, .int x2), (3, .int x3)], [.int 0, .int x3, .int x2, .int 4, .int x1, .ref 94], (0, 0), ks (ku i 6019 0) a q r)) (by rw [(kj_eq w60 (by decide) : ((a 95).getD x1.toNatClampNeg 0) = 4)]) ?_
          by_cases w61 : x2.toInt = 0
          ·
            refine ko_eq (x1 := (35, [(0, .ref 94), (1, .int x1), (2, .int x2), (3, .int x3)], [.int 0, .int x3, .int 0, .int 4, .int x1, .ref 94], (0, 0), ks (ku i 6019 0) a q r)) (by rw [(kj_eq w61 (by decide) : x2 = 0)]) ?_
            refine ko_callI mi_k12.1 (pc := 35) (ls := [(0, .ref 94), (1, .int x1), (2, .int x2), (3, .int x3)]) (st := [.int 0, .int x3, .int 0, .int 4, .int x1, .ref 94]) (h := ks (ku i 6019 0) a q r) (i := (.invokevirtual 35, 3, 13, 0, 9, 0, 297)) (mi_k12.2 _ _ (by rfl)) (ft_invS mi_pq13 (by rfl)) (cy := mi_c13) mi_pq13 rfl (kc13_94_l14_l20_K4 hJ1.I hJ1.R x1 x3 0 (oz1347 fi_6017.2 z3.1 z3.2) (oz1446 w60) (oz1361 kn0) (oz1362 kn0)) (by decide) ?_
            intro vg62 ig62 ag62 qg62 rg62 kg62 hg62
            have hGg62 := kG_call hJ1 kg62 (by decide +kernel)
            exact ft_ret mi_k12 (by rfl) (hP vg62 _ _ _ _ hGg62 trivial)
          by_cases w64 : x2.toInt = 1
          ·
            refine ko_eq (x1 := (35, [(0, .ref 94), (1, .int x1), (2, .int x2), (3, .int x3)], [.int 0, .int x3, .int 1, .int 4, .int x1, .ref 94], (0, 0), ks (ku i 6019 0) a q r)) (by rw [(kj_eq w64 (by decide) : x2 = 1)]) ?_
            refine ko_callI mi_k12.1 (pc := 35) (ls := [(0, .ref 94), (1, .int x1), (2, .int x2), (3, .int x3)]) (st := [.int 0, .int x3, .int 1, .int 4, .int x1, .ref 94]) (h := ks (ku i 6019 0) a q r) (i := (.invokevirtual 35, 3, 13, 0, 9, 0, 297)) (mi_k12.2 _ _ (by rfl)) (ft_invS mi_pq13 (by rfl)) (cy := mi_c13) mi_pq13 rfl (kc13_94_l14_l21_K4 hJ1.I hJ1.R x1 x3 0 (oz1347 fi_6017.2 z3.1 z3.2) (oz1446 w60) (oz1377 kn0) (oz1391 kn0)) (by decide) ?_
            intro vg65 ig65 ag65 qg65 rg65 kg65 hg65
            have hGg65 := kG_call hJ1 kg65 (by decide +kernel)
            exact ft_ret mi_k12 (by rfl) (hP vg65 _ _ _ _ hGg65 trivial)
          by_cases w67 : x2.toInt = 2
          ·
            refine ko_eq (x1 := (35, [(0, .ref 94), (1, .int x1), (2, .int x2), (3, .int x3)], [.int 0, .int x3, .int 2, .int 4, .int x1, .ref 94], (0, 0), ks (ku i 6019 0) a q r)) (by rw [(kj_eq w67 (by decide) : x2 = 2)]) ?_
            refine ko_callI mi_k12.1 (pc := 35) (ls := [(0, .ref 94), (1, .int x1), (2, .int x2), (3, .int x3)]) (st := [.int 0, .int x3, .int 2, .int 4, .int x1, .ref 94]) (h := ks (ku i 6019 0) a q r) (i := (.invokevirtual 35, 3, 13, 0, 9, 0, 297)) (mi_k12.2 _ _ (by rfl)) (ft_invS mi_pq13 (by rfl)) (cy := mi_c13) mi_pq13 rfl (kc13_94_l14_l22_K4 hJ1.I hJ1.R x1 x3 0 (oz1347 fi_6017.2 z3.1 z3.2) (oz1446 w60) (oz1377 kn0) (oz1378 kn0)) (by decide) ?_
            intro vg68 ig68 ag68 qg68 rg68 kg68 hg68
            have hGg68 := kG_call hJ1 kg68 (by decide +kernel)
            exact ft_ret mi_k12 (by rfl) (hP vg68 _ _ _ _ hGg68 trivial)
          by_cases w70 : x2.toInt = 3
          ·
            refine ko_eq (x1 := (35, [(0, .ref 94), (1, .int x1), (2, .int x2), (3, .int x3)], [.int 0, .int x3, .int 3, .int 4, .int x1, .ref 94], (0, 0), ks (ku i 6019 0) a q r)) (by rw [(kj_eq w70 (by decide) : x2 = 3)]) ?_
            refine ko_callI mi_k12.1 (pc := 35) (ls := [(0, .ref 94), (1, .int x1), (2, .int x2), (3, .int x3)]) (st := [.int 0, .int x3, .int 3, .int 4, .int x1, .ref 94]) (h := ks (ku i 6019 0) a q r) (i := (.invokevirtual 35, 3, 13, 0, 9, 0, 297)) (mi_k12.2 _ _ (by rfl)) (ft_invS mi_pq13 (by rfl)) (cy := mi_c13) mi_pq13 rfl (kc13_94_l14_l23_K4 hJ1.I hJ1.R x1 x3 0 (oz1347 fi_6017.2 z3.1 z3.2) (oz1446 w60) (oz1406 kn0) (oz1466 kn0)) (by decide) ?_
            intro vg71 ig71 ag71 qg71 rg71 kg71 hg71
            have hGg71 := kG_call hJ1 kg71 (by decide +kernel)
            exact ft_ret mi_k12 (by rfl) (hP vg71 _ _ _ _ hGg71 trivial)
          exact (oz1408 c5 c6 w61 w64 w67 w70 kn0 kn4).elim
        by_cases w73 : ((a 95).getD x1.toNatClampNeg 0).toInt = 5
        ·
          refine ko_eq (x1 := (35, [(0, .ref 94), (1, .int x1), (2, .int x2), (3, .int x3)], [.int 0, .int x3, .int x2, .int 5, .int x1, .ref 94], (0, 0), ks (ku i 6019 0) a q r)) (by rw [(kj_eq w73 (by decide) : ((a 95).getD x1.toNatClampNeg 0) = 5)]) ?_
          by_cases w74 : x2.toInt = 0
          ·
            refine ko_eq (x1 := (35, [(0, .ref 94), (1, .int x1), (2, .int x2), (3, .int x3)], [.int 0, .int x3, .int 0, .int 5, .int x1, .ref 94], (0, 0), ks (ku i 6019 0) a q r)) (by rw [(kj_eq w74 (by decide) : x2 = 0)]) ?_
            refine ko_callI mi_k12.1 (pc := 35) (ls := [(0, .ref 94), (1, .int x1), (2, .int x2), (3, .int x3)]) (st := [.int 0, .int x3, .int 0, .int 5, .int x1, .ref 94]) (h := ks (ku i 6019 0) a q r) (i := (.invokevirtual 35, 3, 13, 0, 9, 0, 297)) (mi_k12.2 _ _ (by rfl)) (ft_invS mi_pq13 (by rfl)) (cy := mi_c13) mi_pq13 rfl (kc13_94_l15_l20_K5 hJ1.I hJ1.R x1 x3 0 (oz1347 fi_6017.2 z3.1 z3.2) (oz1470 w73) (oz1349 kn0) (oz1350 kn0)) (by decide) ?_
            intro vg75 ig75 ag75 qg75 rg75 kg75 hg75
            have hGg75 := kG_call hJ1 kg75 (by decide +kernel)
            exact ft_ret mi_k12 (by rfl) (hP vg75 _ _ _ _ hGg75 trivial)
          by_cases w77 : x2.toInt = 1
          ·
            refine ko_eq (x1 := (35, [(0, .ref 94), (1, .int x1), (2, .int x2), (3, .int x3)], [.int 0, .int x3, .int 1, .int 5, .int x1, .ref 94], (0, 0), ks (ku i 6019 0) a q r)) (by rw [(kj_eq w77 (by decide) : x2 = 1)]) ?_
            refine ko_callI mi_k12.1 (pc := 35) (ls := [(0, .ref 94), (1, .int x1), (2, .int x2), (3, .int x3)]) (st := [.int 0, .int x3, .int 1, .int 5, .int x1, .ref 94]) (h := ks (ku i 6019 0) a q r) (i := (.invokevirtual 35, 3, 13, 0, 9, 0, 297)) (mi_k12.2 _ _ (by rfl)) (ft_invS mi_pq13 (by rfl)) (cy := mi_c13) mi_pq13 rfl (kc13_94_l15_l21_K5 hJ1.I hJ1.R x1 x3 0 (oz1347 fi_6017.2 z3.1 z3.2) (oz1470 w73) (oz1406 kn0) (oz1378 kn0)) (by decide) ?_
            intro vg78 ig78 ag78 qg78 rg78 kg78 hg78
            have hGg78 := kG_call hJ1 kg78 (by decide +kernel)
            exact ft_ret mi_k12 (by rfl) (hP vg78 _ _ _ _ hGg78 trivial)
          by_cases w80 : x2.toInt = 2
          ·
            refine ko_eq (x1 := (35, [(0, .ref 94), (1, .int x1), (2, .int x2), (3, .int x3)], [.int 0, .int x3, .int 2, .int 5, .int x1, .ref 94], (0, 0), ks (ku i 6019 0) a q r)) (by rw [(kj_eq w80 (by decide) : x2 = 2)]) ?_
            refine ko_callI mi_k12.1 (pc := 35) (ls := [(0, .ref 94), (1, .int x1), (2, .int x2), (3, .int x3)]) (st := [.int 0, .int x3, .int 2, .int 5, .int x1, .ref 94]) (h := ks (ku i 6019 0) a q r) (i := (.invokevirtual 35, 3, 13, 0, 9, 0, 297)) (mi_k12.2 _ _ (by rfl)) (ft_invS mi_pq13 (by rfl)) (cy := mi_c13) mi_pq13 rfl (kc13_94_l15_l22_K5 hJ1.I hJ1.R x1 x3 0 (oz1347 fi_6017.2 z3.1 z3.2) (oz1470 w73) (oz1361 kn0) (oz1362 kn0)) (by decide) ?_
            intro vg81 ig81 ag81 qg81 rg81 kg81 hg81
            have hGg81 := kG_call hJ1 kg81 (by decide +kernel)
            exact ft_ret mi_k12 (by rfl) (hP vg81 _ _ _ _ hGg81 trivial)
          by_cases w83 : x2.toInt = 3
          ·
            refine ko_eq (x1 := (35, [(0, .ref 94), (1, .int x1), (2, .int x2), (3, .int x3)], [.int 0, .int x3, .int 3, .int 5, .int x1, .ref 94], (0, 0), ks (ku i 6019 0) a q r)) (by rw [(kj_eq w83 (by decide) : x2 = 3)]) ?_
            refine ko_callI mi_k12.1 (pc := 35) (ls := [(0, .ref 94), (1, .int x1), (2, .int x2), (3, .int x3)]) (st := [.int 0, .int x3, .int 3, .int 5, .int x1, .ref 94]) (h := ks (ku i 6019 0) a q r) (i := (.invokevirtual 35, 3, 13, 0, 9, 0, 297)) (mi_k12.2 _ _ (by rfl)) (ft_invS mi_pq13 (by rfl)) (cy := mi_c13) mi_pq13 rfl (kc13_94_l15_l23_K5 hJ1.I hJ1.R x1 x3 0 (oz1347 fi_6017.2 z3.1 z3.2) (oz1470 w73) (oz1481 kn0) (oz1466 kn0)) (by decide) ?_
            intro vg84 ig84 ag84 qg84 rg84 kg84 hg84
            have hGg84 := kG_call hJ1 kg84 (by decide +kernel)
            exact ft_ret mi_k12 (by rfl) (hP vg84 _ _ _ _ hGg84 trivial)
          exact (oz1408 c5 c6 w74 w77 w80 w83 kn0 kn4).elim
        by_cases w86 : ((a 95).getD x1.toNatClampNeg 0).toInt = 6
        ·
          refine ko_eq (x1 := (35, [(0, .ref 94), (1, .int x1), (2, .int x2), (3, .int x3)], [.int 0, .int x3, .int x2, .int 6, .int x1, .ref 94], (0, 0), ks (ku i 6019 0) a q r)) (by rw [(kj_eq w86 (by decide) : ((a 95).getD x1.toNatClampNeg 0) = 6)]) ?_
          by_cases w87 : x2.toInt = 0
          ·
            refine ko_eq (x1 := (35, [(0, .ref 94), (1, .int x1), (2, .int x2), (3, .int x3)], [.int 0, .int x3, .int 0, .int 6, .int x1, .ref 94], (0, 0), ks (ku i 6019 0) a q r)) (by rw [(kj_eq w87 (by decide) : x2 = 0)]) ?_
            refine ko_callI mi_k12.1 (pc := 35) (ls := [(0, .ref 94), (1, .int x1), (2, .int x2), (3, .int x3)]) (st := [.int 0, .int x3, .int 0, .int 6, .int x1, .ref 94]) (h := ks (ku i 6019 0) a q r) (i := (.invokevirtual 35, 3, 13, 0, 9, 0, 297)) (mi_k12.2 _ _ (by rfl)) (ft_invS mi_pq13 (by rfl)) (cy := mi_c13) mi_pq13 rfl (kc13_94_l16_l20_K6 hJ1.I hJ1.R x1 x3 0 (oz1347 fi_6017.2 z3.1 z3.2) (oz1484 w86) (oz1361 kn0) (oz1362 kn0)) (by decide) ?_
            intro vg88 ig88 ag88 qg88 rg88 kg88 hg88
            have hGg88 := kG_call hJ1 kg88 (by decide +kernel)
            exact ft_ret mi_k12 (by rfl) (hP vg88 _ _ _ _ hGg88 trivial)
          by_cases w90 : x2.toInt = 1
          ·
            refine ko_eq (x1 := (35, [(0, .ref 94), (1, .int x1), (2, .int x2), (3, .int x3)], [.int 0, .int x3, .int 1, .int 6, .int x1, .ref 94], (0, 0), ks (ku i 6019 0) a q r)) (by rw [(kj_eq w90 (by decide) : x2 = 1)]) ?_
            refine ko_callI mi_k12.1 (pc := 35) (ls := [(0, .ref 94), (1, .int x1), (2, .int x2), (3, .int x3)]) (st := [.int 0, .int x3, .int 1, .int 6, .int x1, .ref 94]) (h := ks (ku i 6019 0) a q r) (i := (.invokevirtual 35, 3, 13, 0, 9, 0, 297)) (mi_k12.2 _ _ (by rfl)) (ft_invS mi_pq13 (by rfl)) (cy := mi_c13) mi_pq13 rfl (kc13_94_l16_l21_K6 hJ1.I hJ1.R x1 x3 0 (oz1347 fi_6017.2 z3.1 z3.2) (oz1484 w86) (oz1377 kn0) (oz1391 kn0)) (by decide) ?_
            intro vg91 ig91 ag91 qg91 rg91 kg91 hg91
            have hGg91 := kG_call hJ1 kg91 (by decide +kernel)
            exact ft_ret mi_k12 (by rfl) (hP vg91 _ _ _ _ hGg91 trivial)
          by_cases w93 : x2.toInt = 2
          ·
            refine ko_eq (x1 := (35, [(0, .ref 94), (1, .int x1), (2, .int x2), (3, .int x3)], [.int 0, .int x3, .int 2, .int 6, .int x1, .ref 94], (0, 0), ks (ku i 6019 0) a q r)) (by rw [(kj_eq w93 (by decide) : x2 = 2)]) ?_
            refine ko_callI mi_k12.1 (pc := 35) (ls := [(0, .ref 94), (1, .int x1), (2, .int x2), (3, .int x3)]) (st := [.int 0, .int x3, .int 2, .int 6, .int x1, .ref 94]) (h := ks (ku i 6019 0) a q r) (i := (.invokevirtual 35, 3, 13, 0, 9, 0, 297)) (mi_k12.2 _ _ (by rfl)) (ft_invS mi_pq13 (by rfl)) (cy := mi_c13) mi_pq13 rfl (kc13_94_l16_l22_K6 hJ1.I hJ1.R x1 x3 0 (oz1347 fi_6017.2 z3.1 z3.2) (oz1484 w86) (oz1349 kn0) (oz1350 kn0)) (by decide) ?_
            intro vg94 ig94 ag94 qg94 rg94 kg94 hg94
            have hGg94 := kG_call hJ1 kg94 (by decide +kernel)
            exact ft_ret mi_k12 (by rfl) (hP vg94 _ _ _ _ hGg94 trivial)
          by_cases w96 : x2.toInt = 3
          ·
            refine ko_eq (x1 := (35, [(0, .ref 94), (1, .int x1), (2, .int x2), (3, .int x3)], [.int 0, .int x3, .int 3, .int 6, .int x1, .ref 94], (0, 0), ks (ku i 6019 0) a q r)) (by rw [(kj_eq w96 (by decide) : x2 = 3)]) ?_
            refine ko_callI mi_k12.1 (pc := 35) (ls := [(0, .ref 94), (1, .int x1), (2, .int x2), (3, .int x3)]) (st := [.int 0, .int x3, .int 3, .int 6, .int x1, .ref 94]) (h := ks (ku i 6019 0) a q r) (i := (.invokevirtual 35, 3, 13, 0, 9, 0, 297)) (mi_k12.2 _ _ (by rfl)) (ft_invS mi_pq13 (by rfl)) (cy := mi_c13) mi_pq13 rfl (kc13_94_l16_l23_K6 hJ1.I hJ1.R x1 x3 0 (oz1347 fi_6017.2 z3.1 z3.2) (oz1484 w86) (oz1406 kn0) (oz1407 kn0)) (by decide) ?_
            intro vg97 ig97 ag97 qg97 rg97 kg97 hg97
            have hGg97 := kG_call hJ1 kg97 (by decide +kernel)
            exact ft_ret mi_k12 (by rfl) (hP vg97 _ _ _ _ hGg97 trivial)
          exact (oz1408 c5 c6 w87 w90 w93 w96 kn0 kn4).elim
        by_cases w99 : ((a 95).getD x1.toNatClampNeg 0).toInt = 7
        ·
          refine ko_eq (x1 := (35, [(0, .ref 94), (1, .int x1), (2, .int x2), (3, .int x3)], [.int 0, .int x3, .int x2, .int 7, .int x1, .ref 94], (0, 0), ks (ku i 6019 0) a q r)) (by rw [(kj_eq w99 (by decide) : ((a 95).getD x1.toNatClampNeg 0) = 7)]) ?_
          by_cases w100 : x2.toInt = 0
          ·
            refine ko_eq (x1 := (35, [(0, .ref 94), (1, .int x1), (2, .int x2), (3, .int x3)], [.int 0, .int x3, .int 0, .int 7, .int x1, .ref 94], (0, 0), ks (ku i 6019 0) a q r)) (by rw [(kj_eq w100 (by decide) : x2 = 0)]) ?_
            refine ko_callI mi_k12.1 (pc := 35) (ls := [(0, .ref 94), (1, .int x1), (2, .int x2), (3, .int x3)]) (st := [.int 0, .int x3, .int 0, .int 7, .int x1, .ref 94]) (h := ks (ku i 6019 0) a q r) (i := (.invokevirtual 35, 3, 13, 0, 9, 0, 297)) (mi_k12.2 _ _ (by rfl)) (ft_invS mi_pq13 (by rfl)) (cy := mi_c13) mi_pq13 rfl (kc13_94_l17_l20_K7 hJ1.I hJ1.R x1 x3 0 (oz1347 fi_6017.2 z3.1 z3.2) (oz1497 r7.2 w99) (oz1361 kn0) (oz1362 kn0)) (by decide) ?_
            intro vg101 ig101 ag101 qg101 rg101 kg101 hg101
            have hGg101 := kG_call hJ1 kg101 (by decide +kernel)
            exact ft_ret mi_k12 (by rfl) (hP vg101 _ _ _ _ hGg101 trivial)
          by_cases w103 : x2.toInt = 1
          ·
            refine ko_eq (x1 := (35, [(0, .ref 94), (1, .int x1), (2, .int x2), (3, .int x3)], [.int 0, .int x3, .int 1, .int 7, .int x1, .ref 94], (0, 0), ks (ku i 6019 0) a q r)) (by rw [(kj_eq w103 (by decide) : x2 = 1)]) ?_
            refine ko_callI mi_k12.1 (pc := 35) (ls := [(0, .ref 94), (1, .int x1), (2, .int x2), (3, .int x3)]) (st := [.int 0, .int x3, .int 1, .int 7, .int x1, .ref 94]) (h := ks (ku i 6019 0) a q r) (i := (.invokevirtual 35, 3, 13, 0, 9, 0, 297)) (mi_k12.2 _ _ (by rfl)) (ft_invS mi_pq13 (by rfl)) (cy := mi_c13) mi_pq13 rfl (kc13_94_l17_l21_K7 hJ1.I hJ1.R x1 x3 0 (oz1347 fi_6017.2 z3.1 z3.2) (oz1497 r7.2 w99) (oz1406 kn0) (oz1466 kn0)) (by decide) ?_
            intro vg104 ig104 ag104 qg104 rg104 kg104 hg104
            have hGg104 := kG_call hJ1 kg104 (by decide +kernel)
            exact ft_ret mi_k12 (by rfl) (hP vg104 _ _ _ _ hGg104 trivial)
          by_cases w106 : x2.toInt = 2
          ·
            refine ko_eq (x1 := (35, [(0, .ref 94), (1, .int x1), (2, .int x2), (3, .int x3)], [.int 0, .int x3, .int 2, .int 7, .int x1, .ref 94], (0, 0), ks (ku i 6019 0) a q r)) (by rw [(kj_eq w106 (by decide) : x2 = 2)]) ?_
            refine ko_callI mi_k12.1 (pc := 35) (ls := [(0, .ref 94), (1, .int x1), (2, .int x2), (3, .int x3)]) (st := [.int 0, .int x3, .int 2, .int 7, .int x1, .ref 94]) (h := ks (ku i 6019 0) a q r) (i := (.invokevirtual 35, 3, 13, 0, 9, 0, 297)) (mi_k12.2 _ _ (by rfl)) (ft_invS mi_pq13 (by rfl)) (cy := mi_c13) mi_pq13 rfl (kc13_94_l17_l22_K7 hJ1.I hJ1.R x1 x3 0 (oz1347 fi_6017.2 z3.1 z3.2) (oz1497 r7.2 w99) (oz1377 kn0) (oz1378 kn0)) (by decide) ?_
            intro vg107 ig107 ag107 qg107 rg107 kg107 hg107
            have hGg107 := kG_call hJ1 kg107 (by decide +kernel)
            exact ft_ret mi_k12 (by rfl) (hP vg107 _ _ _ _ hGg107 trivial)
          by_cases w109 : x2.toInt = 3
          ·
            refine ko_eq (x1 := (35, [(0, .ref 94), (1, .int x1), (2, .int x2), (3, .int x3)], [.int 0, .int x3, .int 3, .int 7, .int x1, .ref 94], (0, 0), ks (ku i 6019 0) a q r)) (by rw [(kj_eq w109 (by decide) : x2 = 3)]) ?_
            refine ko_callI mi_k12.1 (pc := 35) (ls := [(0, .ref 94), (1, .int x1), (2, .int x2), (3, .int x3)]) (st := [.int 0, .int x3, .int 3, .int 7, .int x1, .ref 94]) (h := ks (ku i 6019 0) a q r) (i := (.invokevirtual 35, 3, 13, 0, 9, 0, 297)) (mi_k12.2 _ _ (by rfl)) (ft_invS mi_pq13 (by rfl)) (cy := mi_c13) mi_pq13 rfl (kc13_94_l17_l23_K7 hJ1.I hJ1.R x1 x3 0 (oz1347 fi_6017.2 z3.1 z3.2) (oz1497 r7.2 w99) (oz1481 kn0) (oz1523 kn0)) (by decide) ?_
            intro vg110 ig110 ag110 qg110 rg110 kg110 hg110
            have hGg110 := kG_call hJ1 kg110 (by decide +kernel)
            exact ft_ret mi_k12 (by rfl) (hP vg110 _ _ _ _ hGg110 trivial)
          exact (oz1408 c5 c6 w100 w103 w106 w109 kn0 kn4).elim
        exact (oz1524 r7.1 r7.2 w21 w34 w47 w60 w73 w8 w86 w99).elim
      ·
        have c112 : (4 : Int32).toInt ≤ x2.toInt := kd_ltF c; clear c
        first | refine ft_goS mi_k12 1 23 [.int 0] (by rfl) ?_ | refine ft_go mi_k12 1 23 [(0, .ref 94), (1, .int x1), (2, .int x2), (3, .int x3)] [.int 0] (ku i 6019 0) a q r (by rfl) ?_
        exact ft_ret mi_k12 (by rfl) (hP 0 _ _ _ _ hJ1 trivial)
  ·
    subst eg2
    first | refine ft_goS mi_k12 2 23 [.int 0] (by rfl) ?_ | refine ft_go mi_k12 2 23 [(0, .ref 94), (1, .int x1), (2, .int x2), (3, .int x3)] [.int 0] (ku i 6019 0) a q r (by rfl) ?_
    exact ft_ret mi_k12 (by rfl) (hP 0 _ _ _ _ hJ1 trivial)
def w111_0 : kW := ([6019], [96], [], [])
set_option maxRecDepth 100000 in
theorem kc111_0 {i : Nat → Int32} {a : Nat → List Int32} {q : Nat → List Int64} {r : Nat → Nat} (hI : kI i a q) (hr : kr r) (x1 : Int32) (x2 : Int32) (x3 : Int32) : km 21 111 [.ref 0, .int x1, .int x2, .int x3] (ks i a q r) (kVI w111_0 i a q r (fun v i1 a1 q1 r1 => True)) := by
  have hG := kG_self w111_0 hI hr
  refine km_ofI (q := (mi_h111, mi_c111)) rfl (by decide) (Nat.le_of_ble_eq_true rfl) ?_
  intro P hP
  first | refine fo_goL mi_k111 fz111_0_5_7 [(0, .ref 0), (1, .int x1), (2, .int x2), (3, .int x3)] [.int x3, .int x2, .int x1, .ref 94] (by rfl) ?_ | refine ft_go mi_k111 5 7 [(0, .ref 0), (1, .int x1), (2, .int x2), (3, .int x3)] [.int x3, .int x2, .int x1, .ref 94] i a q r (by rfl) ?_
  refine ko_callI mi_k111.1 (pc := 7) (ls := [(0, .ref 0), (1, .int x1), (2, .int x2), (3, .int x3)]) (st := [.int x3, .int x2, .int x1, .ref 94]) (h := ks i a q r) (i := (.invokevirtual 292, 3, 12, 0, 9, 0, 295)) (mi_k111.2 _ _ (by rfl)) (ft_invS mi_pq12 (by rfl)) (cy := mi_c12) mi_pq12 rfl (kc12_94 hG.I hG.R x1 x2 x3) (by decide) ?_
  intro vg1 ig1 ag1 qg1 rg1 kg1 hg1
  have hGg1 := kG_call hG kg1 (by decide +kernel)
  exact ft_ret mi_k111 (by rfl) (hP vg1 _ _ _ _ hGg1 trivial)
def w209_116 : kW := ([7457], [135], [], [])
set_option maxRecDepth 100000 in
theorem kc209_116 {i : Nat → Int32} {a : Nat → List Int32} {q : Nat → List Int64} {r : Nat → Nat} (hI : kI i a q) (hr : kr r) (x1 : Int32) (hp0 : ((0 : Int) ≤ (i 7457).toInt) ∧ ((i 7457).toInt ≤ 999)) : km 1 209 [.ref 116, .int x1] (ks i a q r) (kVN w209_116 i a q r (fun i1 a1 q1 r1 => (i1 7457).toInt = ((i 7457).toInt + 1))) := by
  have hG := kG_self w209_116 hI hr
  refine km_ofN (q := (mi_h209, mi_c209)) rfl (by decide) (Nat.le_of_ble_eq_true rfl) ?_
  intro P hP
  have fi_7457 : ((0 : Int) ≤ (i 7457).toInt) ∧ ((i 7457).toInt ≤ 1000) := hG.I.1 7457
  first | refine ft_goL mi_k209 3 6 [(0, .ref 116), (1, .int x1)] [.int 24, .int (i 7457)] (by rfl) ?_ | refine ft_go mi_k209 3 6 [(0, .ref 116), (1, .int x1)] [.int 24, .int (i 7457)] i a q r (by rfl) ?_
  refine ft_ifS mi_k209 (decide (24 ≤ (i 7457))) 19 9 [] (by rfl) (fun c => ?_) (fun c => ?_)
  ·
    have c1 : (24 : Int32).toInt ≤ (i 7457).toInt := kd_le c; clear c
    have s2 : ((i 7457) + 1).toInt = (i 7457).toInt + (1 : Int32).toInt := kd_add (oz1332 c1 kn24 kn1) (oz951 fi_7457.2 kn1)
    have hJ3 := kG_i hG 7457 rfl (v := ((i 7457) + 1)) ⟨(oz1333 c1 s2 kn24 kn1), (oz1526 hp0.2 s2 kn1)⟩
    first | refine fo_goI mi_k209 fz209_19_6_29 [] (ku i 7457 ((i 7457) + 1)) (by rfl) ?_ | refine ft_go mi_k209 6 29 [(0, .ref 116), (1, .int x1)] [] (ku i 7457 ((i 7457) + 1)) a q r (by rfl) ?_
    exact ft_ret mi_k209 (by rfl) (hP  _ _ _ _ hJ3 (oz748 s2 kn1))
  ·
    have c4 : (i 7457).toInt < (24 : Int32).toInt := kd_leF c; clear c
    first | refine fo_goS mi_k209 fz209_9_5_18 [.int x1, .int (i 7457), .ref 135] (by rfl) ?_ | refine ft_go mi_k209 5 18 [(0, .ref 116), (1, .int x1)] [.int x1, .int (i 7457), .ref 135] i a q r (by rfl) ?_
    refine ko_iast3 mi_k209.1 (n := 24) (c := 24) (ax := (0, 0, 0, 0, 0)) (mi_k209.2 _ _ (by rfl)) (by rfl) (ksG135 _ _ _ _) (ksA135 _ _ _ _) (hG.I.2.1 135) rfl (oz3 fi_7457.1) (oz1343 c4 kn24) ?_
    intro a5 ea5 fa5
    have hJ5 := kG_a3 hG 135 rfl ea5 fa5 (kd_bd _)
    have s6 : ((i 7457) + 1).toInt = (i 7457).toInt + (1 : Int32).toInt := kd_add (oz12 fi_7457.1 kn1) (oz951 fi_7457.2 kn1)
    have hJ7 := kG_i hJ5 7457 rfl (v := ((i 7457) + 1)) ⟨(oz14 fi_7457.1 s6 kn1), (oz1526 hp0.2 s6 kn1)⟩
    first | refine fo_goI mi_k209 fz209_19_6_29 [] (ku i 7457 ((i 7457) + 1)) (by rfl) ?_ | refine ft_go mi_k209 6 29 [(0, .ref 116), (1, .int x1)] [] (ku i 7457 ((i 7457) + 1)) a5 q r (by rfl) ?_
    exact ft_ret mi_k209 (by rfl) (hP  _ _ _ _ hJ7 (oz748 s6 kn1))
def w210_116_l10_K0 : kW := ([7457], [135], [], [])
set_option maxRecDepth 100000 in
theorem kc210_116_l10_K0 {i : Nat → Int32} {a : Nat → List Int32} {q : Nat → List Int64} {r : Nat → Nat} (hI : kI i a q) (hr : kr r) (x1 : Int32) (x3 : Int32) (hp0 : ((0 : Int) ≤ x1.toInt) ∧ (x1.toInt ≤ 49)) (hp1 : ((a 134).getD x1.toNatClampNeg 0).toInt = 0) (hp2 : ((0 : Int) ≤ (i 7457).toInt) ∧ (((i 7457).toInt + 1) ≤ 900)) : km 3 210 [.ref 116, .int x1, .int 0, .int x3] (ks i a q r) (kVI w210_116_l10_K0 i a q r (fun v i1 a1 q1 r1 => (i1 7457).toInt = ((i 7457).toInt + 1))) := by
  have hG := kG_self w210_116_l10_K0 hI hr
  refine km_ofI (q := (mi_h210, mi_c210)) rfl (by decide) (Nat.le_of_ble_eq_true rfl) ?_
  intro P hP
  have r1 : ((0 : Int) ≤ ((a 134).getD x1.toNatClampNeg 0).toInt) ∧ (((a 134).getD x1.toNatClampNeg 0).toInt ≤ 7) := hG.I.2.2.1 134 (x1.toNatClampNeg)
  have fi_7457 : ((0 : Int) ≤ (i 7457).toInt) ∧ ((i 7457).toInt ≤ 1000) := hG.I.1 7457
  first | refine ft_goL mi_k210 4 38 [(0, .ref 116), (1, .int x1), (2, .int 0), (3, .int x3)] [.int 1, .ref 116] (by rfl) ?_ | refine ft_go mi_k210 4 38 [(0, .ref 116), (1, .int x1), (2, .int 0), (3, .int x3)] [.int 1, .ref 116] i a q r (by rfl) ?_
  refine ko_callN mi_k210.1 (pc := 38) (ls := [(0, .ref 116), (1, .int x1), (2, .int 0), (3, .int x3)]) (st := [.int 1, .ref 116]) (h := ks i a q r) (i := (.invokevirtual 351, 3, 209, 0, 9, 0, 464)) (mi_k210.2 _ _ (by rfl)) (ft_invS mi_pq209 (by rfl)) (cy := mi_c209) mi_pq209 rfl (kc209_116 hG.I hG.R 1 (oz1529 fi_7457.1 hp2.2)) (by decide) ?_
  intro ig2 ag2 qg2 rg2 kg2 hg2
  have hGg2 := kG_call hG kg2 (by decide +kernel)
  have z3 : (ig2 7457).toInt = ((i 7457).toInt + 1) := hg2
  have b4 : ((-2147483648 : Int) ≤ x3.toInt) ∧ (x3.toInt ≤ 2147483647) := kd_bd x3
  have b5 : ((-2147483648 : Int) ≤ x1.toInt) ∧ (x1.toInt ≤ 2147483647) := kd_bd x1
  first | refine fo_goS mi_k210 fz210_41_3_44 [.int (x3 + x1)] (by rfl) ?_ | refine ft_go mi_k210 3 44 [(0, .ref 116), (1, .int x1), (2, .int 0), (3, .int x3)] [.int (x3 + x1)] ig2 ag2 qg2 rg2 (by rfl) ?_
  exact ft_ret mi_k210 (by rfl) (hP (x3 + x1) _ _ _ _ hGg2 (oz1355 z3))
def w211_116_l10_K0 : kW := ([7457], [135], [], [])
set_option maxRecDepth 100000 in
theorem kc211_116_l10_K0 {i : Nat → Int32} {a : Nat → List Int32} {q : Nat → List Int64} {r : Nat → Nat} (hI : kI i a q) (hr : kr r) (x1 : Int32) (x3 : Int32) (hp0 : ((0 : Int) ≤ x1.toInt) ∧ (x1.toInt ≤ 49)) (hp1 : ((a 134).getD x1.toNatClampNeg 0).toInt = 0) (hp2 : ((0 : Int) ≤ (i 7457).toInt) ∧ (((i 7457).toInt + 2) ≤ 900)) : km 5 211 [.ref 116, .int x1, .int 0, .int x3] (ks i a q r) (kVI w211_116_l10_K0 i a q r (fun v i1 a1 q1 r1 => (i1 7457).toInt = ((i 7457).toInt + 2))) := by
  have hG := kG_self w211_116_l10_K0 hI hr
  refine km_ofI (q := (mi_h211, mi_c211)) rfl (by decide) (Nat.le_of_ble_eq_true rfl) ?_
  intro P hP
  have r1 : ((0 : Int) ≤ ((a 134).getD x1.toNatClampNeg 0).toInt) ∧ (((a 134).getD x1.toNatClampNeg 0).toInt ≤ 7) := hG.I.2.2.1 134 (x1.toNatClampNeg)
  have fi_7457 : ((0 : Int) ≤ (i 7457).toInt) ∧ ((i 7457).toInt ≤ 1000) := hG.I.1 7457
  first | refine ft_goL mi_k211 4 51 [(0, .ref 116), (1, .int x1), (2, .int 0), (3, .int x3)] [.int 10, .ref 116] (by rfl) ?_ | refine ft_go mi_k211 4 51 [(0, .ref 116), (1, .int x1), (2, .int 0), (3, .int x3)] [.int 10, .ref 116] i a q r (by rfl) ?_
  refine ko_callN mi_k211.1 (pc := 51) (ls := [(0, .ref 116), (1, .int x1), (2, .int 0), (3, .int x3)]) (st := [.int 10, .ref 116]) (h := ks i a q r) (i := (.invokevirtual 351, 3, 209, 0, 9, 0, 464)) (mi_k211.2 _ _ (by rfl)) (ft_invS mi_pq209 (by rfl)) (cy := mi_c209) mi_pq209 rfl (kc209_116 hG.I hG.R 10 (oz1528 fi_7457.1 hp2.2)) (by decide) ?_
  intro ig2 ag2 qg2 rg2 kg2 hg2
  have hGg2 := kG_call hG kg2 (by decide +kernel)
  have fig2_7457 : ((0 : Int) ≤ (ig2 7457).toInt) ∧ ((ig2 7457).toInt ≤ 1000) := hGg2.I.1 7457
  have z3 : (ig2 7457).toInt = ((i 7457).toInt + 1) := hg2
  first | refine fo_goS mi_k211 fz211_54_5_61 [.int x1, .ref 134, .int x1, .ref 116] (by rfl) ?_ | refine ft_go mi_k211 5 61 [(0, .ref 116), (1, .int x1), (2, .int 0), (3, .int x3)] [.int x1, .ref 134, .int x1, .ref 116] ig2 ag2 qg2 rg2 (by rfl) ?_
  refine ko_iald3 mi_k211.1 (n := 50) (c := 50) (ax := (0, 0, 0, 0, 0)) (mi_k211.2 _ _ (by rfl)) (by rfl) (ksG134 _ _ _ _) (hGg2.I.2.1 134) rfl (oz3 hp0.1) (oz1336 hp0.2) ?_
  have r4 : ((0 : Int) ≤ ((ag2 134).getD x1.toNatClampNeg 0).toInt) ∧ (((ag2 134).getD x1.toNatClampNeg 0).toInt ≤ 7) := hGg2.I.2.2.1 134 (x1.toNatClampNeg)
  have u5 : ((ag2 134).getD x1.toNatClampNeg 0).toInt = ((a 134).getD x1.toNatClampNeg 0).toInt := congrArg (fun z : List Int32 => (z.getD x1.toNatClampNeg 0).toInt) (kg2.fa 134 rfl)
  refine ko_top (kj_eq (oz1344 hp1 r4.1 u5) (by decide) : ((ag2 134).getD x1.toNatClampNeg 0) = 0) ?_
  first | refine fo_goS mi_k211 fz211_62_1_63 [.int x3, .int 0, .int x1, .ref 116] (by rfl) ?_ | refine ft_go mi_k211 1 63 [(0, .ref 116), (1, .int x1), (2, .int 0), (3, .int x3)] [.int x3, .int 0, .int x1, .ref 116] ig2 ag2 qg2 rg2 (by rfl) ?_
  refine ko_callI mi_k211.1 (pc := 63) (ls := [(0, .ref 116), (1, .int x1), (2, .int 0), (3, .int x3)]) (st := [.int x3, .int 0, .int x1, .ref 116]) (h := ks ig2 ag2 qg2 rg2) (i := (.invokevirtual 354, 3, 210, 0, 9, 0, 463)) (mi_k211.2 _ _ (by rfl)) (ft_invS mi_pq210 (by rfl)) (cy := mi_c210) mi_pq210 rfl (kc210_116_l10_K0 hGg2.I hGg2.R x1 x3 (oz1339 hp0.1 hp0.2) (oz1344 hp1 r4.1 u5) (oz1530 fig2_7457.1 hp2.2 z3)) (by decide) ?_
  intro vg6 ig6 ag6 qg6 rg6 kg6 hg6
  have hGg6 := kG_call hGg2 kg6 (by decide +kernel)
  have z7 : (ig6 7457).toInt = ((ig2 7457).toInt + 1) := hg6
  have b8 : ((-2147483648 : Int) ≤ vg6.toInt) ∧ (vg6.toInt ≤ 2147483647) := kd_bd vg6
  first | refine fo_goS mi_k211 fz211_66_2_68 [.int (vg6 * 2)] (by rfl) ?_ | refine ft_go mi_k211 2 68 [(0, .ref 116), (1, .int x1), (2, .int 0), (3, .int x3)] [.int (vg6 * 2)] ig6 ag6 qg6 rg6 (by rfl) ?_
  exact ft_ret mi_k211 (by rfl) (hP (vg6 * 2) _ _ _ _ hGg6 (oz1531 z3 z7))
def w212_116_l10_K0 : kW := ([7457], [135], [], [])
set_option maxRecDepth 100000 in
theorem kc212_116_l10_K0 {i : Nat → Int32} {a : Nat → List Int32} {q : Nat → List Int64} {r : Nat → Nat} (hI : kI i a q) (hr : kr r) (x1 : Int32) (x3 : Int32) (hp0 : ((0 : Int) ≤ x1.toInt) ∧ (x1.toInt ≤ 49)) (hp1 : ((a 134).getD x1.toNatClampNeg 0).toInt = 0) (hp2 : ((0 : Int) ≤ (i 7457).toInt) ∧ (((i 7457).toInt + 1) ≤ 900)) : km 3 212 [.ref 116, .int x1, .int 0, .int x3] (ks i a q r) (kVI w212_116_l10_K0 i a q r (fun v i1 a1 q1 r1 => (i1 7457).toInt = ((i 7457).toInt + 1))) := by
  have hG := kG_self w212_116_l10_K0 hI hr
  refine km_ofI (q := (mi_h212, mi_c212)) rfl (by decide) (Nat.le_of_ble_eq_true rfl) ?_
  intro P hP
  have r1 : ((0 : Int) ≤ ((a 134).getD x1.toNatClampNeg 0).toInt) ∧ (((a 134).getD x1.toNatClampNeg 0).toInt ≤ 7) := hG.I.2.2.1 134 (x1.toNatClampNeg)
  have fi_7457 : ((0 : Int) ≤ (i 7457).toInt) ∧ ((i 7457).toInt ≤ 1000) := hG.I.1 7457
  first | refine ft_goL mi_k212 4 39 [(0, .ref 116), (1, .int x1), (2, .int 0), (3, .int x3)] [.int 11, .ref 116] (by rfl) ?_ | refine ft_go mi_k212 4 39 [(0, .ref 116), (1, .int x1), (2, .int 0), (3, .int x3)] [.int 11, .ref 116] i a q r (by rfl) ?_
  refine ko_callN mi_k212.1 (pc := 39) (ls := [(0, .ref 116), (1, .int x1), (2, .int 0), (3, .int x3)]) (st := [.int 11, .ref 116]) (h := ks i a q r) (i := (.invokevirtual 351, 3, 209, 0, 9, 0, 464)) (mi_k212.2 _ _ (by rfl)) (ft_invS mi_pq209 (by rfl)) (cy := mi_c209) mi_pq209 rfl (kc209_116 hG.I hG.R 11 (oz1529 fi_7457.1 hp2.2)) (by decide) ?_
  intro ig2 ag2 qg2 rg2 kg2 hg2
  have hGg2 := kG_call hG kg2 (by decide +kernel)
  have z3 : (ig2 7457).toInt = ((i 7457).toInt + 1) := hg2
  first | refine fo_goS mi_k212 fz212_42_3_45 [.int (x3 ^^^ x1)] (by rfl) ?_ | refine ft_go mi_k212 3 45 [(0, .ref 116), (1, .int x1), (2, .int 0), (3, .int x3)] [.int (x3 ^^^ x1)] ig2 ag2 qg2 rg2 (by rfl) ?_
  exact ft_ret mi_k212 (by rfl) (hP (x3 ^^^ x1) _ _ _ _ hGg2 (oz1355 z3))
def w213_116_l10_K0 : kW := ([7457], [135], [], [])
set_option maxRecDepth 100000 in
theorem kc213_116_l10_K0 {i : Nat → Int32} {a : Nat → List Int32} {q : Nat → List Int64} {r : Nat → Nat} (hI : kI i a q) (hr : kr r) (x1 : Int32) (x3 : Int32) (hp0 : ((0 : Int) ≤ x1.toInt) ∧ (x1.toInt ≤ 49)) (hp1 : ((a 134).getD x1.toNatClampNeg 0).toInt = 0) (hp2 : ((0 : Int) ≤ (i 7457).toInt) ∧ (((i 7457).toInt + 4) ≤ 900)) : km 7 213 [.ref 116, .int x1, .int 0, .int x3] (ks i a q r) (kVI w213_116_l10_K0 i a q r (fun v i1 a1 q1 r1 => (i1 7457).toInt = ((i 7457).toInt + 4))) := by
  have hG := kG_self w213_116_l10_K0 hI hr
  refine km_ofI (q := (mi_h213, mi_c213)) rfl (by decide) (Nat.le_of_ble_eq_true rfl) ?_
  intro P hP
  have r1 : ((0 : Int) ≤ ((a 134).getD x1.toNatClampNeg 0).toInt) ∧ (((a 134).getD x1.toNatClampNeg 0).toInt ≤ 7) := hG.I.2.2.1 134 (x1.toNatClampNeg)
  have fi_7457 : ((0 : Int) ≤ (i 7457).toInt) ∧ ((i 7457).toInt ≤ 1000) := hG.I.1 7457
  first | refine ft_goL mi_k213 4 38 [(0, .ref 116), (1, .int x1), (2, .int 0), (3, .int x3)] [.int 2, .ref 116] (by rfl) ?_ | refine ft_go mi_k213 4 38 [(0, .ref 116), (1, .int x1), (2, .int 0), (3, .int x3)] [.int 2, .ref 116] i a q r (by rfl) ?_
  refine ko_callN mi_k213.1 (pc := 38) (ls := [(0, .ref 116), (1, .int x1), (2, .int 0), (3, .int x3)]) (st := [.int 2, .ref 116]) (h := ks i a q r) (i := (.invokevirtual 351, 3, 209, 0, 9, 0, 464)) (mi_k213.2 _ _ (by rfl)) (ft_invS mi_pq209 (by rfl)) (cy := mi_c209) mi_pq209 rfl (kc209_116 hG.I hG.R 2 (oz1527 fi_7457.1 hp2.2)) (by decide) ?_
  intro ig2 ag2 qg2 rg2 kg2 hg2
  have hGg2 := kG_call hG kg2 (by decide +kernel)
  have fig2_7457 : ((0 : Int) ≤ (ig2 7457).toInt) ∧ ((ig2 7457).toInt ≤ 1000) := hGg2.I.1 7457
  have z3 : (ig2 7457).toInt = ((i 7457).toInt + 1) := hg2
  first | refine fo_goS mi_k213 fz213_41_5_48 [.int x1, .ref 134, .int x1, .ref 116] (by rfl) ?_ | refine ft_go mi_k213 5 48 [(0, .ref 116), (1, .int x1), (2, .int 0), (3, .int x3)] [.int x1, .ref 134, .int x1, .ref 116] ig2 ag2 qg2 rg2 (by rfl) ?_
  refine ko_iald3 mi_k213.1 (n := 50) (c := 50) (ax := (0, 0, 0, 0, 0)) (mi_k213.2 _ _ (by rfl)) (by rfl) (ksG134 _ _ _ _) (hGg2.I.2.1 134) rfl (oz3 hp0.1) (oz1336 hp0.2) ?_
  have r4 : ((0 : Int) ≤ ((ag2 134).getD x1.toNatClampNeg 0).toInt) ∧ (((ag2 134).getD x1.toNatClampNeg 0).toInt ≤ 7) := hGg2.I.2.2.1 134 (x1.toNatClampNeg)
  have u5 : ((ag2 134).getD x1.toNatClampNeg 0).toInt = ((a 134).getD x1.toNatClampNeg 0).toInt := congrArg (fun z : List Int32 => (z.getD x1.toNatClampNeg 0).toInt) (kg2.fa 134 rfl)
  refine ko_top (kj_eq (oz1344 hp1 r4.1 u5) (by decide) : ((ag2 134).getD x1.toNatClampNeg 0) = 0) ?_
  first | refine fo_goS mi_k213 fz213_49_1_50 [.int x3, .int 0, .int x1, .ref 116] (by rfl) ?_ | refine ft_go mi_k213 1 50 [(0, .ref 116), (1, .int x1), (2, .int 0), (3, .int x3)] [.int x3, .int 0, .int x1, .ref 116] ig2 ag2 qg2 rg2 (by rfl) ?_
  refine ko_callI mi_k213.1 (pc := 50) (ls := [(0, .ref 116), (1, .int x1), (2, .int 0), (3, .int x3)]) (st := [.int x3, .int 0, .int x1, .ref 116]) (h := ks ig2 ag2 qg2 rg2) (i := (.invokevirtual 360, 3, 211, 0, 9, 0, 466)) (mi_k213.2 _ _ (by rfl)) (ft_invS mi_pq211 (by rfl)) (cy := mi_c211) mi_pq211 rfl (kc211_116_l10_K0 hGg2.I hGg2.R x1 x3 (oz1339 hp0.1 hp0.2) (oz1344 hp1 r4.1 u5) (oz1532 fig2_7457.1 hp2.2 z3)) (by decide) ?_
  intro vg6 ig6 ag6 qg6 rg6 kg6 hg6
  have hGg6 := kG_call hGg2 kg6 (by decide +kernel)
  have fig6_7457 : ((0 : Int) ≤ (ig6 7457).toInt) ∧ ((ig6 7457).toInt ≤ 1000) := hGg6.I.1 7457
  have z7 : (ig6 7457).toInt = ((ig2 7457).toInt + 2) := hg6
  first | refine fo_goL mi_k213 fz213_53_7_64 [(4, .int vg6), (0, .ref 116), (1, .int x1), (2, .int 0), (3, .int x3)] [.int x1, .ref 134, .int x1, .ref 116, .int vg6] (by rfl) ?_ | refine ft_go mi_k213 7 64 [(4, .int vg6), (0, .ref 116), (1, .int x1), (2, .int 0), (3, .int x3)] [.int x1, .ref 134, .int x1, .ref 116, .int vg6] ig6 ag6 qg6 rg6 (by rfl) ?_
  refine ko_iald3 mi_k213.1 (n := 50) (c := 50) (ax := (0, 0, 0, 0, 0)) (mi_k213.2 _ _ (by rfl)) (by rfl) (ksG134 _ _ _ _) (hGg6.I.2.1 134) rfl (oz3 hp0.1) (oz1336 hp0.2) ?_
  have r8 : ((0 : Int) ≤ ((ag6 134).getD x1.toNatClampNeg 0).toInt) ∧ (((ag6 134).getD x1.toNatClampNeg 0).toInt ≤ 7) := hGg6.I.2.2.1 134 (x1.toNatClampNeg)
  have u9 : ((ag6 134).getD x1.toNatClampNeg 0).toInt = ((ag2 134).getD x1.toNatClampNeg 0).toInt := congrArg (fun z : List Int32 => (z.getD x1.toNatClampNeg 0).toInt) (kg6.fa 134 rfl)
  refine ko_top (kj_eq (oz1533 hp1 r8.1 u5 u9) (by decide) : ((ag6 134).getD x1.toNatClampNeg 0) = 0) ?_
  first | refine fo_goS mi_k213 fz213_65_1_66 [.int 1, .int 0, .int x1, .ref 116, .int vg6] (by rfl) ?_ | refine ft_go mi_k213 1 66 [(4, .int vg6), (0, .ref 116), (1, .int x1), (2, .int 0), (3, .int x3)] [.int 1, .int 0, .int x1, .ref 116, .int vg6] ig6 ag6 qg6 rg6 (by rfl) ?_
  refine ko_callI mi_k213.1 (pc := 66) (ls := [(4, .int vg6), (0, .ref 116), (1, .int x1), (2, .int 0), (3, .int x3)]) (st := [.int 1, .int 0, .int x1, .ref 116, .int vg6]) (h := ks ig6 ag6 qg6 rg6) (i := (.invokevirtual 363, 3, 212, 0, 9, 0, 467)) (mi_k213.2 _ _ (by rfl)) (ft_invS mi_pq212 (by rfl)) (cy := mi_c212) mi_pq212 rfl (kc212_116_l10_K0 hGg6.I hGg6.R x1 1 (oz1339 hp0.1 hp0.2) (oz1533 hp1 r8.1 u5 u9) (oz1534 fig6_7457.1 hp2.2 z3 z7)) (by decide) ?_
  intro vg10 ig10 ag10 qg10 rg10 kg10 hg10
  have hGg10 := kG_call hGg6 kg10 (by decide +kernel)
  have z11 : (ig10 7457).toInt = ((ig6 7457).toInt + 1) := hg10
  have b12 : ((-2147483648 : Int) ≤ vg6.toInt) ∧ (vg6.toInt ≤ 2147483647) := kd_bd vg6
  have b13 : ((-2147483648 : Int) ≤ vg10.toInt) ∧ (vg10.toInt ≤ 2147483647) := kd_bd vg10
  first | refine fo_goS mi_k213 fz213_69_1_70 [.int (vg6 - vg10)] (by rfl) ?_ | refine ft_go mi_k213 1 70 [(4, .int vg6), (0, .ref 116), (1, .int x1), (2, .int 0), (3, .int x3)] [.int (vg6 - vg10)] ig10 ag10 qg10 rg10 (by rfl) ?_
  exact ft_ret mi_k213 (by rfl) (hP (vg6 - vg10) _ _ _ _ hGg10 (oz1535 z11 z3 z7))
set_option maxRecDepth 100000 in
theorem kc208_l01 {i : Nat → Int32} {a : Nat → List Int32} {q : Nat → List Int64} {r : Nat → Nat} (hI : kI i a q) (hr : kr r)  : km 1 208 [.int 1] (ks i a q r) (kPI (ks i a q r) (fun v => v.toInt = 0)) := by
  have hG := kG_self kW0 hI hr
  refine km_ofPI (q := (mi_h208, mi_c208)) rfl (by decide) (Nat.le_of_ble_eq_true rfl) ?_
  intro P hP
  first | refine ft_goL mi_k208 3 45 [(0, .int 1)] [.int 0] (by rfl) ?_ | refine ft_go mi_k208 3 45 [(0, .int 1)] [.int 0] i a q r (by rfl) ?_
  exact ft_ret mi_k208 (by rfl) (hP 0 (oz236 kn0))
def w210_116_l10_K1 : kW := ([7457], [135], [], [])
set_option maxRecDepth 100000 in
theorem kc210_116_l10_K1 {i : Nat → Int32} {a : Nat → List Int32} {q : Nat → List Int64} {r : Nat → Nat} (hI : kI i a q) (hr : kr r) (x1 : Int32) (x3 : Int32) (hp0 : ((0 : Int) ≤ x1.toInt) ∧ (x1.toInt ≤ 49)) (hp1 : ((a 134).getD x1.toNatClampNeg 0).toInt = 1) (hp2 : ((0 : Int) ≤ (i 7457).toInt) ∧ (((i 7457).toInt + 1) ≤ 900)) : km 3 210 [.ref 116, .int x1, .int 0, .int x3] (ks i a q r) (kVI w210_116_l10_K1 i a q r (fun v i1 a1 q1 r1 => (i1 7457).toInt = ((i 7457).toInt + 1))) := by
  have hG := kG_self w210_116_l10_K1 hI hr
  refine km_ofI (q := (mi_h210, mi_c210)) rfl (by decide) (Nat.le_of_ble_eq_true rfl) ?_
  intro P hP
  have r1 : ((0 : Int) ≤ ((a 134).getD x1.toNatClampNeg 0).toInt) ∧ (((a 134).getD x1.toNatClampNeg 0).toInt ≤ 7) := hG.I.2.2.1 134 (x1.toNatClampNeg)
  have fi_7457 : ((0 : Int) ≤ (i 7457).toInt) ∧ ((i 7457).toInt ≤ 1000) := hG.I.1 7457
  first | refine ft_goL mi_k210 4 38 [(0, .ref 116), (1, .int x1), (2, .int 0), (3, .int x3)] [.int 1, .ref 116] (by rfl) ?_ | refine ft_go mi_k210 4 38 [(0, .ref 116), (1, .int x1), (2, .int 0), (3, .int x3)] [.int 1, .ref 116] i a q r (by rfl) ?_
  refine ko_callN mi_k210.1 (pc := 38) (ls := [(0, .ref 116), (1, .int x1), (2, .int 0), (3, .int x3)]) (st := [.int 1, .ref 116]) (h := ks i a q r) (i := (.invokevirtual 351, 3, 209, 0, 9, 0, 464)) (mi_k210.2 _ _ (by rfl)) (ft_invS mi_pq209 (by rfl)) (cy := mi_c209) mi_pq209 rfl (kc209_116 hG.I hG.R 1 (oz1529 fi_7457.1 hp2.2)) (by decide) ?_
  intro ig2 ag2 qg2 rg2 kg2 hg2
  have hGg2 := kG_call hG kg2 (by decide +kernel)
  have z3 : (ig2 7457).toInt = ((i 7457).toInt + 1) := hg2
  have b4 : ((-2147483648 : Int) ≤ x3.toInt) ∧ (x3.toInt ≤ 2147483647) := kd_bd x3
  have b5 : ((-2147483648 : Int) ≤ x1.toInt) ∧ (x1.toInt ≤ 2147483647) := kd_bd x1
  first | refine fo_goS mi_k210 fz210_41_3_44 [.int (x3 + x1)] (by rfl) ?_ | refine ft_go mi_k210 3 44 [(0, .ref 116), (1, .int x1), (2, .int 0), (3, .int x3)] [.int (x3 + x1)] ig2 ag2 qg2 rg2 (by rfl) ?_
  exact ft_ret mi_k210 (by rfl) (hP (x3 + x1) _ _ _ _ hGg2 (oz1355 z3))
def w210_116_l11_K1 : kW := ([7457], [135], [], [])
set_option maxRecDepth 100000 in
theorem kc210_116_l11_K1 {i : Nat → Int32} {a : Nat → List Int32} {q : Nat → List Int64} {r : Nat → Nat} (hI : kI i a q) (hr : kr r) (x1 : Int32) (x3 : Int32) (hp0 : ((0 : Int) ≤ x1.toInt) ∧ (x1.toInt ≤ 49)) (hp1 : ((a 134).getD x1.toNatClampNeg 0).toInt = 1) (hp2 : ((0 : Int) ≤ (i 7457).toInt) ∧ (((i 7457).toInt + 2) ≤ 900)) : km 5 210 [.ref 116, .int x1, .int 1, .int x3] (ks i a q r) (kVI w210_116_l11_K1 i a q r (fun v i1 a1 q1 r1 => (i1 7457).toInt = ((i 7457).toInt + 2))) := by
  have hG := kG_self w210_116_l11_K1 hI hr
  refine km_ofI (q := (mi_h210, mi_c210)) rfl (by decide) (Nat.le_of_ble_eq_true rfl) ?_
  intro P hP
  have r1 : ((0 : Int) ≤ ((a 134).getD x1.toNatClampNeg 0).toInt) ∧ (((a 134).getD x1.toNatClampNeg 0).toInt ≤ 7) := hG.I.2.2.1 134 (x1.toNatClampNeg)
  have fi_7457 : ((0 : Int) ≤ (i 7457).toInt) ∧ ((i 7457).toInt ≤ 1000) := hG.I.1 7457
  first | refine ft_goL mi_k210 4 48 [(0, .ref 116), (1, .int x1), (2, .int 1), (3, .int x3)] [.int 20, .ref 116] (by rfl) ?_ | refine ft_go mi_k210 4 48 [(0, .ref 116), (1, .int x1), (2, .int 1), (3, .int x3)] [.int 20, .ref 116] i a q r (by rfl) ?_
  refine ko_callN mi_k210.1 (pc := 48) (ls := [(0, .ref 116), (1, .int x1), (2, .int 1), (3, .int x3)]) (st := [.int 20, .ref 116]) (h := ks i a q r) (i := (.invokevirtual 351, 3, 209, 0, 9, 0, 464)) (mi_k210.2 _ _ (by rfl)) (ft_invS mi_pq209 (by rfl)) (cy := mi_c209) mi_pq209 rfl (kc209_116 hG.I hG.R 20 (oz1528 fi_7457.1 hp2.2)) (by decide) ?_
  intro ig2 ag2 qg2 rg2 kg2 hg2
  have hGg2 := kG_call hG kg2 (by decide +kernel)
  have fig2_7457 : ((0 : Int) ≤ (ig2 7457).toInt) ∧ ((ig2 7457).toInt ≤ 1000) := hGg2.I.1 7457
  have z3 : (ig2 7457).toInt = ((i 7457).toInt + 1) := hg2
  first | refine fo_goS mi_k210 fz210_51_4_55 [.int x3, .int 0, .int x1, .ref 116] (by rfl) ?_ | refine ft_go mi_k210 4 55 [(0, .ref 116), (1, .int x1), (2, .int 1), (3, .int x3)] [.int x3, .int 0, .int x1, .ref 116] ig2 ag2 qg2 rg2 (by rfl) ?_
  have r4 : ((0 : Int) ≤ ((ag2 134).getD x1.toNatClampNeg 0).toInt) ∧ (((ag2 134).getD x1.toNatClampNeg 0).toInt ≤ 7) := hGg2.I.2.2.1 134 (x1.toNatClampNeg)
  have u5 : ((ag2 134).getD x1.toNatClampNeg 0).toInt = ((a 134).getD x1.toNatClampNeg 0).toInt := congrArg (fun z : List Int32 => (z.getD x1.toNatClampNeg 0).toInt) (kg2.fa 134 rfl)
  refine ko_callI mi_k210.1 (pc := 55) (ls := [(0, .ref 116), (1, .int x1), (2, .int 1), (3, .int x3)]) (st := [.int x3, .int 0, .int x1, .ref 116]) (h := ks ig2 ag2 qg2 rg2) (i := (.invokevirtual 354, 3, 210, 0, 9, 0, 463)) (mi_k210.2 _ _ (by rfl)) (ft_invS mi_pq210 (by rfl)) (cy := mi_c210) mi_pq210 rfl (kc210_116_l10_K1 hGg2.I hGg2.R x1 x3 (oz1339 hp0.1 hp0.2) (oz1383 hp1 u5) (oz1530 fig2_7457.1 hp2.2 z3)) (by decide) ?_
  intro vg6 ig6 ag6 qg6 rg6 kg6 hg6
  have hGg6 := kG_call hGg2 kg6 (by decide +kernel)
  have z7 : (ig6 7457).toInt = ((ig2 7457).toInt + 1) := hg6
  have b8 : ((-2147483648 : Int) ≤ vg6.toInt) ∧ (vg6.toInt ≤ 2147483647) := kd_bd vg6
  first | refine fo_goS mi_k210 fz210_58_2_60 [.int (vg6 + 3)] (by rfl) ?_ | refine ft_go mi_k210 2 60 [(0, .ref 116), (1, .int x1), (2, .int 1), (3, .int x3)] [.int (vg6 + 3)] ig6 ag6 qg6 rg6 (by rfl) ?_
  exact ft_ret mi_k210 (by rfl) (hP (vg6 + 3) _ _ _ _ hGg6 (oz1531 z3 z7))
def w211_116_l10_K1 : kW := ([7457], [135], [], [])
set_option maxRecDepth 100000 in
theorem kc211_116_l10_K1 {i : Nat → Int32} {a : Nat → List Int32} {q : Nat → List Int64} {r : Nat → Nat} (hI : kI i a q) (hr : kr r) (x1 : Int32) (x3 : Int32) (hp0 : ((0 : Int) ≤ x1.toInt) ∧ (x1.toInt ≤ 49)) (hp1 : ((a 134).getD x1.toNatClampNeg 0).toInt = 1) (hp2 : ((0 : Int) ≤ (i 7457).toInt) ∧ (((i 7457).toInt + 3) ≤ 900)) : km 7 211 [.ref 116, .int x1, .int 0, .int x3] (ks i a q r) (kVI w211_116_l10_K1 i a q r (fun v i1 a1 q1 r1 => (i1 7457).toInt = ((i 7457).toInt + 3))) := by
  have hG := kG_self w211_116_l10_K1 hI hr
  refine km_ofI (q := (mi_h211, mi_c211)) rfl (by decide) (Nat.le_of_ble_eq_true rfl) ?_
  intro P hP
  have r1 : ((0 : Int) ≤ ((a 134).getD x1.toNatClampNeg 0).toInt) ∧ (((a 134).getD x1.toNatClampNeg 0).toInt ≤ 7) := hG.I.2.2.1 134 (x1.toNatClampNeg)
  have fi_7457 : ((0 : Int) ≤ (i 7457).toInt) ∧ ((i 7457).toInt ≤ 1000) := hG.I.1 7457
  first | refine ft_goL mi_k211 4 51 [(0, .ref 116), (1, .int x1), (2, .int 0), (3, .int x3)] [.int 10, .ref 116] (by rfl) ?_ | refine ft_go mi_k211 4 51 [(0, .ref 116), (1, .int x1), (2, .int 0), (3, .int x3)] [.int 10, .ref 116] i a q r (by rfl) ?_
  refine ko_callN mi_k211.1 (pc := 51) (ls := [(0, .ref 116), (1, .int x1), (2, .int 0), (3, .int x3)]) (st := [.int 10, .ref 116]) (h := ks i a q r) (i := (.invokevirtual 351, 3, 209, 0, 9, 0, 464)) (mi_k211.2 _ _ (by rfl)) (ft_invS mi_pq209 (by rfl)) (cy := mi_c209) mi_pq209 rfl (kc209_116 hG.I hG.R 10 (oz1538 fi_7457.1 hp2.2)) (by decide) ?_
  intro ig2 ag2 qg2 rg2 kg2 hg2
  have hGg2 := kG_call hG kg2 (by decide +kernel)
  have fig2_7457 : ((0 : Int) ≤ (ig2 7457).toInt) ∧ ((ig2 7457).toInt ≤ 1000) := hGg2.I.1 7457
  have z3 : (ig2 7457).toInt = ((i 7457).toInt + 1) := hg2
  first | refine fo_goS mi_k211 fz211_54_5_61 [.int x1, .ref 134, .int x1, .ref 116] (by rfl) ?_ | refine ft_go mi_k211 5 61 [(0, .ref 116), (1, .int x1), (2, .int 0), (3, .int x3)] [.int x1, .ref 134, .int x1, .ref 116] ig2 ag2 qg2 rg2 (by rfl) ?_
  refine ko_iald3 mi_k211.1 (n := 50) (c := 50) (ax := (0, 0, 0, 0, 0)) (mi_k211.2 _ _ (by rfl)) (by rfl) (ksG134 _ _ _ _) (hGg2.I.2.1 134) rfl (oz3 hp0.1) (oz1336 hp0.2) ?_
  have r4 : ((0 : Int) ≤ ((ag2 134).getD x1.toNatClampNeg 0).toInt) ∧ (((ag2 134).getD x1.toNatClampNeg 0).toInt ≤ 7) := hGg2.I.2.2.1 134 (x1.toNatClampNeg)
  have u5 : ((ag2 134).getD x1.toNatClampNeg 0).toInt = ((a 134).getD x1.toNatClampNeg 0).toInt := congrArg (fun z : List Int32 => (z.getD x1.toNatClampNeg 0).toInt) (kg2.fa 134 rfl)
  refine ko_top (kj_eq (oz1383 hp1 u5) (by decide) : ((ag2 134).getD x1.toNatClampNeg 0) = 1) ?_
  first | refine fo_goS mi_k211 fz211_62_1_63 [.int x3, .int 1, .int x1, .ref 116] (by rfl) ?_ | refine ft_go mi_k211 1 63 [(0, .ref 116), (1, .int x1), (2, .int 0), (3, .int x3)] [.int x3, .int 1, .int x1, .ref 116] ig2 ag2 qg2 rg2 (by rfl) ?_
  refine ko_callI mi_k211.1 (pc := 63) (ls := [(0, .ref 116), (1, .int x1), (2, .int 0), (3, .int x3)]) (st := [.int x3, .int 1, .int x1, .ref 116]) (h := ks ig2 ag2 qg2 rg2) (i := (.invokevirtual 354, 3, 210, 0, 9, 0, 463)) (mi_k211.2 _ _ (by rfl)) (ft_invS mi_pq210 (by rfl)) (cy := mi_c210) mi_pq210 rfl (kc210_116_l11_K1 hGg2.I hGg2.R x1 x3 (oz1339 hp0.1 hp0.2) (oz1383 hp1 u5) (oz1539 fig2_7457.1 hp2.2 z3)) (by decide) ?_
  intro vg6 ig6 ag6 qg6 rg6 kg6 hg6
  have hGg6 := kG_call hGg2 kg6 (by decide +kernel)
  have z7 : (ig6 7457).toInt = ((ig2 7457).toInt + 2) := hg6
  have b8 : ((-2147483648 : Int) ≤ vg6.toInt) ∧ (vg6.toInt ≤ 2147483647) := kd_bd vg6
  first | refine fo_goS mi_k211 fz211_66_2_68 [.int (vg6 * 2)] (by rfl) ?_ | refine ft_go mi_k211 2 68 [(0, .ref 116), (1, .int x1), (2, .int 0), (3, .int x3)] [.int (vg6 * 2)] ig6 ag6 qg6 rg6 (by rfl) ?_
  exact ft_ret mi_k211 (by rfl) (hP (vg6 * 2) _ _ _ _ hGg6 (oz1540 z3 z7))
def w211_116_l11_K1 : kW := ([7457], [135], [], [])
set_option maxRecDepth 100000 in
theorem kc211_116_l11_K1 {i : Nat → Int32} {a : Nat → List Int32} {q : Nat → List Int64} {r : Nat → Nat} (hI : kI i a q) (hr : kr r) (x1 : Int32) (x3 : Int32) (hp0 : ((0 : Int) ≤ x1.toInt) ∧ (x1.toInt ≤ 49)) (hp1 : ((a 134).getD x1.toNatClampNeg 0).toInt = 1) (hp2 : ((0 : Int) ≤ (i 7457).toInt) ∧ (((i 7457).toInt + 3) ≤ 900)) : km 9 211 [.ref 116, .int x1, .int 1, .int x3] (ks i a q r) (kVI w211_116_l11_K1 i a q r (fun v i1 a1 q1 r1 => (i1 7457).toInt = ((i 7457).toInt + 3))) := by
  have hG := kG_self w211_116_l11_K1 hI hr
  refine km_ofI (q := (mi_h211, mi_c211)) rfl (by decide) (Nat.le_of_ble_eq_true rfl) ?_
  intro P hP
  have r1 : ((0 : Int) ≤ ((a 134).getD x1.toNatClampNeg 0).toInt) ∧ (((a 134).getD x1.toNatClampNeg 0).toInt ≤ 7) := hG.I.2.2.1 134 (x1.toNatClampNeg)
  have fi_7457 : ((0 : Int) ≤ (i 7457).toInt) ∧ ((i 7457).toInt ≤ 1000) := hG.I.1 7457
  first | refine ft_goL mi_k211 5 134 [(0, .ref 116), (1, .int x1), (2, .int 1), (3, .int x3)] [.int 1, .int x1, .ref 116] (by rfl) ?_ | refine ft_go mi_k211 5 134 [(0, .ref 116), (1, .int x1), (2, .int 1), (3, .int x3)] [.int 1, .int x1, .ref 116] i a q r (by rfl) ?_
  refine ko_callPI mi_k211.1 (pc := 134) (ls := [(0, .ref 116), (1, .int x1), (2, .int 1), (3, .int x3)]) (st := [.int 1, .int x1, .ref 116]) (h := ks i a q r) (i := (.invokestatic 357, 3, 208, 0, 9, 0, 465)) (mi_k211.2 _ _ (by rfl)) (ft_invS mi_pq208 (by rfl)) (cy := mi_c208) mi_pq208 rfl (kc208_l01 hG.I hG.R ) (by decide) ?_
  intro vg2 hg2
  have z3 : vg2.toInt = 0 := hg2
  have evvg2 := kj_eq (oz236 z3) (by decide : (0 : Int32).toInt = 0)
  subst evvg2
  first | refine fo_goS mi_k211 fz211_137_1_138 [.int x3, .int 0, .int x1, .ref 116] (by rfl) ?_ | refine ft_go mi_k211 1 138 [(0, .ref 116), (1, .int x1), (2, .int 1), (3, .int x3)] [.int x3, .int 0, .int x1, .ref 116] i a q r (by rfl) ?_
  refine ko_callI mi_k211.1 (pc := 138) (ls := [(0, .ref 116), (1, .int x1), (2, .int 1), (3, .int x3)]) (st := [.int x3, .int 0, .int x1, .ref 116]) (h := ks i a q r) (i := (.invokevirtual 360, 3, 211, 0, 9, 0, 466)) (mi_k211.2 _ _ (by rfl)) (ft_invS mi_pq211 (by rfl)) (cy := mi_c211) mi_pq211 rfl (kc211_116_l10_K1 hG.I hG.R x1 x3 (oz1339 hp0.1 hp0.2) (oz1381 hp1) (oz1541 fi_7457.1 hp2.2)) (by decide) ?_
  intro vg4 ig4 ag4 qg4 rg4 kg4 hg4
  have hGg4 := kG_call hG kg4 (by decide +kernel)
  have z5 : (ig4 7457).toInt = ((i 7457).toInt + 3) := hg4
  exact ft_ret mi_k211 (by rfl) (hP vg4 _ _ _ _ hGg4 (oz1542 z5))
def w212_116_l10_K1 : kW := ([7457], [135], [], [])
set_option maxRecDepth 100000 in
theorem kc212_116_l10_K1 {i : Nat → Int32} {a : Nat → List Int32} {q : Nat → List Int64} {r : Nat → Nat} (hI : kI i a q) (hr : kr r) (x1 : Int32) (x3 : Int32) (hp0 : ((0 : Int) ≤ x1.toInt) ∧ (x1.toInt ≤ 49)) (hp1 : ((a 134).getD x1.toNatClampNeg 0).toInt = 1) (hp2 : ((0 : Int) ≤ (i 7457).toInt) ∧ (((i 7457).toInt + 1) ≤ 900)) : km 3 212 [.ref 116, .int x1, .int 0, .int x3] (ks i a q r) (kVI w212_116_l10_K1 i a q r (fun v i1 a1 q1 r1 => (i1 7457).toInt = ((i 7457).toInt + 1))) := by
  have hG := kG_self w212_116_l10_K1 hI hr
  refine km_ofI (q := (mi_h212, mi_c212)) rfl (by decide) (Nat.le_of_ble_eq_true rfl) ?_
  intro P hP
  have r1 : ((0 : Int) ≤ ((a 134).getD x1.toNatClampNeg 0).toInt) ∧ (((a 134).getD x1.toNatClampNeg 0).toInt ≤ 7) := hG.I.2.2.1 134 (x1.toNatClampNeg)
  have fi_7457 : ((0 : Int) ≤ (i 7457).toInt) ∧ ((i 7457).toInt ≤ 1000) := hG.I.1 7457
  first | refine ft_goL mi_k212 4 39 [(0, .ref 116), (1, .int x1), (2, .int 0), (3, .int x3)] [.int 11, .ref 116] (by rfl) ?_ | refine ft_go mi_k212 4 39 [(0, .ref 116), (1, .int x1), (2, .int 0), (3, .int x3)] [.int 11, .ref 116] i a q r (by rfl) ?_
  refine ko_callN mi_k212.1 (pc := 39) (ls := [(0, .ref 116), (1, .int x1), (2, .int 0), (3, .int x3)]) (st := [.int 11, .ref 116]) (h := ks i a q r) (i := (.invokevirtual 351, 3, 209, 0, 9, 0, 464)) (mi_k212.2 _ _ (by rfl)) (ft_invS mi_pq209 (by rfl)) (cy := mi_c209) mi_pq209 rfl (kc209_116 hG.I hG.R 11 (oz1529 fi_7457.1 hp2.2)) (by decide) ?_
  intro ig2 ag2 qg2 rg2 kg2 hg2
  have hGg2 := kG_call hG kg2 (by decide +kernel)
  have z3 : (ig2 7457).toInt = ((i 7457).toInt + 1) := hg2
  first | refine fo_goS mi_k212 fz212_42_3_45 [.int (x3 ^^^ x1)] (by rfl) ?_ | refine ft_go mi_k212 3 45 [(0, .ref 116), (1, .int x1), (2, .int 0), (3, .int x3)] [.int (x3 ^^^ x1)] ig2 ag2 qg2 rg2 (by rfl) ?_
  exact ft_ret mi_k212 (by rfl) (hP (x3 ^^^ x1) _ _ _ _ hGg2 (oz1355 z3))
def w212_116_l11_K1 : kW := ([7457], [135], [], [])
set_option maxRecDepth 100000 in
theorem kc212_116_l11_K1 {i : Nat → Int32} {a : Nat → List Int32} {q : Nat → List Int64} {r : Nat → Nat} (hI : kI i a q) (hr : kr r) (x1 : Int32) (x3 : Int32) (hp0 : ((0 : Int) ≤ x1.toInt) ∧ (x1.toInt ≤ 49)) (hp1 : ((a 134).getD x1.toNatClampNeg 0).toInt = 1) (hp2 : ((0 : Int) ≤ (i 7457).toInt) ∧ (((i 7457).toInt + 1) ≤ 900)) : km 5 212 [.ref 116, .int x1, .int 1, .int x3] (ks i a q r) (kVI w212_116_l11_K1 i a q r (fun v i1 a1 q1 r1 => (i1 7457).toInt = ((i 7457).toInt + 1))) := by
  have hG := kG_self w212_116_l11_K1 hI hr
  refine km_ofI (q := (mi_h212, mi_c212)) rfl (by decide) (Nat.le_of_ble_eq_true rfl) ?_
  intro P hP
  have r1 : ((0 : Int) ≤ ((a 134).getD x1.toNatClampNeg 0).toInt) ∧ (((a 134).getD x1.toNatClampNeg 0).toInt ≤ 7) := hG.I.2.2.1 134 (x1.toNatClampNeg)
  have fi_7457 : ((0 : Int) ≤ (i 7457).toInt) ∧ ((i 7457).toInt ≤ 1000) := hG.I.1 7457
  first | refine ft_goL mi_k212 5 96 [(0, .ref 116), (1, .int x1), (2, .int 1), (3, .int x3)] [.int 1, .int x1, .ref 116] (by rfl) ?_ | refine ft_go mi_k212 5 96 [(0, .ref 116), (1, .int x1), (2, .int 1), (3, .int x3)] [.int 1, .int x1, .ref 116] i a q r (by rfl) ?_
  refine ko_callPI mi_k212.1 (pc := 96) (ls := [(0, .ref 116), (1, .int x1), (2, .int 1), (3, .int x3)]) (st := [.int 1, .int x1, .ref 116]) (h := ks i a q r) (i := (.invokestatic 357, 3, 208, 0, 9, 0, 465)) (mi_k212.2 _ _ (by rfl)) (ft_invS mi_pq208 (by rfl)) (cy := mi_c208) mi_pq208 rfl (kc208_l01 hG.I hG.R ) (by decide) ?_
  intro vg2 hg2
  have z3 : vg2.toInt = 0 := hg2
  have evvg2 := kj_eq (oz236 z3) (by decide : (0 : Int32).toInt = 0)
  subst evvg2
  first | refine fo_goS mi_k212 fz212_99_1_100 [.int x3, .int 0, .int x1, .ref 116] (by rfl) ?_ | refine ft_go mi_k212 1 100 [(0, .ref 116), (1, .int x1), (2, .int 1), (3, .int x3)] [.int x3, .int 0, .int x1, .ref 116] i a q r (by rfl) ?_
  refine ko_callI mi_k212.1 (pc := 100) (ls := [(0, .ref 116), (1, .int x1), (2, .int 1), (3, .int x3)]) (st := [.int x3, .int 0, .int x1, .ref 116]) (h := ks i a q r) (i := (.invokevirtual 363, 3, 212, 0, 9, 0, 467)) (mi_k212.2 _ _ (by rfl)) (ft_invS mi_pq212 (by rfl)) (cy := mi_c212) mi_pq212 rfl (kc212_116_l10_K1 hG.I hG.R x1 x3 (oz1339 hp0.1 hp0.2) (oz1381 hp1) (oz1354 fi_7457.1 hp2.2)) (by decide) ?_
  intro vg4 ig4 ag4 qg4 rg4 kg4 hg4
  have hGg4 := kG_call hG kg4 (by decide +kernel)
  have z5 : (ig4 7457).toInt = ((i 7457).toInt + 1) := hg4
  exact ft_ret mi_k212 (by rfl) (hP vg4 _ _ _ _ hGg4 (oz1355 z5))
def w213_116_l10_K1 : kW := ([7457], [135], [], [])
set_option maxRecDepth 100000 in
theorem kc213_116_l10_K1 {i : Nat → Int32} {a : Nat → List Int32} {q : Nat → List Int64} {r : Nat → Nat} (hI : kI i a q) (hr : kr r) (x1 : Int32) (x3 : Int32) (hp0 : ((0 : Int) ≤ x1.toInt) ∧ (x1.toInt ≤ 49)) (hp1 : ((a 134).getD x1.toNatClampNeg 0).toInt = 1) (hp2 : ((0 : Int) ≤ (i 7457).toInt) ∧ (((i 7457).toInt + 5) ≤ 900)) : km 11 213 [.ref 116, .int x1, .int 0, .int x3] (ks i a q r) (kVI w213_116_l10_K1 i a q r (fun v i1 a1 q1 r1 => (i1 7457).toInt = ((i 7457).toInt + 5))) := by
  have hG := kG_self w213_116_l10_K1 hI hr
  refine km_ofI (q := (mi_h213, mi_c213)) rfl (by decide) (Nat.le_of_ble_eq_true rfl) ?_
  intro P hP
  have r1 : ((0 : Int) ≤ ((a 134).getD x1.toNatClampNeg 0).toInt) ∧ (((a 134).getD x1.toNatClampNeg 0).toInt ≤ 7) := hG.I.2.2.1 134 (x1.toNatClampNeg)
  have fi_7457 : ((0 : Int) ≤ (i 7457).toInt) ∧ ((i 7457).toInt ≤ 1000) := hG.I.1 7457
  first | refine ft_goL mi_k213 4 38 [(0, .ref 116), (1, .int x1), (2, .int 0), (3, .int x3)] [.int 2, .ref 116] (by rfl) ?_ | refine ft_go mi_k213 4 38 [(0, .ref 116), (1, .int x1), (2, .int 0), (3, .int x3)] [.int 2, .ref 116] i a q r (by rfl) ?_
  refine ko_callN mi_k213.1 (pc := 38) (ls := [(0, .ref 116), (1, .int x1), (2, .int 0), (3, .int x3)]) (st := [.int 2, .ref 116]) (h := ks i a q r) (i := (.invokevirtual 351, 3, 209, 0, 9, 0, 464)) (mi_k213.2 _ _ (by rfl)) (ft_invS mi_pq209 (by rfl)) (cy := mi_c209) mi_pq209 rfl (kc209_116 hG.I hG.R 2 (oz1537 fi_7457.1 hp2.2)) (by decide) ?_
  intro ig2 ag2 qg2 rg2 kg2 hg2
  have hGg2 := kG_call hG kg2 (by decide +kernel)
  have fig2_7457 : ((0 : Int) ≤ (ig2 7457).toInt) ∧ ((ig2 7457).toInt ≤ 1000) := hGg2.I.1 7457
  have z3 : (ig2 7457).toInt = ((i 7457).toInt + 1) := hg2
  first | refine fo_goS mi_k213 fz213_41_5_48 [.int x1, .ref 134, .int x1, .ref 116] (by rfl) ?_ | refine ft_go mi_k213 5 48 [(0, .ref 116), (1, .int x1), (2, .int 0), (3, .int x3)] [.int x1, .ref 134, .int x1, .ref 116] ig2 ag2 qg2 rg2 (by rfl) ?_
  refine ko_iald3 mi_k213.1 (n := 50) (c := 50) (ax := (0, 0, 0, 0, 0)) (mi_k213.2 _ _ (by rfl)) (by rfl) (ksG134 _ _ _ _) (hGg2.I.2.1 134) rfl (oz3 hp0.1) (oz1336 hp0.2) ?_
  have r4 : ((0 : Int) ≤ ((ag2 134).getD x1.toNatClampNeg 0).toInt) ∧ (((ag2 134).getD x1.toNatClampNeg 0).toInt ≤ 7) := hGg2.I.2.2.1 134 (x1.toNatClampNeg)
  have u5 : ((ag2 134).getD x1.toNatClampNeg 0).toInt = ((a 134).getD x1.toNatClampNeg 0).toInt := congrArg (fun z : List Int32 => (z.getD x1.toNatClampNeg 0).toInt) (kg2.fa 134 rfl)
  refine ko_top (kj_eq (oz1383 hp1 u5) (by decide) : ((ag2 134).getD x1.toNatClampNeg 0) = 1) ?_
  first | refine fo_goS mi_k213 fz213_49_1_50 [.int x3, .int 1, .int x1, .ref 116] (by rfl) ?_ | refine ft_go mi_k213 1 50 [(0, .ref 116), (1, .int x1), (2, .int 0), (3, .int x3)] [.int x3, .int 1, .int x1, .ref 116] ig2 ag2 qg2 rg2 (by rfl) ?_
  refine ko_callI mi_k213.1 (pc := 50) (ls := [(0, .ref 116), (1, .int x1), (2, .int 0), (3, .int x3)]) (st := [.int x3, .int 1, .int x1, .ref 116]) (h := ks ig2 ag2 qg2 rg2) (i := (.invokevirtual 360, 3, 211, 0, 9, 0, 466)) (mi_k213.2 _ _ (by rfl)) (ft_invS mi_pq211 (by rfl)) (cy := mi_c211) mi_pq211 rfl (kc211_116_l11_K1 hGg2.I hGg2.R x1 x3 (oz1339 hp0.1 hp0.2) (oz1383 hp1 u5) (oz1543 fig2_7457.1 hp2.2 z3)) (by decide) ?_
  intro vg6 ig6 ag6 qg6 rg6 kg6 hg6
  have hGg6 := kG_call hGg2 kg6 (by decide +kernel)
  have fig6_7457 : ((0 : Int) ≤ (ig6 7457).toInt) ∧ ((ig6 7457).toInt ≤ 1000) := hGg6.I.1 7457
  have z7 : (ig6 7457).toInt = ((ig2 7457).toInt + 3) := hg6
  first | refine fo_goL mi_k213 fz213_53_7_64 [(4, .int vg6), (0, .ref 116), (1, .int x1), (2, .int 0), (3, .int x3)] [.int x1, .ref 134, .int x1, .ref 116, .int vg6] (by rfl) ?_ | refine ft_go mi_k213 7 64 [(4, .int vg6), (0, .ref 116), (1, .int x1), (2, .int 0), (3, .int x3)] [.int x1, .ref 134, .int x1, .ref 116, .int vg6] ig6 ag6 qg6 rg6 (by rfl) ?_
  refine ko_iald3 mi_k213.1 (n := 50) (c := 50) (ax := (0, 0, 0, 0, 0)) (mi_k213.2 _ _ (by rfl)) (by rfl) (ksG134 _ _ _ _) (hGg6.I.2.1 134) rfl (oz3 hp0.1) (oz1336 hp0.2) ?_
  have r8 : ((0 : Int) ≤ ((ag6 134).getD x1.toNatClampNeg 0).toInt) ∧ (((ag6 134).getD x1.toNatClampNeg 0).toInt ≤ 7) := hGg6.I.2.2.1 134 (x1.toNatClampNeg)
  have u9 : ((ag6 134).getD x1.toNatClampNeg 0).toInt = ((ag2 134).getD x1.toNatClampNeg 0).toInt := congrArg (fun z : List Int32 => (z.getD x1.toNatClampNeg 0).toInt) (kg6.fa 134 rfl)
  refine ko_top (kj_eq (oz1544 hp1 u5 u9) (by decide) : ((ag6 134).getD x1.toNatClampNeg 0) = 1) ?_
  first | refine fo_goS mi_k213 fz213_65_1_66 [.int 1, .int 1, .int x1, .ref 116, .int vg6] (by rfl) ?_ | refine ft_go mi_k213 1 66 [(4, .int vg6), (0, .ref 116), (1, .int x1), (2, .int 0), (3, .int x3)] [.int 1, .int 1, .int x1, .ref 116, .int vg6] ig6 ag6 qg6 rg6 (by rfl) ?_
  refine ko_callI mi_k213.1 (pc := 66) (ls := [(4, .int vg6), (0, .ref 116), (1, .int x1), (2, .int 0), (3, .int x3)]) (st := [.int 1, .int 1, .int x1, .ref 116, .int vg6]) (h := ks ig6 ag6 qg6 rg6) (i := (.invokevirtual 363, 3, 212, 0, 9, 0, 467)) (mi_k213.2 _ _ (by rfl)) (ft_invS mi_pq212 (by rfl)) (cy := mi_c212) mi_pq212 rfl (kc212_116_l11_K1 hGg6.I hGg6.R x1 1 (oz1339 hp0.1 hp0.2) (oz1544 hp1 u5 u9) (oz1545 fig6_7457.1 hp2.2 z3 z7)) (by decide) ?_
  intro vg10 ig10 ag10 qg10 rg10 kg10 hg10
  have hGg10 := kG_call hGg6 kg10 (by decide +kernel)
  have z11 : (ig10 7457).toInt = ((ig6 7457).toInt + 1) := hg10
  have b12 : ((-2147483648 : Int) ≤ vg6.toInt) ∧ (vg6.toInt ≤ 2147483647) := kd_bd vg6
  have b13 : ((-2147483648 : Int) ≤ vg10.toInt) ∧ (vg10.toInt ≤ 2147483647) := kd_bd vg10
  first | refine fo_goS mi_k213 fz213_69_1_70 [.int (vg6 - vg10)] (by rfl) ?_ | refine ft_go mi_k213 1 70 [(4, .int vg6), (0, .ref 116), (1, .int x1), (2, .int 0), (3, .int x3)] [.int (vg6 - vg10)] ig10 ag10 qg10 rg10 (by rfl) ?_
  exact ft_ret mi_k213 (by rfl) (hP (vg6 - vg10) _ _ _ _ hGg10 (oz1546 z11 z3 z7))
def w213_116_l11_K1 : kW := ([7457], [135], [], [])
set_option maxRecDepth 100000 in
theorem kc213_116_l11_K1 {i : Nat → Int32} {a : Nat → List Int32} {q : Nat → List Int64} {r : Nat → Nat} (hI : kI i a q) (hr : kr r) (x1 : Int32) (x3 : Int32) (hp0 : ((0 : Int) ≤ x1.toInt) ∧ (x1.toInt ≤ 49)) (hp1 : ((a 134).getD x1.toNatClampNeg 0).toInt = 1) (hp2 : ((0 : Int) ≤ (i 7457).toInt) ∧ (((i 7457).toInt + 5) ≤ 900)) : km 13 213 [.ref 116, .int x1, .int 1, .int x3] (ks i a q r) (kVI w213_116_l11_K1 i a q r (fun v i1 a1 q1 r1 => (i1 7457).toInt = ((i 7457).toInt + 5))) := by
  have hG := kG_self w213_116_l11_K1 hI hr
  refine km_ofI (q := (mi_h213, mi_c213)) rfl (by decide) (Nat.le_of_ble_eq_true rfl) ?_
  intro P hP
  have r1 : ((0 : Int) ≤ ((a 134).getD x1.toNatClampNeg 0).toInt) ∧ (((a 134).getD x1.toNatClampNeg 0).toInt ≤ 7) := hG.I.2.2.1 134 (x1.toNatClampNeg)
  have fi_7457 : ((0 : Int) ≤ (i 7457).toInt) ∧ ((i 7457).toInt ≤ 1000) := hG.I.1 7457
  first | refine ft_goL mi_k213 5 106 [(0, .ref 116), (1, .int x1), (2, .int 1), (3, .int x3)] [.int 1, .int x1, .ref 116] (by rfl) ?_ | refine ft_go mi_k213 5 106 [(0, .ref 116), (1, .int x1), (2, .int 1), (3, .int x3)] [.int 1, .int x1, .ref 116] i a q r (by rfl) ?_
  refine ko_callPI mi_k213.1 (pc := 106) (ls := [(0, .ref 116), (1, .int x1), (2, .int 1), (3, .int x3)]) (st := [.int 1, .int x1, .ref 116]) (h := ks i a q r) (i := (.invokestatic 357, 3, 208, 0, 9, 0, 465)) (mi_k213.2 _ _ (by rfl)) (ft_invS mi_pq208 (by rfl)) (cy := mi_c208) mi_pq208 rfl (kc208_l01 hG.I hG.R ) (by decide) ?_
  intro vg2 hg2
  have z3 : vg2.toInt = 0 := hg2
  have evvg2 := kj_eq (oz236 z3) (by decide : (0 : Int32).toInt = 0)
  subst evvg2
  first | refine fo_goS mi_k213 fz213_109_1_110 [.int x3, .int 0, .int x1, .ref 116] (by rfl) ?_ | refine ft_go mi_k213 1 110 [(0, .ref 116), (1, .int x1), (2, .int 1), (3, .int x3)] [.int x3, .int 0, .int x1, .ref 116] i a q r (by rfl) ?_
  refine ko_callI mi_k213.1 (pc := 110) (ls := [(0, .ref 116), (1, .int x1), (2, .int 1), (3, .int x3)]) (st := [.int x3, .int 0, .int x1, .ref 116]) (h := ks i a q r) (i := (.invokevirtual 366, 3, 213, 0, 9, 0, 468)) (mi_k213.2 _ _ (by rfl)) (ft_invS mi_pq213 (by rfl)) (cy := mi_c213) mi_pq213 rfl (kc213_116_l10_K1 hG.I hG.R x1 x3 (oz1339 hp0.1 hp0.2) (oz1381 hp1) (oz1547 fi_7457.1 hp2.2)) (by decide) ?_
  intro vg4 ig4 ag4 qg4 rg4 kg4 hg4
  have hGg4 := kG_call hG kg4 (by decide +kernel)
  have z5 : (ig4 7457).toInt = ((i 7457).toInt + 5) := hg4
  exact ft_ret mi_k213 (by rfl) (hP vg4 _ _ _ _ hGg4 (oz1548 z5))
set_option maxRecDepth 100000 in
theorem kc208_l02 {i : Nat → Int32} {a : Nat → List Int32} {q : Nat → List Int64} {r : Nat → Nat} (hI : kI i a q) (hr : kr r)  : km 1 208 [.int 2] (ks i a q r) (kPI (ks i a q r) (fun v => v.toInt = 0)) := by
  have hG := kG_self kW0 hI hr
  refine km_ofPI (q := (mi_h208, mi_c208)) rfl (by decide) (Nat.le_of_ble_eq_true rfl) ?_
  intro P hP
  first | refine ft_goL mi_k208 3 45 [(0, .int 2)] [.int 0] (by rfl) ?_ | refine ft_go mi_k208 3 45 [(0, .int 2)] [.int 0] i a q r (by rfl) ?_
  exact ft_ret mi_k208 (by rfl) (hP 0 (oz236 kn0))
def w210_116_l10_K2 : kW := ([7457], [135], [], [])
set_option maxRecDepth 100000 in
theorem kc210_116_l10_K2 {i : Nat → Int32} {a : Nat → List Int32} {q : Nat → List Int64} {r : Nat → Nat} (hI : kI i a q) (hr : kr r) (x1 : Int32) (x3 : Int32) (hp0 : ((0 : Int) ≤ x1.toInt) ∧ (x1.toInt ≤ 49)) (hp1 : ((a 134).getD x1.toNatClampNeg 0).toInt = 2) (hp2 : ((0 : Int) ≤ (i 7457).toInt) ∧ (((i 7457).toInt + 1) ≤ 900)) : km 3 210 [.ref 116, .int x1, .int 0, .int x3] (ks i a q r) (kVI w210_116_l10_K2 i a q r (fun v i1 a1 q1 r1 => (i1 7457).toInt = ((i 7457).toInt + 1))) := by
  have hG := kG_self w210_116_l10_K2 hI hr
  refine km_ofI (q := (mi_h210, mi_c210)) rfl (by decide) (Nat.le_of_ble_eq_true rfl) ?_
  intro P hP
  have r1 : ((0 : Int) ≤ ((a 134).getD x1.toNatClampNeg 0).toInt) ∧ (((a 134).getD x1.toNatClampNeg 0).toInt ≤ 7) := hG.I.2.2.1 134 (x1.toNatClampNeg)
  have fi_7457 : ((0 : Int) ≤ (i 7457).toInt) ∧ ((i 7457).toInt ≤ 1000) := hG.I.1 7457
  first | refine ft_goL mi_k210 4 38 [(0, .ref 116), (1, .int x1), (2, .int 0), (3, .int x3)] [.int 1, .ref 116] (by rfl) ?_ | refine ft_go mi_k210 4 38 [(0, .ref 116), (1, .int x1), (2, .int 0), (3, .int x3)] [.int 1, .ref 116] i a q r (by rfl) ?_
  refine ko_callN mi_k210.1 (pc := 38) (ls := [(0, .ref 116), (1, .int x1), (2, .int 0), (3, .int x3)]) (st := [.int 1, .ref 116]) (h := ks i a q r) (i := (.invokevirtual 351, 3, 209, 0, 9, 0, 464)) (mi_k210.2 _ _ (by rfl)) (ft_invS mi_pq209 (by rfl)) (cy := mi_c209) mi_pq209 rfl (kc209_116 hG.I hG.R 1 (oz1529 fi_7457.1 hp2.2)) (by decide) ?_
  intro ig2 ag2 qg2 rg2 kg2 hg2
  have hGg2 := kG_call hG kg2 (by decide +kernel)
  have z3 : (ig2 7457).toInt = ((i 7457).toInt + 1) := hg2
  have b4 : ((-2147483648 : Int) ≤ x3.toInt) ∧ (x3.toInt ≤ 2147483647) := kd_bd x3
  have b5 : ((-2147483648 : Int) ≤ x1.toInt) ∧ (x1.toInt ≤ 2147483647) := kd_bd x1
  first | refine fo_goS mi_k210 fz210_41_3_44 [.int (x3 + x1)] (by rfl) ?_ | refine ft_go mi_k210 3 44 [(0, .ref 116), (1, .int x1), (2, .int 0), (3, .int x3)] [.int (x3 + x1)] ig2 ag2 qg2 rg2 (by rfl) ?_
  exact ft_ret mi_k210 (by rfl) (hP (x3 + x1) _ _ _ _ hGg2 (oz1355 z3))
def w210_116_l12_K2 : kW := ([7457], [135], [], [])
set_option maxRecDepth 100000 in
theorem kc210_116_l12_K2 {i : Nat → Int32} {a : Nat → List Int32} {q : Nat → List Int64} {r : Nat → Nat} (hI : kI i a q) (hr : kr r) (x1 : Int32) (x3 : Int32) (hp0 : ((0 : Int) ≤ x1.toInt) ∧ (x1.toInt ≤ 49)) (hp1 : ((a 134).getD x1.toNatClampNeg 0).toInt = 2) (hp2 : ((0 : Int) ≤ (i 7457).toInt) ∧ (((i 7457).toInt + 1) ≤ 900)) : km 5 210 [.ref 116, .int x1, .int 2, .int x3] (ks i a q r) (kVI w210_116_l12_K2 i a q r (fun v i1 a1 q1 r1 => (i1 7457).toInt = ((i 7457).toInt + 1))) := by
  have hG := kG_self w210_116_l12_K2 hI hr
  refine km_ofI (q := (mi_h210, mi_c210)) rfl (by decide) (Nat.le_of_ble_eq_true rfl) ?_
  intro P hP
  have r1 : ((0 : Int) ≤ ((a 134).getD x1.toNatClampNeg 0).toInt) ∧ (((a 134).getD x1.toNatClampNeg 0).toInt ≤ 7) := hG.I.2.2.1 134 (x1.toNatClampNeg)
  have fi_7457 : ((0 : Int) ≤ (i 7457).toInt) ∧ ((i 7457).toInt ≤ 1000) := hG.I.1 7457
  first | refine ft_goL mi_k210 5 80 [(0, .ref 116), (1, .int x1), (2, .int 2), (3, .int x3)] [.int 2, .int x1, .ref 116] (by rfl) ?_ | refine ft_go mi_k210 5 80 [(0, .ref 116), (1, .int x1), (2, .int 2), (3, .int x3)] [.int 2, .int x1, .ref 116] i a q r (by rfl) ?_
  refine ko_callPI mi_k210.1 (pc := 80) (ls := [(0, .ref 116), (1, .int x1), (2, .int 2), (3, .int x3)]) (st := [.int 2, .int x1, .ref 116]) (h := ks i a q r) (i := (.invokestatic 357, 3, 208, 0, 9, 0, 465)) (mi_k210.2 _ _ (by rfl)) (ft_invS mi_pq208 (by rfl)) (cy := mi_c208) mi_pq208 rfl (kc208_l02 hG.I hG.R ) (by decide) ?_
  intro vg2 hg2
  have z3 : vg2.toInt = 0 := hg2
  have evvg2 := kj_eq (oz236 z3) (by decide : (0 : Int32).toInt = 0)
  subst evvg2
  first | refine fo_goS mi_k210 fz210_83_1_84 [.int x3, .int 0, .int x1, .ref 116] (by rfl) ?_ | refine ft_go mi_k210 1 84 [(0, .ref 116), (1, .int x1), (2, .int 2), (3, .int x3)] [.int x3, .int 0, .int x1, .ref 116] i a q r (by rfl) ?_
  refine ko_callI mi_k210.1 (pc := 84) (ls := [(0, .ref 116), (1, .int x1), (2, .int 2), (3, .int x3)]) (st := [.int x3, .int 0, .int x1, .ref 116]) (h := ks i a q r) (i := (.invokevirtual 354, 3, 210, 0, 9, 0, 463)) (mi_k210.2 _ _ (by rfl)) (ft_invS mi_pq210 (by rfl)) (cy := mi_c210) mi_pq210 rfl (kc210_116_l10_K2 hG.I hG.R x1 x3 (oz1339 hp0.1 hp0.2) (oz1411 hp1) (oz1354 fi_7457.1 hp2.2)) (by decide) ?_
  intro vg4 ig4 ag4 qg4 rg4 kg4 hg4
  have hGg4 := kG_call hG kg4 (by decide +kernel)
  have z5 : (ig4 7457).toInt = ((i 7457).toInt + 1) := hg4
  exact ft_ret mi_k210 (by rfl) (hP vg4 _ _ _ _ hGg4 (oz1355 z5))
def w211_116_l10_K2 : kW := ([7457], [135], [], [])
set_option maxRecDepth 100000 in
theorem kc211_116_l10_K2 {i : Nat → Int32} {a : Nat → List Int32} {q : Nat → List Int64} {r : Nat → Nat} (hI : kI i a q) (hr : kr r) (x1 : Int32) (x3 : Int32) (hp0 : ((0 : Int) ≤ x1.toInt) ∧ (x1.toInt ≤ 49)) (hp1 : ((a 134).getD x1.toNatClampNeg 0).toInt = 2) (hp2 : ((0 : Int) ≤ (i 7457).toInt) ∧ (((i 7457).toInt + 2) ≤ 900)) : km 7 211 [.ref 116, .int x1, .int 0, .int x3] (ks i a q r) (kVI w211_116_l10_K2 i a q r (fun v i1 a1 q1 r1 => (i1 7457).toInt = ((i 7457).toInt + 2))) := by
  have hG := kG_self w211_116_l10_K2 hI hr
  refine km_ofI (q := (mi_h211, mi_c211)) rfl (by decide) (Nat.le_of_ble_eq_true rfl) ?_
  intro P hP
  have r1 : ((0 : Int) ≤ ((a 134).getD x1.toNatClampNeg 0).toInt) ∧ (((a 134).getD x1.toNatClampNeg 0).toInt ≤ 7) := hG.I.2.2.1 134 (x1.toNatClampNeg)
  have fi_7457 : ((0 : Int) ≤ (i 7457).toInt) ∧ ((i 7457).toInt ≤ 1000) := hG.I.1 7457
  first | refine ft_goL mi_k211 4 51 [(0, .ref 116), (1, .int x1), (2, .int 0), (3, .int x3)] [.int 10, .ref 116] (by rfl) ?_ | refine ft_go mi_k211 4 51 [(0, .ref 116), (1, .int x1), (2, .int 0), (3, .int x3)] [.int 10, .ref 116] i a q r (by rfl) ?_
  refine ko_callN mi_k211.1 (pc := 51) (ls := [(0, .ref 116), (1, .int x1), (2, .int 0), (3, .int x3)]) (st := [.int 10, .ref 116]) (h := ks i a q r) (i := (.invokevirtual 351, 3, 209, 0, 9, 0, 464)) (mi_k211.2 _ _ (by rfl)) (ft_invS mi_pq209 (by rfl)) (cy := mi_c209) mi_pq209 rfl (kc209_116 hG.I hG.R 10 (oz1528 fi_7457.1 hp2.2)) (by decide) ?_
  intro ig2 ag2 qg2 rg2 kg2 hg2
  have hGg2 := kG_call hG kg2 (by decide +kernel)
  have fig2_7457 : ((0 : Int) ≤ (ig2 7457).toInt) ∧ ((ig2 7457).toInt ≤ 1000) := hGg2.I.1 7457
  have z3 : (ig2 7457).toInt = ((i 7457).toInt + 1) := hg2
  first | refine fo_goS mi_k211 fz211_54_5_61 [.int x1, .ref 134, .int x1, .ref 116] (by rfl) ?_ | refine ft_go mi_k211 5 61 [(0, .ref 116), (1, .int x1), (2, .int 0), (3, .int x3)] [.int x1, .ref 134, .int x1, .ref 116] ig2 ag2 qg2 rg2 (by rfl) ?_
  refine ko_iald3 mi_k211.1 (n := 50) (c := 50) (ax := (0, 0, 0, 0, 0)) (mi_k211.2 _ _ (by rfl)) (by rfl) (ksG134 _ _ _ _) (hGg2.I.2.1 134) rfl (oz3 hp0.1) (oz1336 hp0.2) ?_
  have r4 : ((0 : Int) ≤ ((ag2 134).getD x1.toNatClampNeg 0).toInt) ∧ (((ag2 134).getD x1.toNatClampNeg 0).toInt ≤ 7) := hGg2.I.2.2.1 134 (x1.toNatClampNeg)
  have u5 : ((ag2 134).getD x1.toNatClampNeg 0).toInt = ((a 134).getD x1.toNatClampNeg 0).toInt := congrArg (fun z : List Int32 => (z.getD x1.toNatClampNeg 0).toInt) (kg2.fa 134 rfl)
  refine ko_top (kj_eq (oz1412 hp1 u5) (by decide) : ((ag2 134).getD x1.toNatClampNeg 0) = 2) ?_
  first | refine fo_goS mi_k211 fz211_62_1_63 [.int x3, .int 2, .int x1, .ref 116] (by rfl) ?_ | refine ft_go mi_k211 1 63 [(0, .ref 116), (1, .int x1), (2, .int 0), (3, .int x3)] [.int x3, .int 2, .int x1, .ref 116] ig2 ag2 qg2 rg2 (by rfl) ?_
  refine ko_callI mi_k211.1 (pc := 63) (ls := [(0, .ref 116), (1, .int x1), (2, .int 0), (3, .int x3)]) (st := [.int x3, .int 2, .int x1, .ref 116]) (h := ks ig2 ag2 qg2 rg2) (i := (.invokevirtual 354, 3, 210, 0, 9, 0, 463)) (mi_k211.2 _ _ (by rfl)) (ft_invS mi_pq210 (by rfl)) (cy := mi_c210) mi_pq210 rfl (kc210_116_l12_K2 hGg2.I hGg2.R x1 x3 (oz1339 hp0.1 hp0.2) (oz1412 hp1 u5) (oz1530 fig2_7457.1 hp2.2 z3)) (by decide) ?_
  intro vg6 ig6 ag6 qg6 rg6 kg6 hg6
  have hGg6 := kG_call hGg2 kg6 (by decide +kernel)
  have z7 : (ig6 7457).toInt = ((ig2 7457).toInt + 1) := hg6
  have b8 : ((-2147483648 : Int) ≤ vg6.toInt) ∧ (vg6.toInt ≤ 2147483647) := kd_bd vg6
  first | refine fo_goS mi_k211 fz211_66_2_68 [.int (vg6 * 2)] (by rfl) ?_ | refine ft_go mi_k211 2 68 [(0, .ref 116), (1, .int x1), (2, .int 0), (3, .int x3)] [.int (vg6 * 2)] ig6 ag6 qg6 rg6 (by rfl) ?_
  exact ft_ret mi_k211 (by rfl) (hP (vg6 * 2) _ _ _ _ hGg6 (oz1531 z3 z7))
def w211_116_l12_K2 : kW := ([7457], [135], [], [])
set_option maxRecDepth 100000 in
theorem kc211_116_l12_K2 {i : Nat → Int32} {a : Nat → List Int32} {q : Nat → List Int64} {r : Nat → Nat} (hI : kI i a q) (hr : kr r) (x1 : Int32) (x3 : Int32) (hp0 : ((0 : Int) ≤ x1.toInt) ∧ (x1.toInt ≤ 49)) (hp1 : ((a 134).getD x1.toNatClampNeg 0).toInt = 2) (hp2 : ((0 : Int) ≤ (i 7457).toInt) ∧ (((i 7457).toInt + 3) ≤ 900)) : km 9 211 [.ref 116, .int x1, .int 2, .int x3] (ks i a q r) (kVI w211_116_l12_K2 i a q r (fun v i1 a1 q1 r1 => (i1 7457).toInt = ((i 7457).toInt + 3))) := by
  have hG := kG_self w211_116_l12_K2 hI hr
  refine km_ofI (q := (mi_h211, mi_c211)) rfl (by decide) (Nat.le_of_ble_eq_true rfl) ?_
  intro P hP
  have r1 : ((0 : Int) ≤ ((a 134).getD x1.toNatClampNeg 0).toInt) ∧ (((a 134).getD x1.toNatClampNeg 0).toInt ≤ 7) := hG.I.2.2.1 134 (x1.toNatClampNeg)
  have fi_7457 : ((0 : Int) ≤ (i 7457).toInt) ∧ ((i 7457).toInt ≤ 1000) := hG.I.1 7457
  first | refine ft_goL mi_k211 4 72 [(0, .ref 116), (1, .int x1), (2, .int 2), (3, .int x3)] [.int 30, .ref 116] (by rfl) ?_ | refine ft_go mi_k211 4 72 [(0, .ref 116), (1, .int x1), (2, .int 2), (3, .int x3)] [.int 30, .ref 116] i a q r (by rfl) ?_
  refine ko_callN mi_k211.1 (pc := 72) (ls := [(0, .ref 116), (1, .int x1), (2, .int 2), (3, .int x3)]) (st := [.int 30, .ref 116]) (h := ks i a q r) (i := (.invokevirtual 351, 3, 209, 0, 9, 0, 464)) (mi_k211.2 _ _ (by rfl)) (ft_invS mi_pq209 (by rfl)) (cy := mi_c209) mi_pq209 rfl (kc209_116 hG.I hG.R 30 (oz1538 fi_7457.1 hp2.2)) (by decide) ?_
  intro ig2 ag2 qg2 rg2 kg2 hg2
  have hGg2 := kG_call hG kg2 (by decide +kernel)
  have fig2_7457 : ((0 : Int) ≤ (ig2 7457).toInt) ∧ ((ig2 7457).toInt ≤ 1000) := hGg2.I.1 7457
  have z3 : (ig2 7457).toInt = ((i 7457).toInt + 1) := hg2
  first | refine fo_goS mi_k211 fz211_75_4_79 [.int x3, .int 0, .int x1, .ref 116] (by rfl) ?_ | refine ft_go mi_k211 4 79 [(0, .ref 116), (1, .int x1), (2, .int 2), (3, .int x3)] [.int x3, .int 0, .int x1, .ref 116] ig2 ag2 qg2 rg2 (by rfl) ?_
  have r4 : ((0 : Int) ≤ ((ag2 134).getD x1.toNatClampNeg 0).toInt) ∧ (((ag2 134).getD x1.toNatClampNeg 0).toInt ≤ 7) := hGg2.I.2.2.1 134 (x1.toNatClampNeg)
  have u5 : ((ag2 134).getD x1.toNatClampNeg 0).toInt = ((a 134).getD x1.toNatClampNeg 0).toInt := congrArg (fun z : List Int32 => (z.getD x1.toNatClampNeg 0).toInt) (kg2.fa 134 rfl)
  refine ko_callI mi_k211.1 (pc := 79) (ls := [(0, .ref 116), (1, .int x1), (2, .int 2), (3, .int x3)]) (st := [.int x3, .int 0, .int x1, .ref 116]) (h := ks ig2 ag2 qg2 rg2) (i := (.invokevirtual 360, 3, 211, 0, 9, 0, 466)) (mi_k211.2 _ _ (by rfl)) (ft_invS mi_pq211 (by rfl)) (cy := mi_c211) mi_pq211 rfl (kc211_116_l10_K2 hGg2.I hGg2.R x1 x3 (oz1339 hp0.1 hp0.2) (oz1412 hp1 u5) (oz1539 fig2_7457.1 hp2.2 z3)) (by decide) ?_
  intro vg6 ig6 ag6 qg6 rg6 kg6 hg6
  have hGg6 := kG_call hGg2 kg6 (by decide +kernel)
  have z7 : (ig6 7457).toInt = ((ig2 7457).toInt + 2) := hg6
  first | refine ft_goS mi_k211 1 83 [.int (-vg6)] (by rfl) ?_ | refine ft_go mi_k211 1 83 [(0, .ref 116), (1, .int x1), (2, .int 2), (3, .int x3)] [.int (-vg6)] ig6 ag6 qg6 rg6 (by rfl) ?_
  exact ft_ret mi_k211 (by rfl) (hP (-vg6) _ _ _ _ hGg6 (oz1540 z3 z7))
end
section
theorem oz1549 {a0 a1 a2 : Int} (h0 : a0 = 2) (h1 : a1 = a0) (h2 : a2 = a1) : a2 = 2 := by omega
theorem oz1550 {a0 : Int} (h0 : (0 : Int) ≤ a0) (h1 : (a0 + 7) ≤ 900) : ((0 : Int) ≤ a0) ∧ (a0 ≤ 999) := by omega
theorem oz1551 {a0 a1 : Int} (h0 : (0 : Int) ≤ a0) (h1 : (a1 + 4) ≤ 900) (h2 : a0 = (a1 + 1)) : ((0 : Int) ≤ a0) ∧ ((a0 + 3) ≤ 900) := by omega
theorem oz1552 {a0 a1 a2 : Int} (h0 : a0 = (a1 + 1)) (h1 : a2 = (a0 + 3)) : a2 = (a1 + 4) := by omega
theorem oz1553 {a0 a1 : Int} (h0 : (0 : Int) ≤ a0) (h1 : (a1 + 7) ≤ 900) (h2 : a0 = (a1 + 1)) : ((0 : Int) ≤ a0) ∧ ((a0 + 4) ≤ 900) := by omega
theorem oz1554 {a0 a1 a2 : Int} (h0 : a0 = 3) (h1 : a1 = a0) (h2 : a2 = a1) : a2 = 3 := by omega
theorem oz1555 {a0 a1 a2 : Int} (h0 : (0 : Int) ≤ a0) (h1 : (a1 + 7) ≤ 900) (h2 : a2 = (a1 + 1)) (h3 : a0 = (a2 + 4)) : ((0 : Int) ≤ a0) ∧ ((a0 + 2) ≤ 900) := by omega
theorem oz1556 {a0 a1 a2 a3 : Int} (h0 : a0 = (a1 + 2)) (h1 : a2 = (a3 + 1)) (h2 : a1 = (a2 + 4)) : a0 = (a3 + 7) := by omega
theorem oz1557 {a0 : Int} (h0 : (0 : Int) ≤ a0) (h1 : (a0 + 7) ≤ 900) : ((0 : Int) ≤ a0) ∧ ((a0 + 7) ≤ 900) := by omega
theorem oz1558 {a0 a1 : Int} (h0 : a0 = (a1 + 7)) : a0 = (a1 + 7) := by omega
theorem oz1559 {a0 : Int} (h0 : (0 : Int) ≤ a0) (h1 : (a0 + 8) ≤ 900) : ((0 : Int) ≤ a0) ∧ (a0 ≤ 999) := by omega
theorem oz1560 {a0 a1 : Int} (h0 : (0 : Int) ≤ a0) (h1 : (a1 + 8) ≤ 900) (h2 : a0 = (a1 + 1)) : ((0 : Int) ≤ a0) ∧ ((a0 + 3) ≤ 900) := by omega
theorem oz1561 {a0 a1 : Int} (h0 : (0 : Int) ≤ a0) (h1 : (a1 + 4) ≤ 900) (h2 : a0 = (a1 + 1)) : ((0 : Int) ≤ a0) ∧ ((a0 + 1) ≤ 900) := by omega
theorem oz1562 {a0 a1 a2 : Int} (h0 : (0 : Int) ≤ a0) (h1 : (a1 + 4) ≤ 900) (h2 : a2 = (a1 + 1)) (h3 : a0 = (a2 + 1)) : ((0 : Int) ≤ a0) ∧ ((a0 + 2) ≤ 900) := by omega
theorem oz1563 {a0 a1 a2 a3 : Int} (h0 : a0 = (a1 + 2)) (h1 : a2 = (a3 + 1)) (h2 : a1 = (a2 + 1)) : a0 = (a3 + 4) := by omega
theorem oz1564 {a0 a1 a2 : Int} (h0 : (0 : Int) ≤ a0) (h1 : (a1 + 8) ≤ 900) (h2 : a2 = (a1 + 1)) (h3 : a0 = (a2 + 3)) : ((0 : Int) ≤ a0) ∧ ((a0 + 4) ≤ 900) := by omega
theorem oz1565 {a0 a1 a2 a3 : Int} (h0 : a0 = (a1 + 4)) (h1 : a2 = (a3 + 1)) (h2 : a1 = (a2 + 3)) : a0 = (a3 + 8) := by omega
theorem oz1566 {a0 : Int} (h0 : (0 : Int) ≤ a0) (h1 : (a0 + 8) ≤ 900) : ((0 : Int) ≤ a0) ∧ ((a0 + 8) ≤ 900) := by omega
theorem oz1567 {a0 a1 : Int} (h0 : a0 = (a1 + 8)) : a0 = (a1 + 8) := by omega
theorem oz1568 {a0 : Int} (h0 : (0 : Int) ≤ a0) (h1 : (a0 + 4) ≤ 900) : ((0 : Int) ≤ a0) ∧ ((a0 + 4) ≤ 900) := by omega
theorem oz1569 {a0 a1 : Int} (h0 : a0 = (a1 + 4)) : a0 = (a1 + 4) := by omega
theorem oz1570 {a0 a1 a2 : Int} (h0 : a0 = 5) (h1 : a1 = a0) (h2 : a2 = a1) : a2 = 5 := by omega
theorem oz1571 {a0 a1 : Int} (h0 : (0 : Int) ≤ a0) (h1 : (a1 + 8) ≤ 900) (h2 : a0 = (a1 + 1)) : ((0 : Int) ≤ a0) ∧ ((a0 + 7) ≤ 900) := by omega
theorem oz1572 {a0 a1 a2 : Int} (h0 : a0 = (a1 + 1)) (h1 : a2 = (a0 + 7)) : a2 = (a1 + 8) := by omega
theorem oz1573 {a0 a1 a2 : Int} (h0 : a0 = 6) (h1 : a1 = a0) (h2 : a2 = a1) : a2 = 6 := by omega
theorem oz1574 {a0 : Int} (h0 : (0 : Int) ≤ a0) (h1 : (a0 + 14) ≤ 900) : ((0 : Int) ≤ a0) ∧ (a0 ≤ 999) := by omega
theorem oz1575 {a0 : Int} (h0 : (0 : Int) ≤ a0) (h1 : (a0 + 13) ≤ 900) : ((0 : Int) ≤ a0) ∧ (a0 ≤ 999) := by omega
theorem oz1576 {a0 a1 : Int} (h0 : (0 : Int) ≤ a0) (h1 : (a1 + 13) ≤ 900) (h2 : a0 = (a1 + 1)) : ((0 : Int) ≤ a0) ∧ ((a0 + 8) ≤ 900) := by omega
theorem oz1577 {a0 a1 a2 : Int} (h0 : (0 : Int) ≤ a0) (h1 : (a1 + 13) ≤ 900) (h2 : a2 = (a1 + 1)) (h3 : a0 = (a2 + 8)) : ((0 : Int) ≤ a0) ∧ ((a0 + 4) ≤ 900) := by omega
theorem oz1578 {a0 a1 a2 a3 : Int} (h0 : a0 = (a1 + 4)) (h1 : a2 = (a3 + 1)) (h2 : a1 = (a2 + 8)) : a0 = (a3 + 13) := by omega
theorem oz1579 {a0 : Int} (h0 : (0 : Int) ≤ a0) (h1 : (a0 + 13) ≤ 900) : ((0 : Int) ≤ a0) ∧ ((a0 + 13) ≤ 900) := by omega
theorem oz1580 {a0 a1 : Int} (h0 : a0 = (a1 + 13)) : a0 = (a1 + 13) := by omega
theorem oz1581 {a0 a1 : Int} (h0 : (0 : Int) ≤ a0) (h1 : (a1 + 14) ≤ 900) (h2 : a0 = (a1 + 1)) : ((0 : Int) ≤ a0) ∧ ((a0 + 13) ≤ 900) := by omega
theorem oz1582 {a0 a1 a2 : Int} (h0 : a0 = (a1 + 1)) (h1 : a2 = (a0 + 13)) : a2 = (a1 + 14) := by omega
theorem oz1583 {a0 : Int} (h0 : (0 : Int) ≤ a0) (h1 : a0 ≤ 7) (h2 : ¬ (a0 = 0)) (h3 : ¬ (a0 = 1)) (h4 : ¬ (a0 = 2)) (h5 : ¬ (a0 = 3)) (h6 : ¬ (a0 = 4)) (h7 : ¬ (a0 = 5)) (h8 : ¬ (a0 = 6)) (h9 : ¬ (a0 = 7)) : False := by omega
theorem oz1584 {a0 : Int} (h0 : (0 : Int) ≤ a0) (h1 : a0 ≤ 7) (h2 : ¬ (a0 = 5)) (h3 : ¬ (a0 = 6)) (h4 : ¬ (a0 = 7)) (h5 : ¬ (a0 = 0)) (h6 : ¬ (a0 = 1)) (h7 : ¬ (a0 = 2)) (h8 : ¬ (a0 = 3)) (h9 : ¬ (a0 = 4)) : False := by omega
def w212_116_l10_K2 : kW := ([7457], [135], [], [])
set_option maxRecDepth 100000 in
theorem kc212_116_l10_K2 {i : Nat → Int32} {a : Nat → List Int32} {q : Nat → List Int64} {r : Nat → Nat} (hI : kI i a q) (hr : kr r) (x1 : Int32) (x3 : Int32) (hp0 : ((0 : Int) ≤ x1.toInt) ∧ (x1.toInt ≤ 49)) (hp1 : ((a 134).getD x1.toNatClampNeg 0).toInt = 2) (hp2 : ((0 : Int) ≤ (i 7457).toInt) ∧ (((i 7457).toInt + 1) ≤ 900)) : km 3 212 [.ref 116, .int x1, .int 0, .int x3] (ks i a q r) (kVI w212_116_l10_K2 i a q r (fun v i1 a1 q1 r1 => (i1 7457).toInt = ((i 7457).toInt + 1))) := by
  have hG := kG_self w212_116_l10_K2 hI hr
  refine km_ofI (q := (mi_h212, mi_c212)) rfl (by decide) (Nat.le_of_ble_eq_true rfl) ?_
  intro P hP
  have r1 : ((0 : Int) ≤ ((a 134).getD x1.toNatClampNeg 0).toInt) ∧ (((a 134).getD x1.toNatClampNeg 0).toInt ≤ 7) := hG.I.2.2.1 134 (x1.toNatClampNeg)
  have fi_7457 : ((0 : Int) ≤ (i 7457).toInt) ∧ ((i 7457).toInt ≤ 1000) := hG.I.1 7457
  first | refine ft_goL mi_k212 4 39 [(0, .ref 116), (1, .int x1), (2, .int 0), (3, .int x3)] [.int 11, .ref 116] (by rfl) ?_ | refine ft_go mi_k212 4 39 [(0, .ref 116), (1, .int x1), (2, .int 0), (3, .int x3)] [.int 11, .ref 116] i a q r (by rfl) ?_
  refine ko_callN mi_k212.1 (pc := 39) (ls := [(0, .ref 116), (1, .int x1), (2, .int 0), (3, .int x3)]) (st := [.int 11, .ref 116]) (h := ks i a q r) (i := (.invokevirtual 351, 3, 209, 0, 9, 0, 464)) (mi_k212.2 _ _ (by rfl)) (ft_invS mi_pq209 (by rfl)) (cy := mi_c209) mi_pq209 rfl (kc209_116 hG.I hG.R 11 (oz1529 fi_7457.1 hp2.2)) (by decide) ?_
  intro ig2 ag2 qg2 rg2 kg2 hg2
  have hGg2 := kG_call hG kg2 (by decide +kernel)
  have z3 : (ig2 7457).toInt = ((i 7457).toInt + 1) := hg2
  first | refine fo_goS mi_k212 fz212_42_3_45 [.int (x3 ^^^ x1)] (by rfl) ?_ | refine ft_go mi_k212 3 45 [(0, .ref 116), (1, .int x1), (2, .int 0), (3, .int x3)] [.int (x3 ^^^ x1)] ig2 ag2 qg2 rg2 (by rfl) ?_
  exact ft_ret mi_k212 (by rfl) (hP (x3 ^^^ x1) _ _ _ _ hGg2 (oz1355 z3))
def w212_116_l12_K2 : kW := ([7457], [135], [], [])
set_option maxRecDepth 100000 in
theorem kc212_116_l12_K2 {i : Nat → Int32} {a : Nat → List Int32} {q : Nat → List Int64} {r : Nat → Nat} (hI : kI i a q) (hr : kr r) (x1 : Int32) (x3 : Int32) (hp0 : ((0 : Int) ≤ x1.toInt) ∧ (x1.toInt ≤ 49)) (hp1 : ((a 134).getD x1.toNatClampNeg 0).toInt = 2) (hp2 : ((0 : Int) ≤ (i 7457).toInt) ∧ (((i 7457).toInt + 1) ≤ 900)) : km 5 212 [.ref 116, .int x1, .int 2, .int x3] (ks i a q r) (kVI w212_116_l12_K2 i a q r (fun v i1 a1 q1 r1 => (i1 7457).toInt = ((i 7457).toInt + 1))) := by
  have hG := kG_self w212_116_l12_K2 hI hr
  refine km_ofI (q := (mi_h212, mi_c212)) rfl (by decide) (Nat.le_of_ble_eq_true rfl) ?_
  intro P hP
  have r1 : ((0 : Int) ≤ ((a 134).getD x1.toNatClampNeg 0).toInt) ∧ (((a 134).getD x1.toNatClampNeg 0).toInt ≤ 7) := hG.I.2.2.1 134 (x1.toNatClampNeg)
  have fi_7457 : ((0 : Int) ≤ (i 7457).toInt) ∧ ((i 7457).toInt ≤ 1000) := hG.I.1 7457
  first | refine ft_goL mi_k212 5 96 [(0, .ref 116), (1, .int x1), (2, .int 2), (3, .int x3)] [.int 2, .int x1, .ref 116] (by rfl) ?_ | refine ft_go mi_k212 5 96 [(0, .ref 116), (1, .int x1), (2, .int 2), (3, .int x3)] [.int 2, .int x1, .ref 116] i a q r (by rfl) ?_
  refine ko_callPI mi_k212.1 (pc := 96) (ls := [(0, .ref 116), (1, .int x1), (2, .int 2), (3, .int x3)]) (st := [.int 2, .int x1, .ref 116]) (h := ks i a q r) (i := (.invokestatic 357, 3, 208, 0, 9, 0, 465)) (mi_k212.2 _ _ (by rfl)) (ft_invS mi_pq208 (by rfl)) (cy := mi_c208) mi_pq208 rfl (kc208_l02 hG.I hG.R ) (by decide) ?_
  intro vg2 hg2
  have z3 : vg2.toInt = 0 := hg2
  have evvg2 := kj_eq (oz236 z3) (by decide : (0 : Int32).toInt = 0)
  subst evvg2
  first | refine fo_goS mi_k212 fz212_99_1_100 [.int x3, .int 0, .int x1, .ref 116] (by rfl) ?_ | refine ft_go mi_k212 1 100 [(0, .ref 116), (1, .int x1), (2, .int 2), (3, .int x3)] [.int x3, .int 0, .int x1, .ref 116] i a q r (by rfl) ?_
  refine ko_callI mi_k212.1 (pc := 100) (ls := [(0, .ref 116), (1, .int x1), (2, .int 2), (3, .int x3)]) (st := [.int x3, .int 0, .int x1, .ref 116]) (h := ks i a q r) (i := (.invokevirtual 363, 3, 212, 0, 9, 0, 467)) (mi_k212.2 _ _ (by rfl)) (ft_invS mi_pq212 (by rfl)) (cy := mi_c212) mi_pq212 rfl (kc212_116_l10_K2 hG.I hG.R x1 x3 (oz1339 hp0.1 hp0.2) (oz1411 hp1) (oz1354 fi_7457.1 hp2.2)) (by decide) ?_
  intro vg4 ig4 ag4 qg4 rg4 kg4 hg4
  have hGg4 := kG_call hG kg4 (by decide +kernel)
  have z5 : (ig4 7457).toInt = ((i 7457).toInt + 1) := hg4
  exact ft_ret mi_k212 (by rfl) (hP vg4 _ _ _ _ hGg4 (oz1355 z5))
def w213_116_l10_K2 : kW := ([7457], [135], [], [])
set_option maxRecDepth 100000 in
theorem kc213_116_l10_K2 {i : Nat → Int32} {a : Nat → List Int32} {q : Nat → List Int64} {r : Nat → Nat} (hI : kI i a q) (hr : kr r) (x1 : Int32) (x3 : Int32) (hp0 : ((0 : Int) ≤ x1.toInt) ∧ (x1.toInt ≤ 49)) (hp1 : ((a 134).getD x1.toNatClampNeg 0).toInt = 2) (hp2 : ((0 : Int) ≤ (i 7457).toInt) ∧ (((i 7457).toInt + 5) ≤ 900)) : km 11 213 [.ref 116, .int x1, .int 0, .int x3] (ks i a q r) (kVI w213_116_l10_K2 i a q r (fun v i1 a1 q1 r1 => (i1 7457).toInt = ((i 7457).toInt + 5))) := by
  have hG := kG_self w213_116_l10_K2 hI hr
  refine km_ofI (q := (mi_h213, mi_c213)) rfl (by decide) (Nat.le_of_ble_eq_true rfl) ?_
  intro P hP
  have r1 : ((0 : Int) ≤ ((a 134).getD x1.toNatClampNeg 0).toInt) ∧ (((a 134).getD x1.toNatClampNeg 0).toInt ≤ 7) := hG.I.2.2.1 134 (x1.toNatClampNeg)
  have fi_7457 : ((0 : Int) ≤ (i 7457).toInt) ∧ ((i 7457).toInt ≤ 1000) := hG.I.1 7457
  first | refine ft_goL mi_k213 4 38 [(0, .ref 116), (1, .int x1), (2, .int 0), (3, .int x3)] [.int 2, .ref 116] (by rfl) ?_ | refine ft_go mi_k213 4 38 [(0, .ref 116), (1, .int x1), (2, .int 0), (3, .int x3)] [.int 2, .ref 116] i a q r (by rfl) ?_
  refine ko_callN mi_k213.1 (pc := 38) (ls := [(0, .ref 116), (1, .int x1), (2, .int 0), (3, .int x3)]) (st := [.int 2, .ref 116]) (h := ks i a q r) (i := (.invokevirtual 351, 3, 209, 0, 9, 0, 464)) (mi_k213.2 _ _ (by rfl)) (ft_invS mi_pq209 (by rfl)) (cy := mi_c209) mi_pq209 rfl (kc209_116 hG.I hG.R 2 (oz1537 fi_7457.1 hp2.2)) (by decide) ?_
  intro ig2 ag2 qg2 rg2 kg2 hg2
  have hGg2 := kG_call hG kg2 (by decide +kernel)
  have fig2_7457 : ((0 : Int) ≤ (ig2 7457).toInt) ∧ ((ig2 7457).toInt ≤ 1000) := hGg2.I.1 7457
  have z3 : (ig2 7457).toInt = ((i 7457).toInt + 1) := hg2
  first | refine fo_goS mi_k213 fz213_41_5_48 [.int x1, .ref 134, .int x1, .ref 116] (by rfl) ?_ | refine ft_go mi_k213 5 48 [(0, .ref 116), (1, .int x1), (2, .int 0), (3, .int x3)] [.int x1, .ref 134, .int x1, .ref 116] ig2 ag2 qg2 rg2 (by rfl) ?_
  refine ko_iald3 mi_k213.1 (n := 50) (c := 50) (ax := (0, 0, 0, 0, 0)) (mi_k213.2 _ _ (by rfl)) (by rfl) (ksG134 _ _ _ _) (hGg2.I.2.1 134) rfl (oz3 hp0.1) (oz1336 hp0.2) ?_
  have r4 : ((0 : Int) ≤ ((ag2 134).getD x1.toNatClampNeg 0).toInt) ∧ (((ag2 134).getD x1.toNatClampNeg 0).toInt ≤ 7) := hGg2.I.2.2.1 134 (x1.toNatClampNeg)
  have u5 : ((ag2 134).getD x1.toNatClampNeg 0).toInt = ((a 134).getD x1.toNatClampNeg 0).toInt := congrArg (fun z : List Int32 => (z.getD x1.toNatClampNeg 0).toInt) (kg2.fa 134 rfl)
  refine ko_top (kj_eq (oz1412 hp1 u5) (by decide) : ((ag2 134).getD x1.toNatClampNeg 0) = 2) ?_
  first | refine fo_goS mi_k213 fz213_49_1_50 [.int x3, .int 2, .int x1, .ref 116] (by rfl) ?_ | refine ft_go mi_k213 1 50 [(0, .ref 116), (1, .int x1), (2, .int 0), (3, .int x3)] [.int x3, .int 2, .int x1, .ref 116] ig2 ag2 qg2 rg2 (by rfl) ?_
  refine ko_callI mi_k213.1 (pc := 50) (ls := [(0, .ref 116), (1, .int x1), (2, .int 0), (3, .int x3)]) (st := [.int x3, .int 2, .int x1, .ref 116]) (h := ks ig2 ag2 qg2 rg2) (i := (.invokevirtual 360, 3, 211, 0, 9, 0, 466)) (mi_k213.2 _ _ (by rfl)) (ft_invS mi_pq211 (by rfl)) (cy := mi_c211) mi_pq211 rfl (kc211_116_l12_K2 hGg2.I hGg2.R x1 x3 (oz1339 hp0.1 hp0.2) (oz1412 hp1 u5) (oz1543 fig2_7457.1 hp2.2 z3)) (by decide) ?_
  intro vg6 ig6 ag6 qg6 rg6 kg6 hg6
  have hGg6 := kG_call hGg2 kg6 (by decide +kernel)
  have fig6_7457 : ((0 : Int) ≤ (ig6 7457).toInt) ∧ ((ig6 7457).toInt ≤ 1000) := hGg6.I.1 7457
  have z7 : (ig6 7457).toInt = ((ig2 7457).toInt + 3) := hg6
  first | refine fo_goL mi_k213 fz213_53_7_64 [(4, .int vg6), (0, .ref 116), (1, .int x1), (2, .int 0), (3, .int x3)] [.int x1, .ref 134, .int x1, .ref 116, .int vg6] (by rfl) ?_ | refine ft_go mi_k213 7 64 [(4, .int vg6), (0, .ref 116), (1, .int x1), (2, .int 0), (3, .int x3)] [.int x1, .ref 134, .int x1, .ref 116, .int vg6] ig6 ag6 qg6 rg6 (by rfl) ?_
  refine ko_iald3 mi_k213.1 (n := 50) (c := 50) (ax := (0, 0, 0, 0, 0)) (mi_k213.2 _ _ (by rfl)) (by rfl) (ksG134 _ _ _ _) (hGg6.I.2.1 134) rfl (oz3 hp0.1) (oz1336 hp0.2) ?_
  have r8 : ((0 : Int) ≤ ((ag6 134).getD x1.toNatClampNeg 0).toInt) ∧ (((ag6 134).getD x1.toNatClampNeg 0).toInt ≤ 7) := hGg6.I.2.2.1 134 (x1.toNatClampNeg)
  have u9 : ((ag6 134).getD x1.toNatClampNeg 0).toInt = ((ag2 134).getD x1.toNatClampNeg 0).toInt := congrArg (fun z : List Int32 => (z.getD x1.toNatClampNeg 0).toInt) (kg6.fa 134 rfl)
  refine ko_top (kj_eq (oz1549 hp1 u5 u9) (by decide) : ((ag6 134).getD x1.toNatClampNeg 0) = 2) ?_
  first | refine fo_goS mi_k213 fz213_65_1_66 [.int 1, .int 2, .int x1, .ref 116, .int vg6] (by rfl) ?_ | refine ft_go mi_k213 1 66 [(4, .int vg6), (0, .ref 116), (1, .int x1), (2, .int 0), (3, .int x3)] [.int 1, .int 2, .int x1, .ref 116, .int vg6] ig6 ag6 qg6 rg6 (by rfl) ?_
  refine ko_callI mi_k213.1 (pc := 66) (ls := [(4, .int vg6), (0, .ref 116), (1, .int x1), (2, .int 0), (3, .int x3)]) (st := [.int 1, .int 2, .int x1, .ref 116, .int vg6]) (h := ks ig6 ag6 qg6 rg6) (i := (.invokevirtual 363, 3, 212, 0, 9, 0, 467)) (mi_k213.2 _ _ (by rfl)) (ft_invS mi_pq212 (by rfl)) (cy := mi_c212) mi_pq212 rfl (kc212_116_l12_K2 hGg6.I hGg6.R x1 1 (oz1339 hp0.1 hp0.2) (oz1549 hp1 u5 u9) (oz1545 fig6_7457.1 hp2.2 z3 z7)) (by decide) ?_
  intro vg10 ig10 ag10 qg10 rg10 kg10 hg10
  have hGg10 := kG_call hGg6 kg10 (by decide +kernel)
  have z11 : (ig10 7457).toInt = ((ig6 7457).toInt + 1) := hg10
  have b12 : ((-2147483648 : Int) ≤ vg6.toInt) ∧ (vg6.toInt ≤ 2147483647) := kd_bd vg6
  have b13 : ((-2147483648 : Int) ≤ vg10.toInt) ∧ (vg10.toInt ≤ 2147483647) := kd_bd vg10
  first | refine fo_goS mi_k213 fz213_69_1_70 [.int (vg6 - vg10)] (by rfl) ?_ | refine ft_go mi_k213 1 70 [(4, .int vg6), (0, .ref 116), (1, .int x1), (2, .int 0), (3, .int x3)] [.int (vg6 - vg10)] ig10 ag10 qg10 rg10 (by rfl) ?_
  exact ft_ret mi_k213 (by rfl) (hP (vg6 - vg10) _ _ _ _ hGg10 (oz1546 z11 z3 z7))
def w213_116_l12_K2 : kW := ([7457], [135], [], [])
set_option maxRecDepth 100000 in
theorem kc213_116_l12_K2 {i : Nat → Int32} {a : Nat → List Int32} {q : Nat → List Int64} {r : Nat → Nat} (hI : kI i a q) (hr : kr r) (x1 : Int32) (x3 : Int32) (hp0 : ((0 : Int) ≤ x1.toInt) ∧ (x1.toInt ≤ 49)) (hp1 : ((a 134).getD x1.toNatClampNeg 0).toInt = 2) (hp2 : ((0 : Int) ≤ (i 7457).toInt) ∧ (((i 7457).toInt + 5) ≤ 900)) : km 13 213 [.ref 116, .int x1, .int 2, .int x3] (ks i a q r) (kVI w213_116_l12_K2 i a q r (fun v i1 a1 q1 r1 => (i1 7457).toInt = ((i 7457).toInt + 5))) := by
  have hG := kG_self w213_116_l12_K2 hI hr
  refine km_ofI (q := (mi_h213, mi_c213)) rfl (by decide) (Nat.le_of_ble_eq_true rfl) ?_
  intro P hP
  have r1 : ((0 : Int) ≤ ((a 134).getD x1.toNatClampNeg 0).toInt) ∧ (((a 134).getD x1.toNatClampNeg 0).toInt ≤ 7) := hG.I.2.2.1 134 (x1.toNatClampNeg)
  have fi_7457 : ((0 : Int) ≤ (i 7457).toInt) ∧ ((i 7457).toInt ≤ 1000) := hG.I.1 7457
  first | refine ft_goL mi_k213 5 106 [(0, .ref 116), (1, .int x1), (2, .int 2), (3, .int x3)] [.int 2, .int x1, .ref 116] (by rfl) ?_ | refine ft_go mi_k213 5 106 [(0, .ref 116), (1, .int x1), (2, .int 2), (3, .int x3)] [.int 2, .int x1, .ref 116] i a q r (by rfl) ?_
  refine ko_callPI mi_k213.1 (pc := 106) (ls := [(0, .ref 116), (1, .int x1), (2, .int 2), (3, .int x3)]) (st := [.int 2, .int x1, .ref 116]) (h := ks i a q r) (i := (.invokestatic 357, 3, 208, 0, 9, 0, 465)) (mi_k213.2 _ _ (by rfl)) (ft_invS mi_pq208 (by rfl)) (cy := mi_c208) mi_pq208 rfl (kc208_l02 hG.I hG.R ) (by decide) ?_
  intro vg2 hg2
  have z3 : vg2.toInt = 0 := hg2
  have evvg2 := kj_eq (oz236 z3) (by decide : (0 : Int32).toInt = 0)
  subst evvg2
  first | refine fo_goS mi_k213 fz213_109_1_110 [.int x3, .int 0, .int x1, .ref 116] (by rfl) ?_ | refine ft_go mi_k213 1 110 [(0, .ref 116), (1, .int x1), (2, .int 2), (3, .int x3)] [.int x3, .int 0, .int x1, .ref 116] i a q r (by rfl) ?_
  refine ko_callI mi_k213.1 (pc := 110) (ls := [(0, .ref 116), (1, .int x1), (2, .int 2), (3, .int x3)]) (st := [.int x3, .int 0, .int x1, .ref 116]) (h := ks i a q r) (i := (.invokevirtual 366, 3, 213, 0, 9, 0, 468)) (mi_k213.2 _ _ (by rfl)) (ft_invS mi_pq213 (by rfl)) (cy := mi_c213) mi_pq213 rfl (kc213_116_l10_K2 hG.I hG.R x1 x3 (oz1339 hp0.1 hp0.2) (oz1411 hp1) (oz1547 fi_7457.1 hp2.2)) (by decide) ?_
  intro vg4 ig4 ag4 qg4 rg4 kg4 hg4
  have hGg4 := kG_call hG kg4 (by decide +kernel)
  have z5 : (ig4 7457).toInt = ((i 7457).toInt + 5) := hg4
  exact ft_ret mi_k213 (by rfl) (hP vg4 _ _ _ _ hGg4 (oz1548 z5))
set_option maxRecDepth 100000 in
theorem kc208_l03 {i : Nat → Int32} {a : Nat → List Int32} {q : Nat → List Int64} {r : Nat → Nat} (hI : kI i a q) (hr : kr r)  : km 1 208 [.int 3] (ks i a q r) (kPI (ks i a q r) (fun v => v.toInt = 2)) := by
  have hG := kG_self kW0 hI hr
  refine km_ofPI (q := (mi_h208, mi_c208)) rfl (by decide) (Nat.le_of_ble_eq_true rfl) ?_
  intro P hP
  first | refine ft_goL mi_k208 3 37 [(0, .int 3)] [.int 2] (by rfl) ?_ | refine ft_go mi_k208 3 37 [(0, .int 3)] [.int 2] i a q r (by rfl) ?_
  exact ft_ret mi_k208 (by rfl) (hP 2 (oz1411 kn2))
def w210_116_l10_K3 : kW := ([7457], [135], [], [])
set_option maxRecDepth 100000 in
theorem kc210_116_l10_K3 {i : Nat → Int32} {a : Nat → List Int32} {q : Nat → List Int64} {r : Nat → Nat} (hI : kI i a q) (hr : kr r) (x1 : Int32) (x3 : Int32) (hp0 : ((0 : Int) ≤ x1.toInt) ∧ (x1.toInt ≤ 49)) (hp1 : ((a 134).getD x1.toNatClampNeg 0).toInt = 3) (hp2 : ((0 : Int) ≤ (i 7457).toInt) ∧ (((i 7457).toInt + 1) ≤ 900)) : km 3 210 [.ref 116, .int x1, .int 0, .int x3] (ks i a q r) (kVI w210_116_l10_K3 i a q r (fun v i1 a1 q1 r1 => (i1 7457).toInt = ((i 7457).toInt + 1))) := by
  have hG := kG_self w210_116_l10_K3 hI hr
  refine km_ofI (q := (mi_h210, mi_c210)) rfl (by decide) (Nat.le_of_ble_eq_true rfl) ?_
  intro P hP
  have r1 : ((0 : Int) ≤ ((a 134).getD x1.toNatClampNeg 0).toInt) ∧ (((a 134).getD x1.toNatClampNeg 0).toInt ≤ 7) := hG.I.2.2.1 134 (x1.toNatClampNeg)
  have fi_7457 : ((0 : Int) ≤ (i 7457).toInt) ∧ ((i 7457).toInt ≤ 1000) := hG.I.1 7457
  first | refine ft_goL mi_k210 4 38 [(0, .ref 116), (1, .int x1), (2, .int 0), (3, .int x3)] [.int 1, .ref 116] (by rfl) ?_ | refine ft_go mi_k210 4 38 [(0, .ref 116), (1, .int x1), (2, .int 0), (3, .int x3)] [.int 1, .ref 116] i a q r (by rfl) ?_
  refine ko_callN mi_k210.1 (pc := 38) (ls := [(0, .ref 116), (1, .int x1), (2, .int 0), (3, .int x3)]) (st := [.int 1, .ref 116]) (h := ks i a q r) (i := (.invokevirtual 351, 3, 209, 0, 9, 0, 464)) (mi_k210.2 _ _ (by rfl)) (ft_invS mi_pq209 (by rfl)) (cy := mi_c209) mi_pq209 rfl (kc209_116 hG.I hG.R 1 (oz1529 fi_7457.1 hp2.2)) (by decide) ?_
  intro ig2 ag2 qg2 rg2 kg2 hg2
  have hGg2 := kG_call hG kg2 (by decide +kernel)
  have z3 : (ig2 7457).toInt = ((i 7457).toInt + 1) := hg2
  have b4 : ((-2147483648 : Int) ≤ x3.toInt) ∧ (x3.toInt ≤ 2147483647) := kd_bd x3
  have b5 : ((-2147483648 : Int) ≤ x1.toInt) ∧ (x1.toInt ≤ 2147483647) := kd_bd x1
  first | refine fo_goS mi_k210 fz210_41_3_44 [.int (x3 + x1)] (by rfl) ?_ | refine ft_go mi_k210 3 44 [(0, .ref 116), (1, .int x1), (2, .int 0), (3, .int x3)] [.int (x3 + x1)] ig2 ag2 qg2 rg2 (by rfl) ?_
  exact ft_ret mi_k210 (by rfl) (hP (x3 + x1) _ _ _ _ hGg2 (oz1355 z3))
def w210_116_l12_K3 : kW := ([7457], [135], [], [])
set_option maxRecDepth 100000 in
theorem kc210_116_l12_K3 {i : Nat → Int32} {a : Nat → List Int32} {q : Nat → List Int64} {r : Nat → Nat} (hI : kI i a q) (hr : kr r) (x1 : Int32) (x3 : Int32) (hp0 : ((0 : Int) ≤ x1.toInt) ∧ (x1.toInt ≤ 49)) (hp1 : ((a 134).getD x1.toNatClampNeg 0).toInt = 3) (hp2 : ((0 : Int) ≤ (i 7457).toInt) ∧ (((i 7457).toInt + 1) ≤ 900)) : km 5 210 [.ref 116, .int x1, .int 2, .int x3] (ks i a q r) (kVI w210_116_l12_K3 i a q r (fun v i1 a1 q1 r1 => (i1 7457).toInt = ((i 7457).toInt + 1))) := by
  have hG := kG_self w210_116_l12_K3 hI hr
  refine km_ofI (q := (mi_h210, mi_c210)) rfl (by decide) (Nat.le_of_ble_eq_true rfl) ?_
  intro P hP
  have r1 : ((0 : Int) ≤ ((a 134).getD x1.toNatClampNeg 0).toInt) ∧ (((a 134).getD x1.toNatClampNeg 0).toInt ≤ 7) := hG.I.2.2.1 134 (x1.toNatClampNeg)
  have fi_7457 : ((0 : Int) ≤ (i 7457).toInt) ∧ ((i 7457).toInt ≤ 1000) := hG.I.1 7457
  first | refine ft_goL mi_k210 5 80 [(0, .ref 116), (1, .int x1), (2, .int 2), (3, .int x3)] [.int 2, .int x1, .ref 116] (by rfl) ?_ | refine ft_go mi_k210 5 80 [(0, .ref 116), (1, .int x1), (2, .int 2), (3, .int x3)] [.int 2, .int x1, .ref 116] i a q r (by rfl) ?_
  refine ko_callPI mi_k210.1 (pc := 80) (ls := [(0, .ref 116), (1, .int x1), (2, .int 2), (3, .int x3)]) (st := [.int 2, .int x1, .ref 116]) (h := ks i a q r) (i := (.invokestatic 357, 3, 208, 0, 9, 0, 465)) (mi_k210.2 _ _ (by rfl)) (ft_invS mi_pq208 (by rfl)) (cy := mi_c208) mi_pq208 rfl (kc208_l02 hG.I hG.R ) (by decide) ?_
  intro vg2 hg2
  have z3 : vg2.toInt = 0 := hg2
  have evvg2 := kj_eq (oz236 z3) (by decide : (0 : Int32).toInt = 0)
  subst evvg2
  first | refine fo_goS mi_k210 fz210_83_1_84 [.int x3, .int 0, .int x1, .ref 116] (by rfl) ?_ | refine ft_go mi_k210 1 84 [(0, .ref 116), (1, .int x1), (2, .int 2), (3, .int x3)] [.int x3, .int 0, .int x1, .ref 116] i a q r (by rfl) ?_
  refine ko_callI mi_k210.1 (pc := 84) (ls := [(0, .ref 116), (1, .int x1), (2, .int 2), (3, .int x3)]) (st := [.int x3, .int 0, .int x1, .ref 116]) (h := ks i a q r) (i := (.invokevirtual 354, 3, 210, 0, 9, 0, 463)) (mi_k210.2 _ _ (by rfl)) (ft_invS mi_pq210 (by rfl)) (cy := mi_c210) mi_pq210 rfl (kc210_116_l10_K3 hG.I hG.R x1 x3 (oz1339 hp0.1 hp0.2) (oz1421 hp1) (oz1354 fi_7457.1 hp2.2)) (by decide) ?_
  intro vg4 ig4 ag4 qg4 rg4 kg4 hg4
  have hGg4 := kG_call hG kg4 (by decide +kernel)
  have z5 : (ig4 7457).toInt = ((i 7457).toInt + 1) := hg4
  exact ft_ret mi_k210 (by rfl) (hP vg4 _ _ _ _ hGg4 (oz1355 z5))
def w210_116_l13_K3 : kW := ([7457], [135], [], [])
set_option maxRecDepth 100000 in
theorem kc210_116_l13_K3 {i : Nat → Int32} {a : Nat → List Int32} {q : Nat → List Int64} {r : Nat → Nat} (hI : kI i a q) (hr : kr r) (x1 : Int32) (x3 : Int32) (hp0 : ((0 : Int) ≤ x1.toInt) ∧ (x1.toInt ≤ 49)) (hp1 : ((a 134).getD x1.toNatClampNeg 0).toInt = 3) (hp2 : ((0 : Int) ≤ (i 7457).toInt) ∧ (((i 7457).toInt + 1) ≤ 900)) : km 7 210 [.ref 116, .int x1, .int 3, .int x3] (ks i a q r) (kVI w210_116_l13_K3 i a q r (fun v i1 a1 q1 r1 => (i1 7457).toInt = ((i 7457).toInt + 1))) := by
  have hG := kG_self w210_116_l13_K3 hI hr
  refine km_ofI (q := (mi_h210, mi_c210)) rfl (by decide) (Nat.le_of_ble_eq_true rfl) ?_
  intro P hP
  have r1 : ((0 : Int) ≤ ((a 134).getD x1.toNatClampNeg 0).toInt) ∧ (((a 134).getD x1.toNatClampNeg 0).toInt ≤ 7) := hG.I.2.2.1 134 (x1.toNatClampNeg)
  have fi_7457 : ((0 : Int) ≤ (i 7457).toInt) ∧ ((i 7457).toInt ≤ 1000) := hG.I.1 7457
  first | refine ft_goL mi_k210 5 80 [(0, .ref 116), (1, .int x1), (2, .int 3), (3, .int x3)] [.int 3, .int x1, .ref 116] (by rfl) ?_ | refine ft_go mi_k210 5 80 [(0, .ref 116), (1, .int x1), (2, .int 3), (3, .int x3)] [.int 3, .int x1, .ref 116] i a q r (by rfl) ?_
  refine ko_callPI mi_k210.1 (pc := 80) (ls := [(0, .ref 116), (1, .int x1), (2, .int 3), (3, .int x3)]) (st := [.int 3, .int x1, .ref 116]) (h := ks i a q r) (i := (.invokestatic 357, 3, 208, 0, 9, 0, 465)) (mi_k210.2 _ _ (by rfl)) (ft_invS mi_pq208 (by rfl)) (cy := mi_c208) mi_pq208 rfl (kc208_l03 hG.I hG.R ) (by decide) ?_
  intro vg2 hg2
  have z3 : vg2.toInt = 2 := hg2
  have evvg2 := kj_eq (oz1411 z3) (by decide : (2 : Int32).toInt = 2)
  subst evvg2
  first | refine fo_goS mi_k210 fz210_83_1_84 [.int x3, .int 2, .int x1, .ref 116] (by rfl) ?_ | refine ft_go mi_k210 1 84 [(0, .ref 116), (1, .int x1), (2, .int 3), (3, .int x3)] [.int x3, .int 2, .int x1, .ref 116] i a q r (by rfl) ?_
  refine ko_callI mi_k210.1 (pc := 84) (ls := [(0, .ref 116), (1, .int x1), (2, .int 3), (3, .int x3)]) (st := [.int x3, .int 2, .int x1, .ref 116]) (h := ks i a q r) (i := (.invokevirtual 354, 3, 210, 0, 9, 0, 463)) (mi_k210.2 _ _ (by rfl)) (ft_invS mi_pq210 (by rfl)) (cy := mi_c210) mi_pq210 rfl (kc210_116_l12_K3 hG.I hG.R x1 x3 (oz1339 hp0.1 hp0.2) (oz1421 hp1) (oz1354 fi_7457.1 hp2.2)) (by decide) ?_
  intro vg4 ig4 ag4 qg4 rg4 kg4 hg4
  have hGg4 := kG_call hG kg4 (by decide +kernel)
  have z5 : (ig4 7457).toInt = ((i 7457).toInt + 1) := hg4
  exact ft_ret mi_k210 (by rfl) (hP vg4 _ _ _ _ hGg4 (oz1355 z5))
def w211_116_l10_K3 : kW := ([7457], [135], [], [])
set_option maxRecDepth 100000 in
theorem kc211_116_l10_K3 {i : Nat → Int32} {a : Nat → List Int32} {q : Nat → List Int64} {r : Nat → Nat} (hI : kI i a q) (hr : kr r) (x1 : Int32) (x3 : Int32) (hp0 : ((0 : Int) ≤ x1.toInt) ∧ (x1.toInt ≤ 49)) (hp1 : ((a 134).getD x1.toNatClampNeg 0).toInt = 3) (hp2 : ((0 : Int) ≤ (i 7457).toInt) ∧ (((i 7457).toInt + 2) ≤ 900)) : km 9 211 [.ref 116, .int x1, .int 0, .int x3] (ks i a q r) (kVI w211_116_l10_K3 i a q r (fun v i1 a1 q1 r1 => (i1 7457).toInt = ((i 7457).toInt + 2))) := by
  have hG := kG_self w211_116_l10_K3 hI hr
  refine km_ofI (q := (mi_h211, mi_c211)) rfl (by decide) (Nat.le_of_ble_eq_true rfl) ?_
  intro P hP
  have r1 : ((0 : Int) ≤ ((a 134).getD x1.toNatClampNeg 0).toInt) ∧ (((a 134).getD x1.toNatClampNeg 0).toInt ≤ 7) := hG.I.2.2.1 134 (x1.toNatClampNeg)
  have fi_7457 : ((0 : Int) ≤ (i 7457).toInt) ∧ ((i 7457).toInt ≤ 1000) := hG.I.1 7457
  first | refine ft_goL mi_k211 4 51 [(0, .ref 116), (1, .int x1), (2, .int 0), (3, .int x3)] [.int 10, .ref 116] (by rfl) ?_ | refine ft_go mi_k211 4 51 [(0, .ref 116), (1, .int x1), (2, .int 0), (3, .int x3)] [.int 10, .ref 116] i a q r (by rfl) ?_
  refine ko_callN mi_k211.1 (pc := 51) (ls := [(0, .ref 116), (1, .int x1), (2, .int 0), (3, .int x3)]) (st := [.int 10, .ref 116]) (h := ks i a q r) (i := (.invokevirtual 351, 3, 209, 0, 9, 0, 464)) (mi_k211.2 _ _ (by rfl)) (ft_invS mi_pq209 (by rfl)) (cy := mi_c209) mi_pq209 rfl (kc209_116 hG.I hG.R 10 (oz1528 fi_7457.1 hp2.2)) (by decide) ?_
  intro ig2 ag2 qg2 rg2 kg2 hg2
  have hGg2 := kG_call hG kg2 (by decide +kernel)
  have fig2_7457 : ((0 : Int) ≤ (ig2 7457).toInt) ∧ ((ig2 7457).toInt ≤ 1000) := hGg2.I.1 7457
  have z3 : (ig2 7457).toInt = ((i 7457).toInt + 1) := hg2
  first | refine fo_goS mi_k211 fz211_54_5_61 [.int x1, .ref 134, .int x1, .ref 116] (by rfl) ?_ | refine ft_go mi_k211 5 61 [(0, .ref 116), (1, .int x1), (2, .int 0), (3, .int x3)] [.int x1, .ref 134, .int x1, .ref 116] ig2 ag2 qg2 rg2 (by rfl) ?_
  refine ko_iald3 mi_k211.1 (n := 50) (c := 50) (ax := (0, 0, 0, 0, 0)) (mi_k211.2 _ _ (by rfl)) (by rfl) (ksG134 _ _ _ _) (hGg2.I.2.1 134) rfl (oz3 hp0.1) (oz1336 hp0.2) ?_
  have r4 : ((0 : Int) ≤ ((ag2 134).getD x1.toNatClampNeg 0).toInt) ∧ (((ag2 134).getD x1.toNatClampNeg 0).toInt ≤ 7) := hGg2.I.2.2.1 134 (x1.toNatClampNeg)
  have u5 : ((ag2 134).getD x1.toNatClampNeg 0).toInt = ((a 134).getD x1.toNatClampNeg 0).toInt := congrArg (fun z : List Int32 => (z.getD x1.toNatClampNeg 0).toInt) (kg2.fa 134 rfl)
  refine ko_top (kj_eq (oz1422 hp1 u5) (by decide) : ((ag2 134).getD x1.toNatClampNeg 0) = 3) ?_
  first | refine fo_goS mi_k211 fz211_62_1_63 [.int x3, .int 3, .int x1, .ref 116] (by rfl) ?_ | refine ft_go mi_k211 1 63 [(0, .ref 116), (1, .int x1), (2, .int 0), (3, .int x3)] [.int x3, .int 3, .int x1, .ref 116] ig2 ag2 qg2 rg2 (by rfl) ?_
  refine ko_callI mi_k211.1 (pc := 63) (ls := [(0, .ref 116), (1, .int x1), (2, .int 0), (3, .int x3)]) (st := [.int x3, .int 3, .int x1, .ref 116]) (h := ks ig2 ag2 qg2 rg2) (i := (.invokevirtual 354, 3, 210, 0, 9, 0, 463)) (mi_k211.2 _ _ (by rfl)) (ft_invS mi_pq210 (by rfl)) (cy := mi_c210) mi_pq210 rfl (kc210_116_l13_K3 hGg2.I hGg2.R x1 x3 (oz1339 hp0.1 hp0.2) (oz1422 hp1 u5) (oz1530 fig2_7457.1 hp2.2 z3)) (by decide) ?_
  intro vg6 ig6 ag6 qg6 rg6 kg6 hg6
  have hGg6 := kG_call hGg2 kg6 (by decide +kernel)
  have z7 : (ig6 7457).toInt = ((ig2 7457).toInt + 1) := hg6
  have b8 : ((-2147483648 : Int) ≤ vg6.toInt) ∧ (vg6.toInt ≤ 2147483647) := kd_bd vg6
  first | refine fo_goS mi_k211 fz211_66_2_68 [.int (vg6 * 2)] (by rfl) ?_ | refine ft_go mi_k211 2 68 [(0, .ref 116), (1, .int x1), (2, .int 0), (3, .int x3)] [.int (vg6 * 2)] ig6 ag6 qg6 rg6 (by rfl) ?_
  exact ft_ret mi_k211 (by rfl) (hP (vg6 * 2) _ _ _ _ hGg6 (oz1531 z3 z7))
def w211_116_l12_K3 : kW := ([7457], [135], [], [])
set_option maxRecDepth 100000 in
theorem kc211_116_l12_K3 {i : Nat → Int32} {a : Nat → List Int32} {q : Nat → List Int64} {r : Nat → Nat} (hI : kI i a q) (hr : kr r) (x1 : Int32) (x3 : Int32) (hp0 : ((0 : Int) ≤ x1.toInt) ∧ (x1.toInt ≤ 49)) (hp1 : ((a 134).getD x1.toNatClampNeg 0).toInt = 3) (hp2 : ((0 : Int) ≤ (i 7457).toInt) ∧ (((i 7457).toInt + 3) ≤ 900)) : km 11 211 [.ref 116, .int x1, .int 2, .int x3] (ks i a q r) (kVI w211_116_l12_K3 i a q r (fun v i1 a1 q1 r1 => (i1 7457).toInt = ((i 7457).toInt + 3))) := by
  have hG := kG_self w211_116_l12_K3 hI hr
  refine km_ofI (q := (mi_h211, mi_c211)) rfl (by decide) (Nat.le_of_ble_eq_true rfl) ?_
  intro P hP
  have r1 : ((0 : Int) ≤ ((a 134).getD x1.toNatClampNeg 0).toInt) ∧ (((a 134).getD x1.toNatClampNeg 0).toInt ≤ 7) := hG.I.2.2.1 134 (x1.toNatClampNeg)
  have fi_7457 : ((0 : Int) ≤ (i 7457).toInt) ∧ ((i 7457).toInt ≤ 1000) := hG.I.1 7457
  first | refine ft_goL mi_k211 4 72 [(0, .ref 116), (1, .int x1), (2, .int 2), (3, .int x3)] [.int 30, .ref 116] (by rfl) ?_ | refine ft_go mi_k211 4 72 [(0, .ref 116), (1, .int x1), (2, .int 2), (3, .int x3)] [.int 30, .ref 116] i a q r (by rfl) ?_
  refine ko_callN mi_k211.1 (pc := 72) (ls := [(0, .ref 116), (1, .int x1), (2, .int 2), (3, .int x3)]) (st := [.int 30, .ref 116]) (h := ks i a q r) (i := (.invokevirtual 351, 3, 209, 0, 9, 0, 464)) (mi_k211.2 _ _ (by rfl)) (ft_invS mi_pq209 (by rfl)) (cy := mi_c209) mi_pq209 rfl (kc209_116 hG.I hG.R 30 (oz1538 fi_7457.1 hp2.2)) (by decide) ?_
  intro ig2 ag2 qg2 rg2 kg2 hg2
  have hGg2 := kG_call hG kg2 (by decide +kernel)
  have fig2_7457 : ((0 : Int) ≤ (ig2 7457).toInt) ∧ ((ig2 7457).toInt ≤ 1000) := hGg2.I.1 7457
  have z3 : (ig2 7457).toInt = ((i 7457).toInt + 1) := hg2
  first | refine fo_goS mi_k211 fz211_75_4_79 [.int x3, .int 0, .int x1, .ref 116] (by rfl) ?_ | refine ft_go mi_k211 4 79 [(0, .ref 116), (1, .int x1), (2, .int 2), (3, .int x3)] [.int x3, .int 0, .int x1, .ref 116] ig2 ag2 qg2 rg2 (by rfl) ?_
  have r4 : ((0 : Int) ≤ ((ag2 134).getD x1.toNatClampNeg 0).toInt) ∧ (((ag2 134).getD x1.toNatClampNeg 0).toInt ≤ 7) := hGg2.I.2.2.1 134 (x1.toNatClampNeg)
  have u5 : ((ag2 134).getD x1.toNatClampNeg 0).toInt = ((a 134).getD x1.toNatClampNeg 0).toInt := congrArg (fun z : List Int32 => (z.getD x1.toNatClampNeg 0).toInt) (kg2.fa 134 rfl)
  refine ko_callI mi_k211.1 (pc := 79) (ls := [(0, .ref 116), (1, .int x1), (2, .int 2), (3, .int x3)]) (st := [.int x3, .int 0, .int x1, .ref 116]) (h := ks ig2 ag2 qg2 rg2) (i := (.invokevirtual 360, 3, 211, 0, 9, 0, 466)) (mi_k211.2 _ _ (by rfl)) (ft_invS mi_pq211 (by rfl)) (cy := mi_c211) mi_pq211 rfl (kc211_116_l10_K3 hGg2.I hGg2.R x1 x3 (oz1339 hp0.1 hp0.2) (oz1422 hp1 u5) (oz1539 fig2_7457.1 hp2.2 z3)) (by decide) ?_
  intro vg6 ig6 ag6 qg6 rg6 kg6 hg6
  have hGg6 := kG_call hGg2 kg6 (by decide +kernel)
  have z7 : (ig6 7457).toInt = ((ig2 7457).toInt + 2) := hg6
  first | refine ft_goS mi_k211 1 83 [.int (-vg6)] (by rfl) ?_ | refine ft_go mi_k211 1 83 [(0, .ref 116), (1, .int x1), (2, .int 2), (3, .int x3)] [.int (-vg6)] ig6 ag6 qg6 rg6 (by rfl) ?_
  exact ft_ret mi_k211 (by rfl) (hP (-vg6) _ _ _ _ hGg6 (oz1540 z3 z7))
def w211_116_l13_K3 : kW := ([7457], [135], [], [])
set_option maxRecDepth 100000 in
theorem kc211_116_l13_K3 {i : Nat → Int32} {a : Nat → List Int32} {q : Nat → List Int64} {r : Nat → Nat} (hI : kI i a q) (hr : kr r) (x1 : Int32) (x3 : Int32) (hp0 : ((0 : Int) ≤ x1.toInt) ∧ (x1.toInt ≤ 49)) (hp1 : ((a 134).getD x1.toNatClampNeg 0).toInt = 3) (hp2 : ((0 : Int) ≤ (i 7457).toInt) ∧ (((i 7457).toInt + 4) ≤ 900)) : km 13 211 [.ref 116, .int x1, .int 3, .int x3] (ks i a q r) (kVI w211_116_l13_K3 i a q r (fun v i1 a1 q1 r1 => (i1 7457).toInt = ((i 7457).toInt + 4))) := by
  have hG := kG_self w211_116_l13_K3 hI hr
  refine km_ofI (q := (mi_h211, mi_c211)) rfl (by decide) (Nat.le_of_ble_eq_true rfl) ?_
  intro P hP
  have r1 : ((0 : Int) ≤ ((a 134).getD x1.toNatClampNeg 0).toInt) ∧ (((a 134).getD x1.toNatClampNeg 0).toInt ≤ 7) := hG.I.2.2.1 134 (x1.toNatClampNeg)
  have fi_7457 : ((0 : Int) ≤ (i 7457).toInt) ∧ ((i 7457).toInt ≤ 1000) := hG.I.1 7457
  first | refine ft_goL mi_k211 4 87 [(0, .ref 116), (1, .int x1), (2, .int 3), (3, .int x3)] [.int 41, .ref 116] (by rfl) ?_ | refine ft_go mi_k211 4 87 [(0, .ref 116), (1, .int x1), (2, .int 3), (3, .int x3)] [.int 41, .ref 116] i a q r (by rfl) ?_
  refine ko_callN mi_k211.1 (pc := 87) (ls := [(0, .ref 116), (1, .int x1), (2, .int 3), (3, .int x3)]) (st := [.int 41, .ref 116]) (h := ks i a q r) (i := (.invokevirtual 351, 3, 209, 0, 9, 0, 464)) (mi_k211.2 _ _ (by rfl)) (ft_invS mi_pq209 (by rfl)) (cy := mi_c209) mi_pq209 rfl (kc209_116 hG.I hG.R 41 (oz1527 fi_7457.1 hp2.2)) (by decide) ?_
  intro ig2 ag2 qg2 rg2 kg2 hg2
  have hGg2 := kG_call hG kg2 (by decide +kernel)
  have fig2_7457 : ((0 : Int) ≤ (ig2 7457).toInt) ∧ ((ig2 7457).toInt ≤ 1000) := hGg2.I.1 7457
  have z3 : (ig2 7457).toInt = ((i 7457).toInt + 1) := hg2
  have b4 : ((-2147483648 : Int) ≤ x3.toInt) ∧ (x3.toInt ≤ 2147483647) := kd_bd x3
  first | refine fo_goS mi_k211 fz211_90_6_96 [.int (x3 + 1), .int 2, .int x1, .ref 116] (by rfl) ?_ | refine ft_go mi_k211 6 96 [(0, .ref 116), (1, .int x1), (2, .int 3), (3, .int x3)] [.int (x3 + 1), .int 2, .int x1, .ref 116] ig2 ag2 qg2 rg2 (by rfl) ?_
  have r5 : ((0 : Int) ≤ ((ag2 134).getD x1.toNatClampNeg 0).toInt) ∧ (((ag2 134).getD x1.toNatClampNeg 0).toInt ≤ 7) := hGg2.I.2.2.1 134 (x1.toNatClampNeg)
  have u6 : ((ag2 134).getD x1.toNatClampNeg 0).toInt = ((a 134).getD x1.toNatClampNeg 0).toInt := congrArg (fun z : List Int32 => (z.getD x1.toNatClampNeg 0).toInt) (kg2.fa 134 rfl)
  refine ko_callI mi_k211.1 (pc := 96) (ls := [(0, .ref 116), (1, .int x1), (2, .int 3), (3, .int x3)]) (st := [.int (x3 + 1), .int 2, .int x1, .ref 116]) (h := ks ig2 ag2 qg2 rg2) (i := (.invokevirtual 360, 3, 211, 0, 9, 0, 466)) (mi_k211.2 _ _ (by rfl)) (ft_invS mi_pq211 (by rfl)) (cy := mi_c211) mi_pq211 rfl (kc211_116_l12_K3 hGg2.I hGg2.R x1 (x3 + 1) (oz1339 hp0.1 hp0.2) (oz1422 hp1 u6) (oz1551 fig2_7457.1 hp2.2 z3)) (by decide) ?_
  intro vg7 ig7 ag7 qg7 rg7 kg7 hg7
  have hGg7 := kG_call hGg2 kg7 (by decide +kernel)
  have z8 : (ig7 7457).toInt = ((ig2 7457).toInt + 3) := hg7
  exact ft_ret mi_k211 (by rfl) (hP vg7 _ _ _ _ hGg7 (oz1552 z3 z8))
def w212_116_l10_K3 : kW := ([7457], [135], [], [])
set_option maxRecDepth 100000 in
theorem kc212_116_l10_K3 {i : Nat → Int32} {a : Nat → List Int32} {q : Nat → List Int64} {r : Nat → Nat} (hI : kI i a q) (hr : kr r) (x1 : Int32) (x3 : Int32) (hp0 : ((0 : Int) ≤ x1.toInt) ∧ (x1.toInt ≤ 49)) (hp1 : ((a 134).getD x1.toNatClampNeg 0).toInt = 3) (hp2 : ((0 : Int) ≤ (i 7457).toInt) ∧ (((i 7457).toInt + 1) ≤ 900)) : km 3 212 [.ref 116, .int x1, .int 0, .int x3] (ks i a q r) (kVI w212_116_l10_K3 i a q r (fun v i1 a1 q1 r1 => (i1 7457).toInt = ((i 7457).toInt + 1))) := by
  have hG := kG_self w212_116_l10_K3 hI hr
  refine km_ofI (q := (mi_h212, mi_c212)) rfl (by decide) (Nat.le_of_ble_eq_true rfl) ?_
  intro P hP
  have r1 : ((0 : Int) ≤ ((a 134).getD x1.toNatClampNeg 0).toInt) ∧ (((a 134).getD x1.toNatClampNeg 0).toInt ≤ 7) := hG.I.2.2.1 134 (x1.toNatClampNeg)
  have fi_7457 : ((0 : Int) ≤ (i 7457).toInt) ∧ ((i 7457).toInt ≤ 1000) := hG.I.1 7457
  first | refine ft_goL mi_k212 4 39 [(0, .ref 116), (1, .int x1), (2, .int 0), (3, .int x3)] [.int 11, .ref 116] (by rfl) ?_ | refine ft_go mi_k212 4 39 [(0, .ref 116), (1, .int x1), (2, .int 0), (3, .int x3)] [.int 11, .ref 116] i a q r (by rfl) ?_
  refine ko_callN mi_k212.1 (pc := 39) (ls := [(0, .ref 116), (1, .int x1), (2, .int 0), (3, .int x3)]) (st := [.int 11, .ref 116]) (h := ks i a q r) (i := (.invokevirtual 351, 3, 209, 0, 9, 0, 464)) (mi_k212.2 _ _ (by rfl)) (ft_invS mi_pq209 (by rfl)) (cy := mi_c209) mi_pq209 rfl (kc209_116 hG.I hG.R 11 (oz1529 fi_7457.1 hp2.2)) (by decide) ?_
  intro ig2 ag2 qg2 rg2 kg2 hg2
  have hGg2 := kG_call hG kg2 (by decide +kernel)
  have z3 : (ig2 7457).toInt = ((i 7457).toInt + 1) := hg2
  first | refine fo_goS mi_k212 fz212_42_3_45 [.int (x3 ^^^ x1)] (by rfl) ?_ | refine ft_go mi_k212 3 45 [(0, .ref 116), (1, .int x1), (2, .int 0), (3, .int x3)] [.int (x3 ^^^ x1)] ig2 ag2 qg2 rg2 (by rfl) ?_
  exact ft_ret mi_k212 (by rfl) (hP (x3 ^^^ x1) _ _ _ _ hGg2 (oz1355 z3))
def w212_116_l12_K3 : kW := ([7457], [135], [], [])
set_option maxRecDepth 100000 in
theorem kc212_116_l12_K3 {i : Nat → Int32} {a : Nat → List Int32} {q : Nat → List Int64} {r : Nat → Nat} (hI : kI i a q) (hr : kr r) (x1 : Int32) (x3 : Int32) (hp0 : ((0 : Int) ≤ x1.toInt) ∧ (x1.toInt ≤ 49)) (hp1 : ((a 134).getD x1.toNatClampNeg 0).toInt = 3) (hp2 : ((0 : Int) ≤ (i 7457).toInt) ∧ (((i 7457).toInt + 1) ≤ 900)) : km 5 212 [.ref 116, .int x1, .int 2, .int x3] (ks i a q r) (kVI w212_116_l12_K3 i a q r (fun v i1 a1 q1 r1 => (i1 7457).toInt = ((i 7457).toInt + 1))) := by
  have hG := kG_self w212_116_l12_K3 hI hr
  refine km_ofI (q := (mi_h212, mi_c212)) rfl (by decide) (Nat.le_of_ble_eq_true rfl) ?_
  intro P hP
  have r1 : ((0 : Int) ≤ ((a 134).getD x1.toNatClampNeg 0).toInt) ∧ (((a 134).getD x1.toNatClampNeg 0).toInt ≤ 7) := hG.I.2.2.1 134 (x1.toNatClampNeg)
  have fi_7457 : ((0 : Int) ≤ (i 7457).toInt) ∧ ((i 7457).toInt ≤ 1000) := hG.I.1 7457
  first | refine ft_goL mi_k212 5 96 [(0, .ref 116), (1, .int x1), (2, .int 2), (3, .int x3)] [.int 2, .int x1, .ref 116] (by rfl) ?_ | refine ft_go mi_k212 5 96 [(0, .ref 116), (1, .int x1), (2, .int 2), (3, .int x3)] [.int 2, .int x1, .ref 116] i a q r (by rfl) ?_
  refine ko_callPI mi_k212.1 (pc := 96) (ls := [(0, .ref 116), (1, .int x1), (2, .int 2), (3, .int x3)]) (st := [.int 2, .int x1, .ref 116]) (h := ks i a q r) (i := (.invokestatic 357, 3, 208, 0, 9, 0, 465)) (mi_k212.2 _ _ (by rfl)) (ft_invS mi_pq208 (by rfl)) (cy := mi_c208) mi_pq208 rfl (kc208_l02 hG.I hG.R ) (by decide) ?_
  intro vg2 hg2
  have z3 : vg2.toInt = 0 := hg2
  have evvg2 := kj_eq (oz236 z3) (by decide : (0 : Int32).toInt = 0)
  subst evvg2
  first | refine fo_goS mi_k212 fz212_99_1_100 [.int x3, .int 0, .int x1, .ref 116] (by rfl) ?_ | refine ft_go mi_k212 1 100 [(0, .ref 116), (1, .int x1), (2, .int 2), (3, .int x3)] [.int x3, .int 0, .int x1, .ref 116] i a q r (by rfl) ?_
  refine ko_callI mi_k212.1 (pc := 100) (ls := [(0, .ref 116), (1, .int x1), (2, .int 2), (3, .int x3)]) (st := [.int x3, .int 0, .int x1, .ref 116]) (h := ks i a q r) (i := (.invokevirtual 363, 3, 212, 0, 9, 0, 467)) (mi_k212.2 _ _ (by rfl)) (ft_invS mi_pq212 (by rfl)) (cy := mi_c212) mi_pq212 rfl (kc212_116_l10_K3 hG.I hG.R x1 x3 (oz1339 hp0.1 hp0.2) (oz1421 hp1) (oz1354 fi_7457.1 hp2.2)) (by decide) ?_
  intro vg4 ig4 ag4 qg4 rg4 kg4 hg4
  have hGg4 := kG_call hG kg4 (by decide +kernel)
  have z5 : (ig4 7457).toInt = ((i 7457).toInt + 1) := hg4
  exact ft_ret mi_k212 (by rfl) (hP vg4 _ _ _ _ hGg4 (oz1355 z5))
def w212_116_l13_K3 : kW := ([7457], [135], [], [])
set_option maxRecDepth 100000 in
theorem kc212_116_l13_K3 {i : Nat → Int32} {a : Nat → List Int32} {q : Nat → List Int64} {r : Nat → Nat} (hI : kI i a q) (hr : kr r) (x1 : Int32) (x3 : Int32) (hp0 : ((0 : Int) ≤ x1.toInt) ∧ (x1.toInt ≤ 49)) (hp1 : ((a 134).getD x1.toNatClampNeg 0).toInt = 3) (hp2 : ((0 : Int) ≤ (i 7457).toInt) ∧ (((i 7457).toInt + 2) ≤ 900)) : km 7 212 [.ref 116, .int x1, .int 3, .int x3] (ks i a q r) (kVI w212_116_l13_K3 i a q r (fun v i1 a1 q1 r1 => (i1 7457).toInt = ((i 7457).toInt + 2))) := by
  have hG := kG_self w212_116_l13_K3 hI hr
  refine km_ofI (q := (mi_h212, mi_c212)) rfl (by decide) (Nat.le_of_ble_eq_true rfl) ?_
  intro P hP
  have r1 : ((0 : Int) ≤ ((a 134).getD x1.toNatClampNeg 0).toInt) ∧ (((a 134).getD x1.toNatClampNeg 0).toInt ≤ 7) := hG.I.2.2.1 134 (x1.toNatClampNeg)
  have fi_7457 : ((0 : Int) ≤ (i 7457).toInt) ∧ ((i 7457).toInt ≤ 1000) := hG.I.1 7457
  first | refine ft_goL mi_k212 4 49 [(0, .ref 116), (1, .int x1), (2, .int 3), (3, .int x3)] [.int 40, .ref 116] (by rfl) ?_ | refine ft_go mi_k212 4 49 [(0, .ref 116), (1, .int x1), (2, .int 3), (3, .int x3)] [.int 40, .ref 116] i a q r (by rfl) ?_
  refine ko_callN mi_k212.1 (pc := 49) (ls := [(0, .ref 116), (1, .int x1), (2, .int 3), (3, .int x3)]) (st := [.int 40, .ref 116]) (h := ks i a q r) (i := (.invokevirtual 351, 3, 209, 0, 9, 0, 464)) (mi_k212.2 _ _ (by rfl)) (ft_invS mi_pq209 (by rfl)) (cy := mi_c209) mi_pq209 rfl (kc209_116 hG.I hG.R 40 (oz1528 fi_7457.1 hp2.2)) (by decide) ?_
  intro ig2 ag2 qg2 rg2 kg2 hg2
  have hGg2 := kG_call hG kg2 (by decide +kernel)
  have fig2_7457 : ((0 : Int) ≤ (ig2 7457).toInt) ∧ ((ig2 7457).toInt ≤ 1000) := hGg2.I.1 7457
  have z3 : (ig2 7457).toInt = ((i 7457).toInt + 1) := hg2
  first | refine fo_goS mi_k212 fz212_52_4_56 [.int x3, .int 2, .int x1, .ref 116] (by rfl) ?_ | refine ft_go mi_k212 4 56 [(0, .ref 116), (1, .int x1), (2, .int 3), (3, .int x3)] [.int x3, .int 2, .int x1, .ref 116] ig2 ag2 qg2 rg2 (by rfl) ?_
  have r4 : ((0 : Int) ≤ ((ag2 134).getD x1.toNatClampNeg 0).toInt) ∧ (((ag2 134).getD x1.toNatClampNeg 0).toInt ≤ 7) := hGg2.I.2.2.1 134 (x1.toNatClampNeg)
  have u5 : ((ag2 134).getD x1.toNatClampNeg 0).toInt = ((a 134).getD x1.toNatClampNeg 0).toInt := congrArg (fun z : List Int32 => (z.getD x1.toNatClampNeg 0).toInt) (kg2.fa 134 rfl)
  refine ko_callI mi_k212.1 (pc := 56) (ls := [(0, .ref 116), (1, .int x1), (2, .int 3), (3, .int x3)]) (st := [.int x3, .int 2, .int x1, .ref 116]) (h := ks ig2 ag2 qg2 rg2) (i := (.invokevirtual 363, 3, 212, 0, 9, 0, 467)) (mi_k212.2 _ _ (by rfl)) (ft_invS mi_pq212 (by rfl)) (cy := mi_c212) mi_pq212 rfl (kc212_116_l12_K3 hGg2.I hGg2.R x1 x3 (oz1339 hp0.1 hp0.2) (oz1422 hp1 u5) (oz1530 fig2_7457.1 hp2.2 z3)) (by decide) ?_
  intro vg6 ig6 ag6 qg6 rg6 kg6 hg6
  have hGg6 := kG_call hGg2 kg6 (by decide +kernel)
  have z7 : (ig6 7457).toInt = ((ig2 7457).toInt + 1) := hg6
  have b8 : ((-2147483648 : Int) ≤ vg6.toInt) ∧ (vg6.toInt ≤ 2147483647) := kd_bd vg6
  first | refine ft_goS mi_k212 2 61 [.int (vg6 * 3)] (by rfl) ?_ | refine ft_go mi_k212 2 61 [(0, .ref 116), (1, .int x1), (2, .int 3), (3, .int x3)] [.int (vg6 * 3)] ig6 ag6 qg6 rg6 (by rfl) ?_
  exact ft_ret mi_k212 (by rfl) (hP (vg6 * 3) _ _ _ _ hGg6 (oz1531 z3 z7))
def w213_116_l10_K3 : kW := ([7457], [135], [], [])
set_option maxRecDepth 100000 in
theorem kc213_116_l10_K3 {i : Nat → Int32} {a : Nat → List Int32} {q : Nat → List Int64} {r : Nat → Nat} (hI : kI i a q) (hr : kr r) (x1 : Int32) (x3 : Int32) (hp0 : ((0 : Int) ≤ x1.toInt) ∧ (x1.toInt ≤ 49)) (hp1 : ((a 134).getD x1.toNatClampNeg 0).toInt = 3) (hp2 : ((0 : Int) ≤ (i 7457).toInt) ∧ (((i 7457).toInt + 7) ≤ 900)) : km 15 213 [.ref 116, .int x1, .int 0, .int x3] (ks i a q r) (kVI w213_116_l10_K3 i a q r (fun v i1 a1 q1 r1 => (i1 7457).toInt = ((i 7457).toInt + 7))) := by
  have hG := kG_self w213_116_l10_K3 hI hr
  refine km_ofI (q := (mi_h213, mi_c213)) rfl (by decide) (Nat.le_of_ble_eq_true rfl) ?_
  intro P hP
  have r1 : ((0 : Int) ≤ ((a 134).getD x1.toNatClampNeg 0).toInt) ∧ (((a 134).getD x1.toNatClampNeg 0).toInt ≤ 7) := hG.I.2.2.1 134 (x1.toNatClampNeg)
  have fi_7457 : ((0 : Int) ≤ (i 7457).toInt) ∧ ((i 7457).toInt ≤ 1000) := hG.I.1 7457
  first | refine ft_goL mi_k213 4 38 [(0, .ref 116), (1, .int x1), (2, .int 0), (3, .int x3)] [.int 2, .ref 116] (by rfl) ?_ | refine ft_go mi_k213 4 38 [(0, .ref 116), (1, .int x1), (2, .int 0), (3, .int x3)] [.int 2, .ref 116] i a q r (by rfl) ?_
  refine ko_callN mi_k213.1 (pc := 38) (ls := [(0, .ref 116), (1, .int x1), (2, .int 0), (3, .int x3)]) (st := [.int 2, .ref 116]) (h := ks i a q r) (i := (.invokevirtual 351, 3, 209, 0, 9, 0, 464)) (mi_k213.2 _ _ (by rfl)) (ft_invS mi_pq209 (by rfl)) (cy := mi_c209) mi_pq209 rfl (kc209_116 hG.I hG.R 2 (oz1550 fi_7457.1 hp2.2)) (by decide) ?_
  intro ig2 ag2 qg2 rg2 kg2 hg2
  have hGg2 := kG_call hG kg2 (by decide +kernel)
  have fig2_7457 : ((0 : Int) ≤ (ig2 7457).toInt) ∧ ((ig2 7457).toInt ≤ 1000) := hGg2.I.1 7457
  have z3 : (ig2 7457).toInt = ((i 7457).toInt + 1) := hg2
  first | refine fo_goS mi_k213 fz213_41_5_48 [.int x1, .ref 134, .int x1, .ref 116] (by rfl) ?_ | refine ft_go mi_k213 5 48 [(0, .ref 116), (1, .int x1), (2, .int 0), (3, .int x3)] [.int x1, .ref 134, .int x1, .ref 116] ig2 ag2 qg2 rg2 (by rfl) ?_
  refine ko_iald3 mi_k213.1 (n := 50) (c := 50) (ax := (0, 0, 0, 0, 0)) (mi_k213.2 _ _ (by rfl)) (by rfl) (ksG134 _ _ _ _) (hGg2.I.2.1 134) rfl (oz3 hp0.1) (oz1336 hp0.2) ?_
  have r4 : ((0 : Int) ≤ ((ag2 134).getD x1.toNatClampNeg 0).toInt) ∧ (((ag2 134).getD x1.toNatClampNeg 0).toInt ≤ 7) := hGg2.I.2.2.1 134 (x1.toNatClampNeg)
  have u5 : ((ag2 134).getD x1.toNatClampNeg 0).toInt = ((a 134).getD x1.toNatClampNeg 0).toInt := congrArg (fun z : List Int32 => (z.getD x1.toNatClampNeg 0).toInt) (kg2.fa 134 rfl)
  refine ko_top (kj_eq (oz1422 hp1 u5) (by decide) : ((ag2 134).getD x1.toNatClampNeg 0) = 3) ?_
  first | refine fo_goS mi_k213 fz213_49_1_50 [.int x3, .int 3, .int x1, .ref 116] (by rfl) ?_ | refine ft_go mi_k213 1 50 [(0, .ref 116), (1, .int x1), (2, .int 0), (3, .int x3)] [.int x3, .int 3, .int x1, .ref 116] ig2 ag2 qg2 rg2 (by rfl) ?_
  refine ko_callI mi_k213.1 (pc := 50) (ls := [(0, .ref 116), (1, .int x1), (2, .int 0), (3, .int x3)]) (st := [.int x3, .int 3, .int x1, .ref 116]) (h := ks ig2 ag2 qg2 rg2) (i := (.invokevirtual 360, 3, 211, 0, 9, 0, 466)) (mi_k213.2 _ _ (by rfl)) (ft_invS mi_pq211 (by rfl)) (cy := mi_c211) mi_pq211 rfl (kc211_116_l13_K3 hGg2.I hGg2.R x1 x3 (oz1339 hp0.1 hp0.2) (oz1422 hp1 u5) (oz1553 fig2_7457.1 hp2.2 z3)) (by decide) ?_
  intro vg6 ig6 ag6 qg6 rg6 kg6 hg6
  have hGg6 := kG_call hGg2 kg6 (by decide +kernel)
  have fig6_7457 : ((0 : Int) ≤ (ig6 7457).toInt) ∧ ((ig6 7457).toInt ≤ 1000) := hGg6.I.1 7457
  have z7 : (ig6 7457).toInt = ((ig2 7457).toInt + 4) := hg6
  first | refine fo_goL mi_k213 fz213_53_7_64 [(4, .int vg6), (0, .ref 116), (1, .int x1), (2, .int 0), (3, .int x3)] [.int x1, .ref 134, .int x1, .ref 116, .int vg6] (by rfl) ?_ | refine ft_go mi_k213 7 64 [(4, .int vg6), (0, .ref 116), (1, .int x1), (2, .int 0), (3, .int x3)] [.int x1, .ref 134, .int x1, .ref 116, .int vg6] ig6 ag6 qg6 rg6 (by rfl) ?_
  refine ko_iald3 mi_k213.1 (n := 50) (c := 50) (ax := (0, 0, 0, 0, 0)) (mi_k213.2 _ _ (by rfl)) (by rfl) (ksG134 _ _ _ _) (hGg6.I.2.1 134) rfl (oz3 hp0.1) (oz1336 hp0.2) ?_
  have r8 : ((0 : Int) ≤ ((ag6 134).getD x1.toNatClampNeg 0).toInt) ∧ (((ag6 134).getD x1.toNatClampNeg 0).toInt ≤ 7) := hGg6.I.2.2.1 134 (x1.toNatClampNeg)
  have u9 : ((ag6 134).getD x1.toNatClampNeg 0).toInt = ((ag2 134).getD x1.toNatClampNeg 0).toInt := congrArg (fun z : List Int32 => (z.getD x1.toNatClampNeg 0).toInt) (kg6.fa 134 rfl)
  refine ko_top (kj_eq (oz1554 hp1 u5 u9) (by decide) : ((ag6 134).getD x1.toNatClampNeg 0) = 3) ?_
  first | refine fo_goS mi_k213 fz213_65_1_66 [.int 1, .int 3, .int x1, .ref 116, .int vg6] (by rfl) ?_ | refine ft_go mi_k213 1 66 [(4, .int vg6), (0, .ref 116), (1, .int x1), (2, .int 0), (3, .int x3)] [.int 1, .int 3, .int x1, .ref 116, .int vg6] ig6 ag6 qg6 rg6 (by rfl) ?_
  refine ko_callI mi_k213.1 (pc := 66) (ls := [(4, .int vg6), (0, .ref 116), (1, .int x1), (2, .int 0), (3, .int x3)]) (st := [.int 1, .int 3, .int x1, .ref 116, .int vg6]) (h := ks ig6 ag6 qg6 rg6) (i := (.invokevirtual 363, 3, 212, 0, 9, 0, 467)) (mi_k213.2 _ _ (by rfl)) (ft_invS mi_pq212 (by rfl)) (cy := mi_c212) mi_pq212 rfl (kc212_116_l13_K3 hGg6.I hGg6.R x1 1 (oz1339 hp0.1 hp0.2) (oz1554 hp1 u5 u9) (oz1555 fig6_7457.1 hp2.2 z3 z7)) (by decide) ?_
  intro vg10 ig10 ag10 qg10 rg10 kg10 hg10
  have hGg10 := kG_call hGg6 kg10 (by decide +kernel)
  have z11 : (ig10 7457).toInt = ((ig6 7457).toInt + 2) := hg10
  have b12 : ((-2147483648 : Int) ≤ vg6.toInt) ∧ (vg6.toInt ≤ 2147483647) := kd_bd vg6
  have b13 : ((-2147483648 : Int) ≤ vg10.toInt) ∧ (vg10.toInt ≤ 2147483647) := kd_bd vg10
  first | refine fo_goS mi_k213 fz213_69_1_70 [.int (vg6 - vg10)] (by rfl) ?_ | refine ft_go mi_k213 1 70 [(4, .int vg6), (0, .ref 116), (1, .int x1), (2, .int 0), (3, .int x3)] [.int (vg6 - vg10)] ig10 ag10 qg10 rg10 (by rfl) ?_
  exact ft_ret mi_k213 (by rfl) (hP (vg6 - vg10) _ _ _ _ hGg10 (oz1556 z11 z3 z7))
def w213_116_l12_K3 : kW := ([7457], [135], [], [])
set_option maxRecDepth 100000 in
theorem kc213_116_l12_K3 {i : Nat → Int32} {a : Nat → List Int32} {q : Nat → List Int64} {r : Nat → Nat} (hI : kI i a q) (hr : kr r) (x1 : Int32) (x3 : Int32) (hp0 : ((0 : Int) ≤ x1.toInt) ∧ (x1.toInt ≤ 49)) (hp1 : ((a 134).getD x1.toNatClampNeg 0).toInt = 3) (hp2 : ((0 : Int) ≤ (i 7457).toInt) ∧ (((i 7457).toInt + 7) ≤ 900)) : km 17 213 [.ref 116, .int x1, .int 2, .int x3] (ks i a q r) (kVI w213_116_l12_K3 i a q r (fun v i1 a1 q1 r1 => (i1 7457).toInt = ((i 7457).toInt + 7))) := by
  have hG := kG_self w213_116_l12_K3 hI hr
  refine km_ofI (q := (mi_h213, mi_c213)) rfl (by decide) (Nat.le_of_ble_eq_true rfl) ?_
  intro P hP
  have r1 : ((0 : Int) ≤ ((a 134).getD x1.toNatClampNeg 0).toInt) ∧ (((a 134).getD x1.toNatClampNeg 0).toInt ≤ 7) := hG.I.2.2.1 134 (x1.toNatClampNeg)
  have fi_7457 : ((0 : Int) ≤ (i 7457).toInt) ∧ ((i 7457).toInt ≤ 1000) := hG.I.1 7457
  first | refine ft_goL mi_k213 5 106 [(0, .ref 116), (1, .int x1), (2, .int 2), (3, .int x3)] [.int 2, .int x1, .ref 116] (by rfl) ?_ | refine ft_go mi_k213 5 106 [(0, .ref 116), (1, .int x1), (2, .int 2), (3, .int x3)] [.int 2, .int x1, .ref 116] i a q r (by rfl) ?_
  refine ko_callPI mi_k213.1 (pc := 106) (ls := [(0, .ref 116), (1, .int x1), (2, .int 2), (3, .int x3)]) (st := [.int 2, .int x1, .ref 116]) (h := ks i a q r) (i := (.invokestatic 357, 3, 208, 0, 9, 0, 465)) (mi_k213.2 _ _ (by rfl)) (ft_invS mi_pq208 (by rfl)) (cy := mi_c208) mi_pq208 rfl (kc208_l02 hG.I hG.R ) (by decide) ?_
  intro vg2 hg2
  have z3 : vg2.toInt = 0 := hg2
  have evvg2 := kj_eq (oz236 z3) (by decide : (0 : Int32).toInt = 0)
  subst evvg2
  first | refine fo_goS mi_k213 fz213_109_1_110 [.int x3, .int 0, .int x1, .ref 116] (by rfl) ?_ | refine ft_go mi_k213 1 110 [(0, .ref 116), (1, .int x1), (2, .int 2), (3, .int x3)] [.int x3, .int 0, .int x1, .ref 116] i a q r (by rfl) ?_
  refine ko_callI mi_k213.1 (pc := 110) (ls := [(0, .ref 116), (1, .int x1), (2, .int 2), (3, .int x3)]) (st := [.int x3, .int 0, .int x1, .ref 116]) (h := ks i a q r) (i := (.invokevirtual 366, 3, 213, 0, 9, 0, 468)) (mi_k213.2 _ _ (by rfl)) (ft_invS mi_pq213 (by rfl)) (cy := mi_c213) mi_pq213 rfl (kc213_116_l10_K3 hG.I hG.R x1 x3 (oz1339 hp0.1 hp0.2) (oz1421 hp1) (oz1557 fi_7457.1 hp2.2)) (by decide) ?_
  intro vg4 ig4 ag4 qg4 rg4 kg4 hg4
  have hGg4 := kG_call hG kg4 (by decide +kernel)
  have z5 : (ig4 7457).toInt = ((i 7457).toInt + 7) := hg4
  exact ft_ret mi_k213 (by rfl) (hP vg4 _ _ _ _ hGg4 (oz1558 z5))
def w213_116_l13_K3 : kW := ([7457], [135], [], [])
set_option maxRecDepth 100000 in
theorem kc213_116_l13_K3 {i : Nat → Int32} {a : Nat → List Int32} {q : Nat → List Int64} {r : Nat → Nat} (hI : kI i a q) (hr : kr r) (x1 : Int32) (x3 : Int32) (hp0 : ((0 : Int) ≤ x1.toInt) ∧ (x1.toInt ≤ 49)) (hp1 : ((a 134).getD x1.toNatClampNeg 0).toInt = 3) (hp2 : ((0 : Int) ≤ (i 7457).toInt) ∧ (((i 7457).toInt + 7) ≤ 900)) : km 19 213 [.ref 116, .int x1, .int 3, .int x3] (ks i a q r) (kVI w213_116_l13_K3 i a q r (fun v i1 a1 q1 r1 => (i1 7457).toInt = ((i 7457).toInt + 7))) := by
  have hG := kG_self w213_116_l13_K3 hI hr
  refine km_ofI (q := (mi_h213, mi_c213)) rfl (by decide) (Nat.le_of_ble_eq_true rfl) ?_
  intro P hP
  have r1 : ((0 : Int) ≤ ((a 134).getD x1.toNatClampNeg 0).toInt) ∧ (((a 134).getD x1.toNatClampNeg 0).toInt ≤ 7) := hG.I.2.2.1 134 (x1.toNatClampNeg)
  have fi_7457 : ((0 : Int) ≤ (i 7457).toInt) ∧ ((i 7457).toInt ≤ 1000) := hG.I.1 7457
  first | refine ft_goL mi_k213 5 106 [(0, .ref 116), (1, .int x1), (2, .int 3), (3, .int x3)] [.int 3, .int x1, .ref 116] (by rfl) ?_ | refine ft_go mi_k213 5 106 [(0, .ref 116), (1, .int x1), (2, .int 3), (3, .int x3)] [.int 3, .int x1, .ref 116] i a q r (by rfl) ?_
  refine ko_callPI mi_k213.1 (pc := 106) (ls := [(0, .ref 116), (1, .int x1), (2, .int 3), (3, .int x3)]) (st := [.int 3, .int x1, .ref 116]) (h := ks i a q r) (i := (.invokestatic 357, 3, 208, 0, 9, 0, 465)) (mi_k213.2 _ _ (by rfl)) (ft_invS mi_pq208 (by rfl)) (cy := mi_c208) mi_pq208 rfl (kc208_l03 hG.I hG.R ) (by decide) ?_
  intro vg2 hg2
  have z3 : vg2.toInt = 2 := hg2
  have evvg2 := kj_eq (oz1411 z3) (by decide : (2 : Int32).toInt = 2)
  subst evvg2
  first | refine fo_goS mi_k213 fz213_109_1_110 [.int x3, .int 2, .int x1, .ref 116] (by rfl) ?_ | refine ft_go mi_k213 1 110 [(0, .ref 116), (1, .int x1), (2, .int 3), (3, .int x3)] [.int x3, .int 2, .int x1, .ref 116] i a q r (by rfl) ?_
  refine ko_callI mi_k213.1 (pc := 110) (ls := [(0, .ref 116), (1, .int x1), (2, .int 3), (3, .int x3)]) (st := [.int x3, .int 2, .int x1, .ref 116]) (h := ks i a q r) (i := (.invokevirtual 366, 3, 213, 0, 9, 0, 468)) (mi_k213.2 _ _ (by rfl)) (ft_invS mi_pq213 (by rfl)) (cy := mi_c213) mi_pq213 rfl (kc213_116_l12_K3 hG.I hG.R x1 x3 (oz1339 hp0.1 hp0.2) (oz1421 hp1) (oz1557 fi_7457.1 hp2.2)) (by decide) ?_
  intro vg4 ig4 ag4 qg4 rg4 kg4 hg4
  have hGg4 := kG_call hG kg4 (by decide +kernel)
  have z5 : (ig4 7457).toInt = ((i 7457).toInt + 7) := hg4
  exact ft_ret mi_k213 (by rfl) (hP vg4 _ _ _ _ hGg4 (oz1558 z5))
set_option maxRecDepth 100000 in
theorem kc208_l04 {i : Nat → Int32} {a : Nat → List Int32} {q : Nat → List Int64} {r : Nat → Nat} (hI : kI i a q) (hr : kr r)  : km 1 208 [.int 4] (ks i a q r) (kPI (ks i a q r) (fun v => v.toInt = 1)) := by
  have hG := kG_self kW0 hI hr
  refine km_ofPI (q := (mi_h208, mi_c208)) rfl (by decide) (Nat.le_of_ble_eq_true rfl) ?_
  intro P hP
  first | refine ft_goL mi_k208 3 39 [(0, .int 4)] [.int 1] (by rfl) ?_ | refine ft_go mi_k208 3 39 [(0, .int 4)] [.int 1] i a q r (by rfl) ?_
  exact ft_ret mi_k208 (by rfl) (hP 1 (oz1381 kn1))
def w210_116_l10_K4 : kW := ([7457], [135], [], [])
set_option maxRecDepth 100000 in
theorem kc210_116_l10_K4 {i : Nat → Int32} {a : Nat → List Int32} {q : Nat → List Int64} {r : Nat → Nat} (hI : kI i a q) (hr : kr r) (x1 : Int32) (x3 : Int32) (hp0 : ((0 : Int) ≤ x1.toInt) ∧ (x1.toInt ≤ 49)) (hp1 : ((a 134).getD x1.toNatClampNeg 0).toInt = 4) (hp2 : ((0 : Int) ≤ (i 7457).toInt) ∧ (((i 7457).toInt + 1) ≤ 900)) : km 3 210 [.ref 116, .int x1, .int 0, .int x3] (ks i a q r) (kVI w210_116_l10_K4 i a q r (fun v i1 a1 q1 r1 => (i1 7457).toInt = ((i 7457).toInt + 1))) := by
  have hG := kG_self w210_116_l10_K4 hI hr
  refine km_ofI (q := (mi_h210, mi_c210)) rfl (by decide) (Nat.le_of_ble_eq_true rfl) ?_
  intro P hP
  have r1 : ((0 : Int) ≤ ((a 134).getD x1.toNatClampNeg 0).toInt) ∧ (((a 134).getD x1.toNatClampNeg 0).toInt ≤ 7) := hG.I.2.2.1 134 (x1.toNatClampNeg)
  have fi_7457 : ((0 : Int) ≤ (i 7457).toInt) ∧ ((i 7457).toInt ≤ 1000) := hG.I.1 7457
  first | refine ft_goL mi_k210 4 38 [(0, .ref 116), (1, .int x1), (2, .int 0), (3, .int x3)] [.int 1, .ref 116] (by rfl) ?_ | refine ft_go mi_k210 4 38 [(0, .ref 116), (1, .int x1), (2, .int 0), (3, .int x3)] [.int 1, .ref 116] i a q r (by rfl) ?_
  refine ko_callN mi_k210.1 (pc := 38) (ls := [(0, .ref 116), (1, .int x1), (2, .int 0), (3, .int x3)]) (st := [.int 1, .ref 116]) (h := ks i a q r) (i := (.invokevirtual 351, 3, 209, 0, 9, 0, 464)) (mi_k210.2 _ _ (by rfl)) (ft_invS mi_pq209 (by rfl)) (cy := mi_c209) mi_pq209 rfl (kc209_116 hG.I hG.R 1 (oz1529 fi_7457.1 hp2.2)) (by decide) ?_
  intro ig2 ag2 qg2 rg2 kg2 hg2
  have hGg2 := kG_call hG kg2 (by decide +kernel)
  have z3 : (ig2 7457).toInt = ((i 7457).toInt + 1) := hg2
  have b4 : ((-2147483648 : Int) ≤ x3.toInt) ∧ (x3.toInt ≤ 2147483647) := kd_bd x3
  have b5 : ((-2147483648 : Int) ≤ x1.toInt) ∧ (x1.toInt ≤ 2147483647) := kd_bd x1
  first | refine fo_goS mi_k210 fz210_41_3_44 [.int (x3 + x1)] (by rfl) ?_ | refine ft_go mi_k210 3 44 [(0, .ref 116), (1, .int x1), (2, .int 0), (3, .int x3)] [.int (x3 + x1)] ig2 ag2 qg2 rg2 (by rfl) ?_
  exact ft_ret mi_k210 (by rfl) (hP (x3 + x1) _ _ _ _ hGg2 (oz1355 z3))
def w210_116_l11_K4 : kW := ([7457], [135], [], [])
set_option maxRecDepth 100000 in
theorem kc210_116_l11_K4 {i : Nat → Int32} {a : Nat → List Int32} {q : Nat → List Int64} {r : Nat → Nat} (hI : kI i a q) (hr : kr r) (x1 : Int32) (x3 : Int32) (hp0 : ((0 : Int) ≤ x1.toInt) ∧ (x1.toInt ≤ 49)) (hp1 : ((a 134).getD x1.toNatClampNeg 0).toInt = 4) (hp2 : ((0 : Int) ≤ (i 7457).toInt) ∧ (((i 7457).toInt + 2) ≤ 900)) : km 5 210 [.ref 116, .int x1, .int 1, .int x3] (ks i a q r) (kVI w210_116_l11_K4 i a q r (fun v i1 a1 q1 r1 => (i1 7457).toInt = ((i 7457).toInt + 2))) := by
  have hG := kG_self w210_116_l11_K4 hI hr
  refine km_ofI (q := (mi_h210, mi_c210)) rfl (by decide) (Nat.le_of_ble_eq_true rfl) ?_
  intro P hP
  have r1 : ((0 : Int) ≤ ((a 134).getD x1.toNatClampNeg 0).toInt) ∧ (((a 134).getD x1.toNatClampNeg 0).toInt ≤ 7) := hG.I.2.2.1 134 (x1.toNatClampNeg)
  have fi_7457 : ((0 : Int) ≤ (i 7457).toInt) ∧ ((i 7457).toInt ≤ 1000) := hG.I.1 7457
  first | refine ft_goL mi_k210 4 48 [(0, .ref 116), (1, .int x1), (2, .int 1), (3, .int x3)] [.int 20, .ref 116] (by rfl) ?_ | refine ft_go mi_k210 4 48 [(0, .ref 116), (1, .int x1), (2, .int 1), (3, .int x3)] [.int 20, .ref 116] i a q r (by rfl) ?_
  refine ko_callN mi_k210.1 (pc := 48) (ls := [(0, .ref 116), (1, .int x1), (2, .int 1), (3, .int x3)]) (st := [.int 20, .ref 116]) (h := ks i a q r) (i := (.invokevirtual 351, 3, 209, 0, 9, 0, 464)) (mi_k210.2 _ _ (by rfl)) (ft_invS mi_pq209 (by rfl)) (cy := mi_c209) mi_pq209 rfl (kc209_116 hG.I hG.R 20 (oz1528 fi_7457.1 hp2.2)) (by decide) ?_
  intro ig2 ag2 qg2 rg2 kg2 hg2
  have hGg2 := kG_call hG kg2 (by decide +kernel)
  have fig2_7457 : ((0 : Int) ≤ (ig2 7457).toInt) ∧ ((ig2 7457).toInt ≤ 1000) := hGg2.I.1 7457
  have z3 : (ig2 7457).toInt = ((i 7457).toInt + 1) := hg2
  first | refine fo_goS mi_k210 fz210_51_4_55 [.int x3, .int 0, .int x1, .ref 116] (by rfl) ?_ | refine ft_go mi_k210 4 55 [(0, .ref 116), (1, .int x1), (2, .int 1), (3, .int x3)] [.int x3, .int 0, .int x1, .ref 116] ig2 ag2 qg2 rg2 (by rfl) ?_
  have r4 : ((0 : Int) ≤ ((ag2 134).getD x1.toNatClampNeg 0).toInt) ∧ (((ag2 134).getD x1.toNatClampNeg 0).toInt ≤ 7) := hGg2.I.2.2.1 134 (x1.toNatClampNeg)
  have u5 : ((ag2 134).getD x1.toNatClampNeg 0).toInt = ((a 134).getD x1.toNatClampNeg 0).toInt := congrArg (fun z : List Int32 => (z.getD x1.toNatClampNeg 0).toInt) (kg2.fa 134 rfl)
  refine ko_callI mi_k210.1 (pc := 55) (ls := [(0, .ref 116), (1, .int x1), (2, .int 1), (3, .int x3)]) (st := [.int x3, .int 0, .int x1, .ref 116]) (h := ks ig2 ag2 qg2 rg2) (i := (.invokevirtual 354, 3, 210, 0, 9, 0, 463)) (mi_k210.2 _ _ (by rfl)) (ft_invS mi_pq210 (by rfl)) (cy := mi_c210) mi_pq210 rfl (kc210_116_l10_K4 hGg2.I hGg2.R x1 x3 (oz1339 hp0.1 hp0.2) (oz1447 hp1 u5) (oz1530 fig2_7457.1 hp2.2 z3)) (by decide) ?_
  intro vg6 ig6 ag6 qg6 rg6 kg6 hg6
  have hGg6 := kG_call hGg2 kg6 (by decide +kernel)
  have z7 : (ig6 7457).toInt = ((ig2 7457).toInt + 1) := hg6
  have b8 : ((-2147483648 : Int) ≤ vg6.toInt) ∧ (vg6.toInt ≤ 2147483647) := kd_bd vg6
  first | refine fo_goS mi_k210 fz210_58_2_60 [.int (vg6 + 3)] (by rfl) ?_ | refine ft_go mi_k210 2 60 [(0, .ref 116), (1, .int x1), (2, .int 1), (3, .int x3)] [.int (vg6 + 3)] ig6 ag6 qg6 rg6 (by rfl) ?_
  exact ft_ret mi_k210 (by rfl) (hP (vg6 + 3) _ _ _ _ hGg6 (oz1531 z3 z7))
def w210_116_l14_K4 : kW := ([7457], [135], [], [])
set_option maxRecDepth 100000 in
theorem kc210_116_l14_K4 {i : Nat → Int32} {a : Nat → List Int32} {q : Nat → List Int64} {r : Nat → Nat} (hI : kI i a q) (hr : kr r) (x1 : Int32) (x3 : Int32) (hp0 : ((0 : Int) ≤ x1.toInt) ∧ (x1.toInt ≤ 49)) (hp1 : ((a 134).getD x1.toNatClampNeg 0).toInt = 4) (hp2 : ((0 : Int) ≤ (i 7457).toInt) ∧ (((i 7457).toInt + 2) ≤ 900)) : km 7 210 [.ref 116, .int x1, .int 4, .int x3] (ks i a q r) (kVI w210_116_l14_K4 i a q r (fun v i1 a1 q1 r1 => (i1 7457).toInt = ((i 7457).toInt + 2))) := by
  have hG := kG_self w210_116_l14_K4 hI hr
  refine km_ofI (q := (mi_h210, mi_c210)) rfl (by decide) (Nat.le_of_ble_eq_true rfl) ?_
  intro P hP
  have r1 : ((0 : Int) ≤ ((a 134).getD x1.toNatClampNeg 0).toInt) ∧ (((a 134).getD x1.toNatClampNeg 0).toInt ≤ 7) := hG.I.2.2.1 134 (x1.toNatClampNeg)
  have fi_7457 : ((0 : Int) ≤ (i 7457).toInt) ∧ ((i 7457).toInt ≤ 1000) := hG.I.1 7457
  first | refine ft_goL mi_k210 5 80 [(0, .ref 116), (1, .int x1), (2, .int 4), (3, .int x3)] [.int 4, .int x1, .ref 116] (by rfl) ?_ | refine ft_go mi_k210 5 80 [(0, .ref 116), (1, .int x1), (2, .int 4), (3, .int x3)] [.int 4, .int x1, .ref 116] i a q r (by rfl) ?_
  refine ko_callPI mi_k210.1 (pc := 80) (ls := [(0, .ref 116), (1, .int x1), (2, .int 4), (3, .int x3)]) (st := [.int 4, .int x1, .ref 116]) (h := ks i a q r) (i := (.invokestatic 357, 3, 208, 0, 9, 0, 465)) (mi_k210.2 _ _ (by rfl)) (ft_invS mi_pq208 (by rfl)) (cy := mi_c208) mi_pq208 rfl (kc208_l04 hG.I hG.R ) (by decide) ?_
  intro vg2 hg2
  have z3 : vg2.toInt = 1 := hg2
  have evvg2 := kj_eq (oz1381 z3) (by decide : (1 : Int32).toInt = 1)
  subst evvg2
  first | refine fo_goS mi_k210 fz210_83_1_84 [.int x3, .int 1, .int x1, .ref 116] (by rfl) ?_ | refine ft_go mi_k210 1 84 [(0, .ref 116), (1, .int x1), (2, .int 4), (3, .int x3)] [.int x3, .int 1, .int x1, .ref 116] i a q r (by rfl) ?_
  refine ko_callI mi_k210.1 (pc := 84) (ls := [(0, .ref 116), (1, .int x1), (2, .int 4), (3, .int x3)]) (st := [.int x3, .int 1, .int x1, .ref 116]) (h := ks i a q r) (i := (.invokevirtual 354, 3, 210, 0, 9, 0, 463)) (mi_k210.2 _ _ (by rfl)) (ft_invS mi_pq210 (by rfl)) (cy := mi_c210) mi_pq210 rfl (kc210_116_l11_K4 hG.I hG.R x1 x3 (oz1339 hp0.1 hp0.2) (oz1446 hp1) (oz1386 fi_7457.1 hp2.2)) (by decide) ?_
  intro vg4 ig4 ag4 qg4 rg4 kg4 hg4
  have hGg4 := kG_call hG kg4 (by decide +kernel)
  have z5 : (ig4 7457).toInt = ((i 7457).toInt + 2) := hg4
  exact ft_ret mi_k210 (by rfl) (hP vg4 _ _ _ _ hGg4 (oz1387 z5))
def w211_116_l10_K4 : kW := ([7457], [135], [], [])
set_option maxRecDepth 100000 in
theorem kc211_116_l10_K4 {i : Nat → Int32} {a : Nat → List Int32} {q : Nat → List Int64} {r : Nat → Nat} (hI : kI i a q) (hr : kr r) (x1 : Int32) (x3 : Int32) (hp0 : ((0 : Int) ≤ x1.toInt) ∧ (x1.toInt ≤ 49)) (hp1 : ((a 134).getD x1.toNatClampNeg 0).toInt = 4) (hp2 : ((0 : Int) ≤ (i 7457).toInt) ∧ (((i 7457).toInt + 3) ≤ 900)) : km 9 211 [.ref 116, .int x1, .int 0, .int x3] (ks i a q r) (kVI w211_116_l10_K4 i a q r (fun v i1 a1 q1 r1 => (i1 7457).toInt = ((i 7457).toInt + 3))) := by
  have hG := kG_self w211_116_l10_K4 hI hr
  refine km_ofI (q := (mi_h211, mi_c211)) rfl (by decide) (Nat.le_of_ble_eq_true rfl) ?_
  intro P hP
  have r1 : ((0 : Int) ≤ ((a 134).getD x1.toNatClampNeg 0).toInt) ∧ (((a 134).getD x1.toNatClampNeg 0).toInt ≤ 7) := hG.I.2.2.1 134 (x1.toNatClampNeg)
  have fi_7457 : ((0 : Int) ≤ (i 7457).toInt) ∧ ((i 7457).toInt ≤ 1000) := hG.I.1 7457
  first | refine ft_goL mi_k211 4 51 [(0, .ref 116), (1, .int x1), (2, .int 0), (3, .int x3)] [.int 10, .ref 116] (by rfl) ?_ | refine ft_go mi_k211 4 51 [(0, .ref 116), (1, .int x1), (2, .int 0), (3, .int x3)] [.int 10, .ref 116] i a q r (by rfl) ?_
  refine ko_callN mi_k211.1 (pc := 51) (ls := [(0, .ref 116), (1, .int x1), (2, .int 0), (3, .int x3)]) (st := [.int 10, .ref 116]) (h := ks i a q r) (i := (.invokevirtual 351, 3, 209, 0, 9, 0, 464)) (mi_k211.2 _ _ (by rfl)) (ft_invS mi_pq209 (by rfl)) (cy := mi_c209) mi_pq209 rfl (kc209_116 hG.I hG.R 10 (oz1538 fi_7457.1 hp2.2)) (by decide) ?_
  intro ig2 ag2 qg2 rg2 kg2 hg2
  have hGg2 := kG_call hG kg2 (by decide +kernel)
  have fig2_7457 : ((0 : Int) ≤ (ig2 7457).toInt) ∧ ((ig2 7457).toInt ≤ 1000) := hGg2.I.1 7457
  have z3 : (ig2 7457).toInt = ((i 7457).toInt + 1) := hg2
  first | refine fo_goS mi_k211 fz211_54_5_61 [.int x1, .ref 134, .int x1, .ref 116] (by rfl) ?_ | refine ft_go mi_k211 5 61 [(0, .ref 116), (1, .int x1), (2, .int 0), (3, .int x3)] [.int x1, .ref 134, .int x1, .ref 116] ig2 ag2 qg2 rg2 (by rfl) ?_
  refine ko_iald3 mi_k211.1 (n := 50) (c := 50) (ax := (0, 0, 0, 0, 0)) (mi_k211.2 _ _ (by rfl)) (by rfl) (ksG134 _ _ _ _) (hGg2.I.2.1 134) rfl (oz3 hp0.1) (oz1336 hp0.2) ?_
  have r4 : ((0 : Int) ≤ ((ag2 134).getD x1.toNatClampNeg 0).toInt) ∧ (((ag2 134).getD x1.toNatClampNeg 0).toInt ≤ 7) := hGg2.I.2.2.1 134 (x1.toNatClampNeg)
  have u5 : ((ag2 134).getD x1.toNatClampNeg 0).toInt = ((a 134).getD x1.toNatClampNeg 0).toInt := congrArg (fun z : List Int32 => (z.getD x1.toNatClampNeg 0).toInt) (kg2.fa 134 rfl)
  refine ko_top (kj_eq (oz1447 hp1 u5) (by decide) : ((ag2 134).getD x1.toNatClampNeg 0) = 4) ?_
  first | refine fo_goS mi_k211 fz211_62_1_63 [.int x3, .int 4, .int x1, .ref 116] (by rfl) ?_ | refine ft_go mi_k211 1 63 [(0, .ref 116), (1, .int x1), (2, .int 0), (3, .int x3)] [.int x3, .int 4, .int x1, .ref 116] ig2 ag2 qg2 rg2 (by rfl) ?_
  refine ko_callI mi_k211.1 (pc := 63) (ls := [(0, .ref 116), (1, .int x1), (2, .int 0), (3, .int x3)]) (st := [.int x3, .int 4, .int x1, .ref 116]) (h := ks ig2 ag2 qg2 rg2) (i := (.invokevirtual 354, 3, 210, 0, 9, 0, 463)) (mi_k211.2 _ _ (by rfl)) (ft_invS mi_pq210 (by rfl)) (cy := mi_c210) mi_pq210 rfl (kc210_116_l14_K4 hGg2.I hGg2.R x1 x3 (oz1339 hp0.1 hp0.2) (oz1447 hp1 u5) (oz1539 fig2_7457.1 hp2.2 z3)) (by decide) ?_
  intro vg6 ig6 ag6 qg6 rg6 kg6 hg6
  have hGg6 := kG_call hGg2 kg6 (by decide +kernel)
  have z7 : (ig6 7457).toInt = ((ig2 7457).toInt + 2) := hg6
  have b8 : ((-2147483648 : Int) ≤ vg6.toInt) ∧ (vg6.toInt ≤ 2147483647) := kd_bd vg6
  first | refine fo_goS mi_k211 fz211_66_2_68 [.int (vg6 * 2)] (by rfl) ?_ | refine ft_go mi_k211 2 68 [(0, .ref 116), (1, .int x1), (2, .int 0), (3, .int x3)] [.int (vg6 * 2)] ig6 ag6 qg6 rg6 (by rfl) ?_
  exact ft_ret mi_k211 (by rfl) (hP (vg6 * 2) _ _ _ _ hGg6 (oz1540 z3 z7))
def w211_116_l11_K4 : kW := ([7457], [135], [], [])
set_option maxRecDepth 100000 in
theorem kc211_116_l11_K4 {i : Nat → Int32} {a : Nat → List Int32} {q : Nat → List Int64} {r : Nat → Nat} (hI : kI i a q) (hr : kr r) (x1 : Int32) (x3 : Int32) (hp0 : ((0 : Int) ≤ x1.toInt) ∧ (x1.toInt ≤ 49)) (hp1 : ((a 134).getD x1.toNatClampNeg 0).toInt = 4) (hp2 : ((0 : Int) ≤ (i 7457).toInt) ∧ (((i 7457).toInt + 3) ≤ 900)) : km 11 211 [.ref 116, .int x1, .int 1, .int x3] (ks i a q r) (kVI w211_116_l11_K4 i a q r (fun v i1 a1 q1 r1 => (i1 7457).toInt = ((i 7457).toInt + 3))) := by
  have hG := kG_self w211_116_l11_K4 hI hr
  refine km_ofI (q := (mi_h211, mi_c211)) rfl (by decide) (Nat.le_of_ble_eq_true rfl) ?_
  intro P hP
  have r1 : ((0 : Int) ≤ ((a 134).getD x1.toNatClampNeg 0).toInt) ∧ (((a 134).getD x1.toNatClampNeg 0).toInt ≤ 7) := hG.I.2.2.1 134 (x1.toNatClampNeg)
  have fi_7457 : ((0 : Int) ≤ (i 7457).toInt) ∧ ((i 7457).toInt ≤ 1000) := hG.I.1 7457
  first | refine ft_goL mi_k211 5 134 [(0, .ref 116), (1, .int x1), (2, .int 1), (3, .int x3)] [.int 1, .int x1, .ref 116] (by rfl) ?_ | refine ft_go mi_k211 5 134 [(0, .ref 116), (1, .int x1), (2, .int 1), (3, .int x3)] [.int 1, .int x1, .ref 116] i a q r (by rfl) ?_
  refine ko_callPI mi_k211.1 (pc := 134) (ls := [(0, .ref 116), (1, .int x1), (2, .int 1), (3, .int x3)]) (st := [.int 1, .int x1, .ref 116]) (h := ks i a q r) (i := (.invokestatic 357, 3, 208, 0, 9, 0, 465)) (mi_k211.2 _ _ (by rfl)) (ft_invS mi_pq208 (by rfl)) (cy := mi_c208) mi_pq208 rfl (kc208_l01 hG.I hG.R ) (by decide) ?_
  intro vg2 hg2
  have z3 : vg2.toInt = 0 := hg2
  have evvg2 := kj_eq (oz236 z3) (by decide : (0 : Int32).toInt = 0)
  subst evvg2
  first | refine fo_goS mi_k211 fz211_137_1_138 [.int x3, .int 0, .int x1, .ref 116] (by rfl) ?_ | refine ft_go mi_k211 1 138 [(0, .ref 116), (1, .int x1), (2, .int 1), (3, .int x3)] [.int x3, .int 0, .int x1, .ref 116] i a q r (by rfl) ?_
  refine ko_callI mi_k211.1 (pc := 138) (ls := [(0, .ref 116), (1, .int x1), (2, .int 1), (3, .int x3)]) (st := [.int x3, .int 0, .int x1, .ref 116]) (h := ks i a q r) (i := (.invokevirtual 360, 3, 211, 0, 9, 0, 466)) (mi_k211.2 _ _ (by rfl)) (ft_invS mi_pq211 (by rfl)) (cy := mi_c211) mi_pq211 rfl (kc211_116_l10_K4 hG.I hG.R x1 x3 (oz1339 hp0.1 hp0.2) (oz1446 hp1) (oz1541 fi_7457.1 hp2.2)) (by decide) ?_
  intro vg4 ig4 ag4 qg4 rg4 kg4 hg4
  have hGg4 := kG_call hG kg4 (by decide +kernel)
  have z5 : (ig4 7457).toInt = ((i 7457).toInt + 3) := hg4
  exact ft_ret mi_k211 (by rfl) (hP vg4 _ _ _ _ hGg4 (oz1542 z5))
def w211_116_l14_K4 : kW := ([7457], [135], [], [])
set_option maxRecDepth 100000 in
theorem kc211_116_l14_K4 {i : Nat → Int32} {a : Nat → List Int32} {q : Nat → List Int64} {r : Nat → Nat} (hI : kI i a q) (hr : kr r) (x1 : Int32) (x3 : Int32) (hp0 : ((0 : Int) ≤ x1.toInt) ∧ (x1.toInt ≤ 49)) (hp1 : ((a 134).getD x1.toNatClampNeg 0).toInt = 4) (hp2 : ((0 : Int) ≤ (i 7457).toInt) ∧ (((i 7457).toInt + 3) ≤ 900)) : km 13 211 [.ref 116, .int x1, .int 4, .int x3] (ks i a q r) (kVI w211_116_l14_K4 i a q r (fun v i1 a1 q1 r1 => (i1 7457).toInt = ((i 7457).toInt + 3))) := by
  have hG := kG_self w211_116_l14_K4 hI hr
  refine km_ofI (q := (mi_h211, mi_c211)) rfl (by decide) (Nat.le_of_ble_eq_true rfl) ?_
  intro P hP
  have r1 : ((0 : Int) ≤ ((a 134).getD x1.toNatClampNeg 0).toInt) ∧ (((a 134).getD x1.toNatClampNeg 0).toInt ≤ 7) := hG.I.2.2.1 134 (x1.toNatClampNeg)
  have fi_7457 : ((0 : Int) ≤ (i 7457).toInt) ∧ ((i 7457).toInt ≤ 1000) := hG.I.1 7457
  first | refine ft_goL mi_k211 5 134 [(0, .ref 116), (1, .int x1), (2, .int 4), (3, .int x3)] [.int 4, .int x1, .ref 116] (by rfl) ?_ | refine ft_go mi_k211 5 134 [(0, .ref 116), (1, .int x1), (2, .int 4), (3, .int x3)] [.int 4, .int x1, .ref 116] i a q r (by rfl) ?_
  refine ko_callPI mi_k211.1 (pc := 134) (ls := [(0, .ref 116), (1, .int x1), (2, .int 4), (3, .int x3)]) (st := [.int 4, .int x1, .ref 116]) (h := ks i a q r) (i := (.invokestatic 357, 3, 208, 0, 9, 0, 465)) (mi_k211.2 _ _ (by rfl)) (ft_invS mi_pq208 (by rfl)) (cy := mi_c208) mi_pq208 rfl (kc208_l04 hG.I hG.R ) (by decide) ?_
  intro vg2 hg2
  have z3 : vg2.toInt = 1 := hg2
  have evvg2 := kj_eq (oz1381 z3) (by decide : (1 : Int32).toInt = 1)
  subst evvg2
  first | refine fo_goS mi_k211 fz211_137_1_138 [.int x3, .int 1, .int x1, .ref 116] (by rfl) ?_ | refine ft_go mi_k211 1 138 [(0, .ref 116), (1, .int x1), (2, .int 4), (3, .int x3)] [.int x3, .int 1, .int x1, .ref 116] i a q r (by rfl) ?_
  refine ko_callI mi_k211.1 (pc := 138) (ls := [(0, .ref 116), (1, .int x1), (2, .int 4), (3, .int x3)]) (st := [.int x3, .int 1, .int x1, .ref 116]) (h := ks i a q r) (i := (.invokevirtual 360, 3, 211, 0, 9, 0, 466)) (mi_k211.2 _ _ (by rfl)) (ft_invS mi_pq211 (by rfl)) (cy := mi_c211) mi_pq211 rfl (kc211_116_l11_K4 hG.I hG.R x1 x3 (oz1339 hp0.1 hp0.2) (oz1446 hp1) (oz1541 fi_7457.1 hp2.2)) (by decide) ?_
  intro vg4 ig4 ag4 qg4 rg4 kg4 hg4
  have hGg4 := kG_call hG kg4 (by decide +kernel)
  have z5 : (ig4 7457).toInt = ((i 7457).toInt + 3) := hg4
  exact ft_ret mi_k211 (by rfl) (hP vg4 _ _ _ _ hGg4 (oz1542 z5))
def w212_116_l10_K4 : kW := ([7457], [135], [], [])
set_option maxRecDepth 100000 in
theorem kc212_116_l10_K4 {i : Nat → Int32} {a : Nat → List Int32} {q : Nat → List Int64} {r : Nat → Nat} (hI : kI i a q) (hr : kr r) (x1 : Int32) (x3 : Int32) (hp0 : ((0 : Int) ≤ x1.toInt) ∧ (x1.toInt ≤ 49)) (hp1 : ((a 134).getD x1.toNatClampNeg 0).toInt = 4) (hp2 : ((0 : Int) ≤ (i 7457).toInt) ∧ (((i 7457).toInt + 1) ≤ 900)) : km 3 212 [.ref 116, .int x1, .int 0, .int x3] (ks i a q r) (kVI w212_116_l10_K4 i a q r (fun v i1 a1 q1 r1 => (i1 7457).toInt = ((i 7457).toInt + 1))) := by
  have hG := kG_self w212_116_l10_K4 hI hr
  refine km_ofI (q := (mi_h212, mi_c212)) rfl (by decide) (Nat.le_of_ble_eq_true rfl) ?_
  intro P hP
  have r1 : ((0 : Int) ≤ ((a 134).getD x1.toNatClampNeg 0).toInt) ∧ (((a 134).getD x1.toNatClampNeg 0).toInt ≤ 7) := hG.I.2.2.1 134 (x1.toNatClampNeg)
  have fi_7457 : ((0 : Int) ≤ (i 7457).toInt) ∧ ((i 7457).toInt ≤ 1000) := hG.I.1 7457
  first | refine ft_goL mi_k212 4 39 [(0, .ref 116), (1, .int x1), (2, .int 0), (3, .int x3)] [.int 11, .ref 116] (by rfl) ?_ | refine ft_go mi_k212 4 39 [(0, .ref 116), (1, .int x1), (2, .int 0), (3, .int x3)] [.int 11, .ref 116] i a q r (by rfl) ?_
  refine ko_callN mi_k212.1 (pc := 39) (ls := [(0, .ref 116), (1, .int x1), (2, .int 0), (3, .int x3)]) (st := [.int 11, .ref 116]) (h := ks i a q r) (i := (.invokevirtual 351, 3, 209, 0, 9, 0, 464)) (mi_k212.2 _ _ (by rfl)) (ft_invS mi_pq209 (by rfl)) (cy := mi_c209) mi_pq209 rfl (kc209_116 hG.I hG.R 11 (oz1529 fi_7457.1 hp2.2)) (by decide) ?_
  intro ig2 ag2 qg2 rg2 kg2 hg2
  have hGg2 := kG_call hG kg2 (by decide +kernel)
  have z3 : (ig2 7457).toInt = ((i 7457).toInt + 1) := hg2
  first | refine fo_goS mi_k212 fz212_42_3_45 [.int (x3 ^^^ x1)] (by rfl) ?_ | refine ft_go mi_k212 3 45 [(0, .ref 116), (1, .int x1), (2, .int 0), (3, .int x3)] [.int (x3 ^^^ x1)] ig2 ag2 qg2 rg2 (by rfl) ?_
  exact ft_ret mi_k212 (by rfl) (hP (x3 ^^^ x1) _ _ _ _ hGg2 (oz1355 z3))
def w212_116_l11_K4 : kW := ([7457], [135], [], [])
set_option maxRecDepth 100000 in
theorem kc212_116_l11_K4 {i : Nat → Int32} {a : Nat → List Int32} {q : Nat → List Int64} {r : Nat → Nat} (hI : kI i a q) (hr : kr r) (x1 : Int32) (x3 : Int32) (hp0 : ((0 : Int) ≤ x1.toInt) ∧ (x1.toInt ≤ 49)) (hp1 : ((a 134).getD x1.toNatClampNeg 0).toInt = 4) (hp2 : ((0 : Int) ≤ (i 7457).toInt) ∧ (((i 7457).toInt + 1) ≤ 900)) : km 5 212 [.ref 116, .int x1, .int 1, .int x3] (ks i a q r) (kVI w212_116_l11_K4 i a q r (fun v i1 a1 q1 r1 => (i1 7457).toInt = ((i 7457).toInt + 1))) := by
  have hG := kG_self w212_116_l11_K4 hI hr
  refine km_ofI (q := (mi_h212, mi_c212)) rfl (by decide) (Nat.le_of_ble_eq_true rfl) ?_
  intro P hP
  have r1 : ((0 : Int) ≤ ((a 134).getD x1.toNatClampNeg 0).toInt) ∧ (((a 134).getD x1.toNatClampNeg 0).toInt ≤ 7) := hG.I.2.2.1 134 (x1.toNatClampNeg)
  have fi_7457 : ((0 : Int) ≤ (i 7457).toInt) ∧ ((i 7457).toInt ≤ 1000) := hG.I.1 7457
  first | refine ft_goL mi_k212 5 96 [(0, .ref 116), (1, .int x1), (2, .int 1), (3, .int x3)] [.int 1, .int x1, .ref 116] (by rfl) ?_ | refine ft_go mi_k212 5 96 [(0, .ref 116), (1, .int x1), (2, .int 1), (3, .int x3)] [.int 1, .int x1, .ref 116] i a q r (by rfl) ?_
  refine ko_callPI mi_k212.1 (pc := 96) (ls := [(0, .ref 116), (1, .int x1), (2, .int 1), (3, .int x3)]) (st := [.int 1, .int x1, .ref 116]) (h := ks i a q r) (i := (.invokestatic 357, 3, 208, 0, 9, 0, 465)) (mi_k212.2 _ _ (by rfl)) (ft_invS mi_pq208 (by rfl)) (cy := mi_c208) mi_pq208 rfl (kc208_l01 hG.I hG.R ) (by decide) ?_
  intro vg2 hg2
  have z3 : vg2.toInt = 0 := hg2
  have evvg2 := kj_eq (oz236 z3) (by decide : (0 : Int32).toInt = 0)
  subst evvg2
  first | refine fo_goS mi_k212 fz212_99_1_100 [.int x3, .int 0, .int x1, .ref 116] (by rfl) ?_ | refine ft_go mi_k212 1 100 [(0, .ref 116), (1, .int x1), (2, .int 1), (3, .int x3)] [.int x3, .int 0, .int x1, .ref 116] i a q r (by rfl) ?_
  refine ko_callI mi_k212.1 (pc := 100) (ls := [(0, .ref 116), (1, .int x1), (2, .int 1), (3, .int x3)]) (st := [.int x3, .int 0, .int x1, .ref 116]) (h := ks i a q r) (i := (.invokevirtual 363, 3, 212, 0, 9, 0, 467)) (mi_k212.2 _ _ (by rfl)) (ft_invS mi_pq212 (by rfl)) (cy := mi_c212) mi_pq212 rfl (kc212_116_l10_K4 hG.I hG.R x1 x3 (oz1339 hp0.1 hp0.2) (oz1446 hp1) (oz1354 fi_7457.1 hp2.2)) (by decide) ?_
  intro vg4 ig4 ag4 qg4 rg4 kg4 hg4
  have hGg4 := kG_call hG kg4 (by decide +kernel)
  have z5 : (ig4 7457).toInt = ((i 7457).toInt + 1) := hg4
  exact ft_ret mi_k212 (by rfl) (hP vg4 _ _ _ _ hGg4 (oz1355 z5))
def w212_116_l14_K4 : kW := ([7457], [135], [], [])
set_option maxRecDepth 100000 in
theorem kc212_116_l14_K4 {i : Nat → Int32} {a : Nat → List Int32} {q : Nat → List Int64} {r : Nat → Nat} (hI : kI i a q) (hr : kr r) (x1 : Int32) (x3 : Int32) (hp0 : ((0 : Int) ≤ x1.toInt) ∧ (x1.toInt ≤ 49)) (hp1 : ((a 134).getD x1.toNatClampNeg 0).toInt = 4) (hp2 : ((0 : Int) ≤ (i 7457).toInt) ∧ (((i 7457).toInt + 4) ≤ 900)) : km 9 212 [.ref 116, .int x1, .int 4, .int x3] (ks i a q r) (kVI w212_116_l14_K4 i a q r (fun v i1 a1 q1 r1 => (i1 7457).toInt = ((i 7457).toInt + 4))) := by
  have hG := kG_self w212_116_l14_K4 hI hr
  refine km_ofI (q := (mi_h212, mi_c212)) rfl (by decide) (Nat.le_of_ble_eq_true rfl) ?_
  intro P hP
  have r1 : ((0 : Int) ≤ ((a 134).getD x1.toNatClampNeg 0).toInt) ∧ (((a 134).getD x1.toNatClampNeg 0).toInt ≤ 7) := hG.I.2.2.1 134 (x1.toNatClampNeg)
  have fi_7457 : ((0 : Int) ≤ (i 7457).toInt) ∧ ((i 7457).toInt ≤ 1000) := hG.I.1 7457
  first | refine ft_goL mi_k212 4 65 [(0, .ref 116), (1, .int x1), (2, .int 4), (3, .int x3)] [.int 50, .ref 116] (by rfl) ?_ | refine ft_go mi_k212 4 65 [(0, .ref 116), (1, .int x1), (2, .int 4), (3, .int x3)] [.int 50, .ref 116] i a q r (by rfl) ?_
  refine ko_callN mi_k212.1 (pc := 65) (ls := [(0, .ref 116), (1, .int x1), (2, .int 4), (3, .int x3)]) (st := [.int 50, .ref 116]) (h := ks i a q r) (i := (.invokevirtual 351, 3, 209, 0, 9, 0, 464)) (mi_k212.2 _ _ (by rfl)) (ft_invS mi_pq209 (by rfl)) (cy := mi_c209) mi_pq209 rfl (kc209_116 hG.I hG.R 50 (oz1527 fi_7457.1 hp2.2)) (by decide) ?_
  intro ig2 ag2 qg2 rg2 kg2 hg2
  have hGg2 := kG_call hG kg2 (by decide +kernel)
  have fig2_7457 : ((0 : Int) ≤ (ig2 7457).toInt) ∧ ((ig2 7457).toInt ≤ 1000) := hGg2.I.1 7457
  have z3 : (ig2 7457).toInt = ((i 7457).toInt + 1) := hg2
  first | refine fo_goS mi_k212 fz212_68_4_72 [.int x3, .int 1, .int x1, .ref 116] (by rfl) ?_ | refine ft_go mi_k212 4 72 [(0, .ref 116), (1, .int x1), (2, .int 4), (3, .int x3)] [.int x3, .int 1, .int x1, .ref 116] ig2 ag2 qg2 rg2 (by rfl) ?_
  have r4 : ((0 : Int) ≤ ((ag2 134).getD x1.toNatClampNeg 0).toInt) ∧ (((ag2 134).getD x1.toNatClampNeg 0).toInt ≤ 7) := hGg2.I.2.2.1 134 (x1.toNatClampNeg)
  have u5 : ((ag2 134).getD x1.toNatClampNeg 0).toInt = ((a 134).getD x1.toNatClampNeg 0).toInt := congrArg (fun z : List Int32 => (z.getD x1.toNatClampNeg 0).toInt) (kg2.fa 134 rfl)
  refine ko_callI mi_k212.1 (pc := 72) (ls := [(0, .ref 116), (1, .int x1), (2, .int 4), (3, .int x3)]) (st := [.int x3, .int 1, .int x1, .ref 116]) (h := ks ig2 ag2 qg2 rg2) (i := (.invokevirtual 363, 3, 212, 0, 9, 0, 467)) (mi_k212.2 _ _ (by rfl)) (ft_invS mi_pq212 (by rfl)) (cy := mi_c212) mi_pq212 rfl (kc212_116_l11_K4 hGg2.I hGg2.R x1 x3 (oz1339 hp0.1 hp0.2) (oz1447 hp1 u5) (oz1561 fig2_7457.1 hp2.2 z3)) (by decide) ?_
  intro vg6 ig6 ag6 qg6 rg6 kg6 hg6
  have hGg6 := kG_call hGg2 kg6 (by decide +kernel)
  have fig6_7457 : ((0 : Int) ≤ (ig6 7457).toInt) ∧ ((ig6 7457).toInt ≤ 1000) := hGg6.I.1 7457
  have z7 : (ig6 7457).toInt = ((ig2 7457).toInt + 1) := hg6
  first | refine fo_goL mi_k212 fz212_75_7_86 [(4, .int vg6), (0, .ref 116), (1, .int x1), (2, .int 4), (3, .int x3)] [.int x1, .ref 134, .int x1, .ref 116, .int vg6] (by rfl) ?_ | refine ft_go mi_k212 7 86 [(4, .int vg6), (0, .ref 116), (1, .int x1), (2, .int 4), (3, .int x3)] [.int x1, .ref 134, .int x1, .ref 116, .int vg6] ig6 ag6 qg6 rg6 (by rfl) ?_
  refine ko_iald3 mi_k212.1 (n := 50) (c := 50) (ax := (0, 0, 0, 0, 0)) (mi_k212.2 _ _ (by rfl)) (by rfl) (ksG134 _ _ _ _) (hGg6.I.2.1 134) rfl (oz3 hp0.1) (oz1336 hp0.2) ?_
  have r8 : ((0 : Int) ≤ ((ag6 134).getD x1.toNatClampNeg 0).toInt) ∧ (((ag6 134).getD x1.toNatClampNeg 0).toInt ≤ 7) := hGg6.I.2.2.1 134 (x1.toNatClampNeg)
  have u9 : ((ag6 134).getD x1.toNatClampNeg 0).toInt = ((ag2 134).getD x1.toNatClampNeg 0).toInt := congrArg (fun z : List Int32 => (z.getD x1.toNatClampNeg 0).toInt) (kg6.fa 134 rfl)
  refine ko_top (kj_eq (oz1456 hp1 u5 u9) (by decide) : ((ag6 134).getD x1.toNatClampNeg 0) = 4) ?_
  first | refine ft_goS mi_k212 1 88 [.int 2, .int 4, .int x1, .ref 116, .int vg6] (by rfl) ?_ | refine ft_go mi_k212 1 88 [(4, .int vg6), (0, .ref 116), (1, .int x1), (2, .int 4), (3, .int x3)] [.int 2, .int 4, .int x1, .ref 116, .int vg6] ig6 ag6 qg6 rg6 (by rfl) ?_
  refine ko_callI mi_k212.1 (pc := 88) (ls := [(4, .int vg6), (0, .ref 116), (1, .int x1), (2, .int 4), (3, .int x3)]) (st := [.int 2, .int 4, .int x1, .ref 116, .int vg6]) (h := ks ig6 ag6 qg6 rg6) (i := (.invokevirtual 354, 3, 210, 0, 9, 0, 463)) (mi_k212.2 _ _ (by rfl)) (ft_invS mi_pq210 (by rfl)) (cy := mi_c210) mi_pq210 rfl (kc210_116_l14_K4 hGg6.I hGg6.R x1 2 (oz1339 hp0.1 hp0.2) (oz1456 hp1 u5 u9) (oz1562 fig6_7457.1 hp2.2 z3 z7)) (by decide) ?_
  intro vg10 ig10 ag10 qg10 rg10 kg10 hg10
  have hGg10 := kG_call hGg6 kg10 (by decide +kernel)
  have z11 : (ig10 7457).toInt = ((ig6 7457).toInt + 2) := hg10
  have b12 : ((-2147483648 : Int) ≤ vg6.toInt) ∧ (vg6.toInt ≤ 2147483647) := kd_bd vg6
  have b13 : ((-2147483648 : Int) ≤ vg10.toInt) ∧ (vg10.toInt ≤ 2147483647) := kd_bd vg10
  first | refine ft_goS mi_k212 1 92 [.int (vg6 - vg10)] (by rfl) ?_ | refine ft_go mi_k212 1 92 [(4, .int vg6), (0, .ref 116), (1, .int x1), (2, .int 4), (3, .int x3)] [.int (vg6 - vg10)] ig10 ag10 qg10 rg10 (by rfl) ?_
  exact ft_ret mi_k212 (by rfl) (hP (vg6 - vg10) _ _ _ _ hGg10 (oz1563 z11 z3 z7))
def w213_116_l10_K4 : kW := ([7457], [135], [], [])
set_option maxRecDepth 100000 in
theorem kc213_116_l10_K4 {i : Nat → Int32} {a : Nat → List Int32} {q : Nat → List Int64} {r : Nat → Nat} (hI : kI i a q) (hr : kr r) (x1 : Int32) (x3 : Int32) (hp0 : ((0 : Int) ≤ x1.toInt) ∧ (x1.toInt ≤ 49)) (hp1 : ((a 134).getD x1.toNatClampNeg 0).toInt = 4) (hp2 : ((0 : Int) ≤ (i 7457).toInt) ∧ (((i 7457).toInt + 8) ≤ 900)) : km 15 213 [.ref 116, .int x1, .int 0, .int x3] (ks i a q r) (kVI w213_116_l10_K4 i a q r (fun v i1 a1 q1 r1 => (i1 7457).toInt = ((i 7457).toInt + 8))) := by
  have hG := kG_self w213_116_l10_K4 hI hr
  refine km_ofI (q := (mi_h213, mi_c213)) rfl (by decide) (Nat.le_of_ble_eq_true rfl) ?_
  intro P hP
  have r1 : ((0 : Int) ≤ ((a 134).getD x1.toNatClampNeg 0).toInt) ∧ (((a 134).getD x1.toNatClampNeg 0).toInt ≤ 7) := hG.I.2.2.1 134 (x1.toNatClampNeg)
  have fi_7457 : ((0 : Int) ≤ (i 7457).toInt) ∧ ((i 7457).toInt ≤ 1000) := hG.I.1 7457
  first | refine ft_goL mi_k213 4 38 [(0, .ref 116), (1, .int x1), (2, .int 0), (3, .int x3)] [.int 2, .ref 116] (by rfl) ?_ | refine ft_go mi_k213 4 38 [(0, .ref 116), (1, .int x1), (2, .int 0), (3, .int x3)] [.int 2, .ref 116] i a q r (by rfl) ?_
  refine ko_callN mi_k213.1 (pc := 38) (ls := [(0, .ref 116), (1, .int x1), (2, .int 0), (3, .int x3)]) (st := [.int 2, .ref 116]) (h := ks i a q r) (i := (.invokevirtual 351, 3, 209, 0, 9, 0, 464)) (mi_k213.2 _ _ (by rfl)) (ft_invS mi_pq209 (by rfl)) (cy := mi_c209) mi_pq209 rfl (kc209_116 hG.I hG.R 2 (oz1559 fi_7457.1 hp2.2)) (by decide) ?_
  intro ig2 ag2 qg2 rg2 kg2 hg2
  have hGg2 := kG_call hG kg2 (by decide +kernel)
  have fig2_7457 : ((0 : Int) ≤ (ig2 7457).toInt) ∧ ((ig2 7457).toInt ≤ 1000) := hGg2.I.1 7457
  have z3 : (ig2 7457).toInt = ((i 7457).toInt + 1) := hg2
  first | refine fo_goS mi_k213 fz213_41_5_48 [.int x1, .ref 134, .int x1, .ref 116] (by rfl) ?_ | refine ft_go mi_k213 5 48 [(0, .ref 116), (1, .int x1), (2, .int 0), (3, .int x3)] [.int x1, .ref 134, .int x1, .ref 116] ig2 ag2 qg2 rg2 (by rfl) ?_
  refine ko_iald3 mi_k213.1 (n := 50) (c := 50) (ax := (0, 0, 0, 0, 0)) (mi_k213.2 _ _ (by rfl)) (by rfl) (ksG134 _ _ _ _) (hGg2.I.2.1 134) rfl (oz3 hp0.1) (oz1336 hp0.2) ?_
  have r4 : ((0 : Int) ≤ ((ag2 134).getD x1.toNatClampNeg 0).toInt) ∧ (((ag2 134).getD x1.toNatClampNeg 0).toInt ≤ 7) := hGg2.I.2.2.1 134 (x1.toNatClampNeg)
  have u5 : ((ag2 134).getD x1.toNatClampNeg 0).toInt = ((a 134).getD x1.toNatClampNeg 0).toInt := congrArg (fun z : List Int32 => (z.getD x1.toNatClampNeg 0).toInt) (kg2.fa 134 rfl)
  refine ko_top (kj_eq (oz1447 hp1 u5) (by decide) : ((ag2 134).getD x1.toNatClampNeg 0) = 4) ?_
  first | refine fo_goS mi_k213 fz213_49_1_50 [.int x3, .int 4, .int x1, .ref 116] (by rfl) ?_ | refine ft_go mi_k213 1 50 [(0, .ref 116), (1, .int x1), (2, .int 0), (3, .int x3)] [.int x3, .int 4, .int x1, .ref 116] ig2 ag2 qg2 rg2 (by rfl) ?_
  refine ko_callI mi_k213.1 (pc := 50) (ls := [(0, .ref 116), (1, .int x1), (2, .int 0), (3, .int x3)]) (st := [.int x3, .int 4, .int x1, .ref 116]) (h := ks ig2 ag2 qg2 rg2) (i := (.invokevirtual 360, 3, 211, 0, 9, 0, 466)) (mi_k213.2 _ _ (by rfl)) (ft_invS mi_pq211 (by rfl)) (cy := mi_c211) mi_pq211 rfl (kc211_116_l14_K4 hGg2.I hGg2.R x1 x3 (oz1339 hp0.1 hp0.2) (oz1447 hp1 u5) (oz1560 fig2_7457.1 hp2.2 z3)) (by decide) ?_
  intro vg6 ig6 ag6 qg6 rg6 kg6 hg6
  have hGg6 := kG_call hGg2 kg6 (by decide +kernel)
  have fig6_7457 : ((0 : Int) ≤ (ig6 7457).toInt) ∧ ((ig6 7457).toInt ≤ 1000) := hGg6.I.1 7457
  have z7 : (ig6 7457).toInt = ((ig2 7457).toInt + 3) := hg6
  first | refine fo_goL mi_k213 fz213_53_7_64 [(4, .int vg6), (0, .ref 116), (1, .int x1), (2, .int 0), (3, .int x3)] [.int x1, .ref 134, .int x1, .ref 116, .int vg6] (by rfl) ?_ | refine ft_go mi_k213 7 64 [(4, .int vg6), (0, .ref 116), (1, .int x1), (2, .int 0), (3, .int x3)] [.int x1, .ref 134, .int x1, .ref 116, .int vg6] ig6 ag6 qg6 rg6 (by rfl) ?_
  refine ko_iald3 mi_k213.1 (n := 50) (c := 50) (ax := (0, 0, 0, 0, 0)) (mi_k213.2 _ _ (by rfl)) (by rfl) (ksG134 _ _ _ _) (hGg6.I.2.1 134) rfl (oz3 hp0.1) (oz1336 hp0.2) ?_
  have r8 : ((0 : Int) ≤ ((ag6 134).getD x1.toNatClampNeg 0).toInt) ∧ (((ag6 134).getD x1.toNatClampNeg 0).toInt ≤ 7) := hGg6.I.2.2.1 134 (x1.toNatClampNeg)
  have u9 : ((ag6 134).getD x1.toNatClampNeg 0).toInt = ((ag2 134).getD x1.toNatClampNeg 0).toInt := congrArg (fun z : List Int32 => (z.getD x1.toNatClampNeg 0).toInt) (kg6.fa 134 rfl)
  refine ko_top (kj_eq (oz1456 hp1 u5 u9) (by decide) : ((ag6 134).getD x1.toNatClampNeg 0) = 4) ?_
  first | refine fo_goS mi_k213 fz213_65_1_66 [.int 1, .int 4, .int x1, .ref 116, .int vg6] (by rfl) ?_ | refine ft_go mi_k213 1 66 [(4, .int vg6), (0, .ref 116), (1, .int x1), (2, .int 0), (3, .int x3)] [.int 1, .int 4, .int x1, .ref 116, .int vg6] ig6 ag6 qg6 rg6 (by rfl) ?_
  refine ko_callI mi_k213.1 (pc := 66) (ls := [(4, .int vg6), (0, .ref 116), (1, .int x1), (2, .int 0), (3, .int x3)]) (st := [.int 1, .int 4, .int x1, .ref 116, .int vg6]) (h := ks ig6 ag6 qg6 rg6) (i := (.invokevirtual 363, 3, 212, 0, 9, 0, 467)) (mi_k213.2 _ _ (by rfl)) (ft_invS mi_pq212 (by rfl)) (cy := mi_c212) mi_pq212 rfl (kc212_116_l14_K4 hGg6.I hGg6.R x1 1 (oz1339 hp0.1 hp0.2) (oz1456 hp1 u5 u9) (oz1564 fig6_7457.1 hp2.2 z3 z7)) (by decide) ?_
  intro vg10 ig10 ag10 qg10 rg10 kg10 hg10
  have hGg10 := kG_call hGg6 kg10 (by decide +kernel)
  have z11 : (ig10 7457).toInt = ((ig6 7457).toInt + 4) := hg10
  have b12 : ((-2147483648 : Int) ≤ vg6.toInt) ∧ (vg6.toInt ≤ 2147483647) := kd_bd vg6
  have b13 : ((-2147483648 : Int) ≤ vg10.toInt) ∧ (vg10.toInt ≤ 2147483647) := kd_bd vg10
  first | refine fo_goS mi_k213 fz213_69_1_70 [.int (vg6 - vg10)] (by rfl) ?_ | refine ft_go mi_k213 1 70 [(4, .int vg6), (0, .ref 116), (1, .int x1), (2, .int 0), (3, .int x3)] [.int (vg6 - vg10)] ig10 ag10 qg10 rg10 (by rfl) ?_
  exact ft_ret mi_k213 (by rfl) (hP (vg6 - vg10) _ _ _ _ hGg10 (oz1565 z11 z3 z7))
def w213_116_l11_K4 : kW := ([7457], [135], [], [])
set_option maxRecDepth 100000 in
theorem kc213_116_l11_K4 {i : Nat → Int32} {a : Nat → List Int32} {q : Nat → List Int64} {r : Nat → Nat} (hI : kI i a q) (hr : kr r) (x1 : Int32) (x3 : Int32) (hp0 : ((0 : Int) ≤ x1.toInt) ∧ (x1.toInt ≤ 49)) (hp1 : ((a 134).getD x1.toNatClampNeg 0).toInt = 4) (hp2 : ((0 : Int) ≤ (i 7457).toInt) ∧ (((i 7457).toInt + 8) ≤ 900)) : km 17 213 [.ref 116, .int x1, .int 1, .int x3] (ks i a q r) (kVI w213_116_l11_K4 i a q r (fun v i1 a1 q1 r1 => (i1 7457).toInt = ((i 7457).toInt + 8))) := by
  have hG := kG_self w213_116_l11_K4 hI hr
  refine km_ofI (q := (mi_h213, mi_c213)) rfl (by decide) (Nat.le_of_ble_eq_true rfl) ?_
  intro P hP
  have r1 : ((0 : Int) ≤ ((a 134).getD x1.toNatClampNeg 0).toInt) ∧ (((a 134).getD x1.toNatClampNeg 0).toInt ≤ 7) := hG.I.2.2.1 134 (x1.toNatClampNeg)
  have fi_7457 : ((0 : Int) ≤ (i 7457).toInt) ∧ ((i 7457).toInt ≤ 1000) := hG.I.1 7457
  first | refine ft_goL mi_k213 5 106 [(0, .ref 116), (1, .int x1), (2, .int 1), (3, .int x3)] [.int 1, .int x1, .ref 116] (by rfl) ?_ | refine ft_go mi_k213 5 106 [(0, .ref 116), (1, .int x1), (2, .int 1), (3, .int x3)] [.int 1, .int x1, .ref 116] i a q r (by rfl) ?_
  refine ko_callPI mi_k213.1 (pc := 106) (ls := [(0, .ref 116), (1, .int x1), (2, .int 1), (3, .int x3)]) (st := [.int 1, .int x1, .ref 116]) (h := ks i a q r) (i := (.invokestatic 357, 3, 208, 0, 9, 0, 465)) (mi_k213.2 _ _ (by rfl)) (ft_invS mi_pq208 (by rfl)) (cy := mi_c208) mi_pq208 rfl (kc208_l01 hG.I hG.R ) (by decide) ?_
  intro vg2 hg2
  have z3 : vg2.toInt = 0 := hg2
  have evvg2 := kj_eq (oz236 z3) (by decide : (0 : Int32).toInt = 0)
  subst evvg2
  first | refine fo_goS mi_k213 fz213_109_1_110 [.int x3, .int 0, .int x1, .ref 116] (by rfl) ?_ | refine ft_go mi_k213 1 110 [(0, .ref 116), (1, .int x1), (2, .int 1), (3, .int x3)] [.int x3, .int 0, .int x1, .ref 116] i a q r (by rfl) ?_
  refine ko_callI mi_k213.1 (pc := 110) (ls := [(0, .ref 116), (1, .int x1), (2, .int 1), (3, .int x3)]) (st := [.int x3, .int 0, .int x1, .ref 116]) (h := ks i a q r) (i := (.invokevirtual 366, 3, 213, 0, 9, 0, 468)) (mi_k213.2 _ _ (by rfl)) (ft_invS mi_pq213 (by rfl)) (cy := mi_c213) mi_pq213 rfl (kc213_116_l10_K4 hG.I hG.R x1 x3 (oz1339 hp0.1 hp0.2) (oz1446 hp1) (oz1566 fi_7457.1 hp2.2)) (by decide) ?_
  intro vg4 ig4 ag4 qg4 rg4 kg4 hg4
  have hGg4 := kG_call hG kg4 (by decide +kernel)
  have z5 : (ig4 7457).toInt = ((i 7457).toInt + 8) := hg4
  exact ft_ret mi_k213 (by rfl) (hP vg4 _ _ _ _ hGg4 (oz1567 z5))
def w213_116_l14_K4 : kW := ([7457], [135], [], [])
set_option maxRecDepth 100000 in
theorem kc213_116_l14_K4 {i : Nat → Int32} {a : Nat → List Int32} {q : Nat → List Int64} {r : Nat → Nat} (hI : kI i a q) (hr : kr r) (x1 : Int32) (x3 : Int32) (hp0 : ((0 : Int) ≤ x1.toInt) ∧ (x1.toInt ≤ 49)) (hp1 : ((a 134).getD x1.toNatClampNeg 0).toInt = 4) (hp2 : ((0 : Int) ≤ (i 7457).toInt) ∧ (((i 7457).toInt + 8) ≤ 900)) : km 19 213 [.ref 116, .int x1, .int 4, .int x3] (ks i a q r) (kVI w213_116_l14_K4 i a q r (fun v i1 a1 q1 r1 => (i1 7457).toInt = ((i 7457).toInt + 8))) := by
  have hG := kG_self w213_116_l14_K4 hI hr
  refine km_ofI (q := (mi_h213, mi_c213)) rfl (by decide) (Nat.le_of_ble_eq_true rfl) ?_
  intro P hP
  have r1 : ((0 : Int) ≤ ((a 134).getD x1.toNatClampNeg 0).toInt) ∧ (((a 134).getD x1.toNatClampNeg 0).toInt ≤ 7) := hG.I.2.2.1 134 (x1.toNatClampNeg)
  have fi_7457 : ((0 : Int) ≤ (i 7457).toInt) ∧ ((i 7457).toInt ≤ 1000) := hG.I.1 7457
  first | refine ft_goL mi_k213 5 106 [(0, .ref 116), (1, .int x1), (2, .int 4), (3, .int x3)] [.int 4, .int x1, .ref 116] (by rfl) ?_ | refine ft_go mi_k213 5 106 [(0, .ref 116), (1, .int x1), (2, .int 4), (3, .int x3)] [.int 4, .int x1, .ref 116] i a q r (by rfl) ?_
  refine ko_callPI mi_k213.1 (pc := 106) (ls := [(0, .ref 116), (1, .int x1), (2, .int 4), (3, .int x3)]) (st := [.int 4, .int x1, .ref 116]) (h := ks i a q r) (i := (.invokestatic 357, 3, 208, 0, 9, 0, 465)) (mi_k213.2 _ _ (by rfl)) (ft_invS mi_pq208 (by rfl)) (cy := mi_c208) mi_pq208 rfl (kc208_l04 hG.I hG.R ) (by decide) ?_
  intro vg2 hg2
  have z3 : vg2.toInt = 1 := hg2
  have evvg2 := kj_eq (oz1381 z3) (by decide : (1 : Int32).toInt = 1)
  subst evvg2
  first | refine fo_goS mi_k213 fz213_109_1_110 [.int x3, .int 1, .int x1, .ref 116] (by rfl) ?_ | refine ft_go mi_k213 1 110 [(0, .ref 116), (1, .int x1), (2, .int 4), (3, .int x3)] [.int x3, .int 1, .int x1, .ref 116] i a q r (by rfl) ?_
  refine ko_callI mi_k213.1 (pc := 110) (ls := [(0, .ref 116), (1, .int x1), (2, .int 4), (3, .int x3)]) (st := [.int x3, .int 1, .int x1, .ref 116]) (h := ks i a q r) (i := (.invokevirtual 366, 3, 213, 0, 9, 0, 468)) (mi_k213.2 _ _ (by rfl)) (ft_invS mi_pq213 (by rfl)) (cy := mi_c213) mi_pq213 rfl (kc213_116_l11_K4 hG.I hG.R x1 x3 (oz1339 hp0.1 hp0.2) (oz1446 hp1) (oz1566 fi_7457.1 hp2.2)) (by decide) ?_
  intro vg4 ig4 ag4 qg4 rg4 kg4 hg4
  have hGg4 := kG_call hG kg4 (by decide +kernel)
  have z5 : (ig4 7457).toInt = ((i 7457).toInt + 8) := hg4
  exact ft_ret mi_k213 (by rfl) (hP vg4 _ _ _ _ hGg4 (oz1567 z5))
set_option maxRecDepth 100000 in
theorem kc208_l05 {i : Nat → Int32} {a : Nat → List Int32} {q : Nat → List Int64} {r : Nat → Nat} (hI : kI i a q) (hr : kr r)  : km 1 208 [.int 5] (ks i a q r) (kPI (ks i a q r) (fun v => v.toInt = 3)) := by
  have hG := kG_self kW0 hI hr
  refine km_ofPI (q := (mi_h208, mi_c208)) rfl (by decide) (Nat.le_of_ble_eq_true rfl) ?_
  intro P hP
  first | refine ft_goL mi_k208 3 41 [(0, .int 5)] [.int 3] (by rfl) ?_ | refine ft_go mi_k208 3 41 [(0, .int 5)] [.int 3] i a q r (by rfl) ?_
  exact ft_ret mi_k208 (by rfl) (hP 3 (oz1421 kn3))
def w210_116_l10_K5 : kW := ([7457], [135], [], [])
set_option maxRecDepth 100000 in
theorem kc210_116_l10_K5 {i : Nat → Int32} {a : Nat → List Int32} {q : Nat → List Int64} {r : Nat → Nat} (hI : kI i a q) (hr : kr r) (x1 : Int32) (x3 : Int32) (hp0 : ((0 : Int) ≤ x1.toInt) ∧ (x1.toInt ≤ 49)) (hp1 : ((a 134).getD x1.toNatClampNeg 0).toInt = 5) (hp2 : ((0 : Int) ≤ (i 7457).toInt) ∧ (((i 7457).toInt + 1) ≤ 900)) : km 3 210 [.ref 116, .int x1, .int 0, .int x3] (ks i a q r) (kVI w210_116_l10_K5 i a q r (fun v i1 a1 q1 r1 => (i1 7457).toInt = ((i 7457).toInt + 1))) := by
  have hG := kG_self w210_116_l10_K5 hI hr
  refine km_ofI (q := (mi_h210, mi_c210)) rfl (by decide) (Nat.le_of_ble_eq_true rfl) ?_
  intro P hP
  have r1 : ((0 : Int) ≤ ((a 134).getD x1.toNatClampNeg 0).toInt) ∧ (((a 134).getD x1.toNatClampNeg 0).toInt ≤ 7) := hG.I.2.2.1 134 (x1.toNatClampNeg)
  have fi_7457 : ((0 : Int) ≤ (i 7457).toInt) ∧ ((i 7457).toInt ≤ 1000) := hG.I.1 7457
  first | refine ft_goL mi_k210 4 38 [(0, .ref 116), (1, .int x1), (2, .int 0), (3, .int x3)] [.int 1, .ref 116] (by rfl) ?_ | refine ft_go mi_k210 4 38 [(0, .ref 116), (1, .int x1), (2, .int 0), (3, .int x3)] [.int 1, .ref 116] i a q r (by rfl) ?_
  refine ko_callN mi_k210.1 (pc := 38) (ls := [(0, .ref 116), (1, .int x1), (2, .int 0), (3, .int x3)]) (st := [.int 1, .ref 116]) (h := ks i a q r) (i := (.invokevirtual 351, 3, 209, 0, 9, 0, 464)) (mi_k210.2 _ _ (by rfl)) (ft_invS mi_pq209 (by rfl)) (cy := mi_c209) mi_pq209 rfl (kc209_116 hG.I hG.R 1 (oz1529 fi_7457.1 hp2.2)) (by decide) ?_
  intro ig2 ag2 qg2 rg2 kg2 hg2
  have hGg2 := kG_call hG kg2 (by decide +kernel)
  have z3 : (ig2 7457).toInt = ((i 7457).toInt + 1) := hg2
  have b4 : ((-2147483648 : Int) ≤ x3.toInt) ∧ (x3.toInt ≤ 2147483647) := kd_bd x3
  have b5 : ((-2147483648 : Int) ≤ x1.toInt) ∧ (x1.toInt ≤ 2147483647) := kd_bd x1
  first | refine fo_goS mi_k210 fz210_41_3_44 [.int (x3 + x1)] (by rfl) ?_ | refine ft_go mi_k210 3 44 [(0, .ref 116), (1, .int x1), (2, .int 0), (3, .int x3)] [.int (x3 + x1)] ig2 ag2 qg2 rg2 (by rfl) ?_
  exact ft_ret mi_k210 (by rfl) (hP (x3 + x1) _ _ _ _ hGg2 (oz1355 z3))
def w210_116_l12_K5 : kW := ([7457], [135], [], [])
set_option maxRecDepth 100000 in
theorem kc210_116_l12_K5 {i : Nat → Int32} {a : Nat → List Int32} {q : Nat → List Int64} {r : Nat → Nat} (hI : kI i a q) (hr : kr r) (x1 : Int32) (x3 : Int32) (hp0 : ((0 : Int) ≤ x1.toInt) ∧ (x1.toInt ≤ 49)) (hp1 : ((a 134).getD x1.toNatClampNeg 0).toInt = 5) (hp2 : ((0 : Int) ≤ (i 7457).toInt) ∧ (((i 7457).toInt + 1) ≤ 900)) : km 5 210 [.ref 116, .int x1, .int 2, .int x3] (ks i a q r) (kVI w210_116_l12_K5 i a q r (fun v i1 a1 q1 r1 => (i1 7457).toInt = ((i 7457).toInt + 1))) := by
  have hG := kG_self w210_116_l12_K5 hI hr
  refine km_ofI (q := (mi_h210, mi_c210)) rfl (by decide) (Nat.le_of_ble_eq_true rfl) ?_
  intro P hP
  have r1 : ((0 : Int) ≤ ((a 134).getD x1.toNatClampNeg 0).toInt) ∧ (((a 134).getD x1.toNatClampNeg 0).toInt ≤ 7) := hG.I.2.2.1 134 (x1.toNatClampNeg)
  have fi_7457 : ((0 : Int) ≤ (i 7457).toInt) ∧ ((i 7457).toInt ≤ 1000) := hG.I.1 7457
  first | refine ft_goL mi_k210 5 80 [(0, .ref 116), (1, .int x1), (2, .int 2), (3, .int x3)] [.int 2, .int x1, .ref 116] (by rfl) ?_ | refine ft_go mi_k210 5 80 [(0, .ref 116), (1, .int x1), (2, .int 2), (3, .int x3)] [.int 2, .int x1, .ref 116] i a q r (by rfl) ?_
  refine ko_callPI mi_k210.1 (pc := 80) (ls := [(0, .ref 116), (1, .int x1), (2, .int 2), (3, .int x3)]) (st := [.int 2, .int x1, .ref 116]) (h := ks i a q r) (i := (.invokestatic 357, 3, 208, 0, 9, 0, 465)) (mi_k210.2 _ _ (by rfl)) (ft_invS mi_pq208 (by rfl)) (cy := mi_c208) mi_pq208 rfl (kc208_l02 hG.I hG.R ) (by decide) ?_
  intro vg2 hg2
  have z3 : vg2.toInt = 0 := hg2
  have evvg2 := kj_eq (oz236 z3) (by decide : (0 : Int32).toInt = 0)
  subst evvg2
  first | refine fo_goS mi_k210 fz210_83_1_84 [.int x3, .int 0, .int x1, .ref 116] (by rfl) ?_ | refine ft_go mi_k210 1 84 [(0, .ref 116), (1, .int x1), (2, .int 2), (3, .int x3)] [.int x3, .int 0, .int x1, .ref 116] i a q r (by rfl) ?_
  refine ko_callI mi_k210.1 (pc := 84) (ls := [(0, .ref 116), (1, .int x1), (2, .int 2), (3, .int x3)]) (st := [.int x3, .int 0, .int x1, .ref 116]) (h := ks i a q r) (i := (.invokevirtual 354, 3, 210, 0, 9, 0, 463)) (mi_k210.2 _ _ (by rfl)) (ft_invS mi_pq210 (by rfl)) (cy := mi_c210) mi_pq210 rfl (kc210_116_l10_K5 hG.I hG.R x1 x3 (oz1339 hp0.1 hp0.2) (oz1470 hp1) (oz1354 fi_7457.1 hp2.2)) (by decide) ?_
  intro vg4 ig4 ag4 qg4 rg4 kg4 hg4
  have hGg4 := kG_call hG kg4 (by decide +kernel)
  have z5 : (ig4 7457).toInt = ((i 7457).toInt + 1) := hg4
  exact ft_ret mi_k210 (by rfl) (hP vg4 _ _ _ _ hGg4 (oz1355 z5))
def w210_116_l13_K5 : kW := ([7457], [135], [], [])
set_option maxRecDepth 100000 in
theorem kc210_116_l13_K5 {i : Nat → Int32} {a : Nat → List Int32} {q : Nat → List Int64} {r : Nat → Nat} (hI : kI i a q) (hr : kr r) (x1 : Int32) (x3 : Int32) (hp0 : ((0 : Int) ≤ x1.toInt) ∧ (x1.toInt ≤ 49)) (hp1 : ((a 134).getD x1.toNatClampNeg 0).toInt = 5) (hp2 : ((0 : Int) ≤ (i 7457).toInt) ∧ (((i 7457).toInt + 1) ≤ 900)) : km 7 210 [.ref 116, .int x1, .int 3, .int x3] (ks i a q r) (kVI w210_116_l13_K5 i a q r (fun v i1 a1 q1 r1 => (i1 7457).toInt = ((i 7457).toInt + 1))) := by
  have hG := kG_self w210_116_l13_K5 hI hr
  refine km_ofI (q := (mi_h210, mi_c210)) rfl (by decide) (Nat.le_of_ble_eq_true rfl) ?_
  intro P hP
  have r1 : ((0 : Int) ≤ ((a 134).getD x1.toNatClampNeg 0).toInt) ∧ (((a 134).getD x1.toNatClampNeg 0).toInt ≤ 7) := hG.I.2.2.1 134 (x1.toNatClampNeg)
  have fi_7457 : ((0 : Int) ≤ (i 7457).toInt) ∧ ((i 7457).toInt ≤ 1000) := hG.I.1 7457
  first | refine ft_goL mi_k210 5 80 [(0, .ref 116), (1, .int x1), (2, .int 3), (3, .int x3)] [.int 3, .int x1, .ref 116] (by rfl) ?_ | refine ft_go mi_k210 5 80 [(0, .ref 116), (1, .int x1), (2, .int 3), (3, .int x3)] [.int 3, .int x1, .ref 116] i a q r (by rfl) ?_
  refine ko_callPI mi_k210.1 (pc := 80) (ls := [(0, .ref 116), (1, .int x1), (2, .int 3), (3, .int x3)]) (st := [.int 3, .int x1, .ref 116]) (h := ks i a q r) (i := (.invokestatic 357, 3, 208, 0, 9, 0, 465)) (mi_k210.2 _ _ (by rfl)) (ft_invS mi_pq208 (by rfl)) (cy := mi_c208) mi_pq208 rfl (kc208_l03 hG.I hG.R ) (by decide) ?_
  intro vg2 hg2
  have z3 : vg2.toInt = 2 := hg2
  have evvg2 := kj_eq (oz1411 z3) (by decide : (2 : Int32).toInt = 2)
  subst evvg2
  first | refine fo_goS mi_k210 fz210_83_1_84 [.int x3, .int 2, .int x1, .ref 116] (by rfl) ?_ | refine ft_go mi_k210 1 84 [(0, .ref 116), (1, .int x1), (2, .int 3), (3, .int x3)] [.int x3, .int 2, .int x1, .ref 116] i a q r (by rfl) ?_
  refine ko_callI mi_k210.1 (pc := 84) (ls := [(0, .ref 116), (1, .int x1), (2, .int 3), (3, .int x3)]) (st := [.int x3, .int 2, .int x1, .ref 116]) (h := ks i a q r) (i := (.invokevirtual 354, 3, 210, 0, 9, 0, 463)) (mi_k210.2 _ _ (by rfl)) (ft_invS mi_pq210 (by rfl)) (cy := mi_c210) mi_pq210 rfl (kc210_116_l12_K5 hG.I hG.R x1 x3 (oz1339 hp0.1 hp0.2) (oz1470 hp1) (oz1354 fi_7457.1 hp2.2)) (by decide) ?_
  intro vg4 ig4 ag4 qg4 rg4 kg4 hg4
  have hGg4 := kG_call hG kg4 (by decide +kernel)
  have z5 : (ig4 7457).toInt = ((i 7457).toInt + 1) := hg4
  exact ft_ret mi_k210 (by rfl) (hP vg4 _ _ _ _ hGg4 (oz1355 z5))
def w210_116_l15_K5 : kW := ([7457], [135], [], [])
set_option maxRecDepth 100000 in
theorem kc210_116_l15_K5 {i : Nat → Int32} {a : Nat → List Int32} {q : Nat → List Int64} {r : Nat → Nat} (hI : kI i a q) (hr : kr r) (x1 : Int32) (x3 : Int32) (hp0 : ((0 : Int) ≤ x1.toInt) ∧ (x1.toInt ≤ 49)) (hp1 : ((a 134).getD x1.toNatClampNeg 0).toInt = 5) (hp2 : ((0 : Int) ≤ (i 7457).toInt) ∧ (((i 7457).toInt + 1) ≤ 900)) : km 9 210 [.ref 116, .int x1, .int 5, .int x3] (ks i a q r) (kVI w210_116_l15_K5 i a q r (fun v i1 a1 q1 r1 => (i1 7457).toInt = ((i 7457).toInt + 1))) := by
  have hG := kG_self w210_116_l15_K5 hI hr
  refine km_ofI (q := (mi_h210, mi_c210)) rfl (by decide) (Nat.le_of_ble_eq_true rfl) ?_
  intro P hP
  have r1 : ((0 : Int) ≤ ((a 134).getD x1.toNatClampNeg 0).toInt) ∧ (((a 134).getD x1.toNatClampNeg 0).toInt ≤ 7) := hG.I.2.2.1 134 (x1.toNatClampNeg)
  have fi_7457 : ((0 : Int) ≤ (i 7457).toInt) ∧ ((i 7457).toInt ≤ 1000) := hG.I.1 7457
  first | refine ft_goL mi_k210 5 80 [(0, .ref 116), (1, .int x1), (2, .int 5), (3, .int x3)] [.int 5, .int x1, .ref 116] (by rfl) ?_ | refine ft_go mi_k210 5 80 [(0, .ref 116), (1, .int x1), (2, .int 5), (3, .int x3)] [.int 5, .int x1, .ref 116] i a q r (by rfl) ?_
  refine ko_callPI mi_k210.1 (pc := 80) (ls := [(0, .ref 116), (1, .int x1), (2, .int 5), (3, .int x3)]) (st := [.int 5, .int x1, .ref 116]) (h := ks i a q r) (i := (.invokestatic 357, 3, 208, 0, 9, 0, 465)) (mi_k210.2 _ _ (by rfl)) (ft_invS mi_pq208 (by rfl)) (cy := mi_c208) mi_pq208 rfl (kc208_l05 hG.I hG.R ) (by decide) ?_
  intro vg2 hg2
  have z3 : vg2.toInt = 3 := hg2
  have evvg2 := kj_eq (oz1421 z3) (by decide : (3 : Int32).toInt = 3)
  subst evvg2
  first | refine fo_goS mi_k210 fz210_83_1_84 [.int x3, .int 3, .int x1, .ref 116] (by rfl) ?_ | refine ft_go mi_k210 1 84 [(0, .ref 116), (1, .int x1), (2, .int 5), (3, .int x3)] [.int x3, .int 3, .int x1, .ref 116] i a q r (by rfl) ?_
  refine ko_callI mi_k210.1 (pc := 84) (ls := [(0, .ref 116), (1, .int x1), (2, .int 5), (3, .int x3)]) (st := [.int x3, .int 3, .int x1, .ref 116]) (h := ks i a q r) (i := (.invokevirtual 354, 3, 210, 0, 9, 0, 463)) (mi_k210.2 _ _ (by rfl)) (ft_invS mi_pq210 (by rfl)) (cy := mi_c210) mi_pq210 rfl (kc210_116_l13_K5 hG.I hG.R x1 x3 (oz1339 hp0.1 hp0.2) (oz1470 hp1) (oz1354 fi_7457.1 hp2.2)) (by decide) ?_
  intro vg4 ig4 ag4 qg4 rg4 kg4 hg4
  have hGg4 := kG_call hG kg4 (by decide +kernel)
  have z5 : (ig4 7457).toInt = ((i 7457).toInt + 1) := hg4
  exact ft_ret mi_k210 (by rfl) (hP vg4 _ _ _ _ hGg4 (oz1355 z5))
def w211_116_l10_K5 : kW := ([7457], [135], [], [])
set_option maxRecDepth 100000 in
theorem kc211_116_l10_K5 {i : Nat → Int32} {a : Nat → List Int32} {q : Nat → List Int64} {r : Nat → Nat} (hI : kI i a q) (hr : kr r) (x1 : Int32) (x3 : Int32) (hp0 : ((0 : Int) ≤ x1.toInt) ∧ (x1.toInt ≤ 49)) (hp1 : ((a 134).getD x1.toNatClampNeg 0).toInt = 5) (hp2 : ((0 : Int) ≤ (i 7457).toInt) ∧ (((i 7457).toInt + 2) ≤ 900)) : km 11 211 [.ref 116, .int x1, .int 0, .int x3] (ks i a q r) (kVI w211_116_l10_K5 i a q r (fun v i1 a1 q1 r1 => (i1 7457).toInt = ((i 7457).toInt + 2))) := by
  have hG := kG_self w211_116_l10_K5 hI hr
  refine km_ofI (q := (mi_h211, mi_c211)) rfl (by decide) (Nat.le_of_ble_eq_true rfl) ?_
  intro P hP
  have r1 : ((0 : Int) ≤ ((a 134).getD x1.toNatClampNeg 0).toInt) ∧ (((a 134).getD x1.toNatClampNeg 0).toInt ≤ 7) := hG.I.2.2.1 134 (x1.toNatClampNeg)
  have fi_7457 : ((0 : Int) ≤ (i 7457).toInt) ∧ ((i 7457).toInt ≤ 1000) := hG.I.1 7457
  first | refine ft_goL mi_k211 4 51 [(0, .ref 116), (1, .int x1), (2, .int 0), (3, .int x3)] [.int 10, .ref 116] (by rfl) ?_ | refine ft_go mi_k211 4 51 [(0, .ref 116), (1, .int x1), (2, .int 0), (3, .int x3)] [.int 10, .ref 116] i a q r (by rfl) ?_
  refine ko_callN mi_k211.1 (pc := 51) (ls := [(0, .ref 116), (1, .int x1), (2, .int 0), (3, .int x3)]) (st := [.int 10, .ref 116]) (h := ks i a q r) (i := (.invokevirtual 351, 3, 209, 0, 9, 0, 464)) (mi_k211.2 _ _ (by rfl)) (ft_invS mi_pq209 (by rfl)) (cy := mi_c209) mi_pq209 rfl (kc209_116 hG.I hG.R 10 (oz1528 fi_7457.1 hp2.2)) (by decide) ?_
  intro ig2 ag2 qg2 rg2 kg2 hg2
  have hGg2 := kG_call hG kg2 (by decide +kernel)
  have fig2_7457 : ((0 : Int) ≤ (ig2 7457).toInt) ∧ ((ig2 7457).toInt ≤ 1000) := hGg2.I.1 7457
  have z3 : (ig2 7457).toInt = ((i 7457).toInt + 1) := hg2
  first | refine fo_goS mi_k211 fz211_54_5_61 [.int x1, .ref 134, .int x1, .ref 116] (by rfl) ?_ | refine ft_go mi_k211 5 61 [(0, .ref 116), (1, .int x1), (2, .int 0), (3, .int x3)] [.int x1, .ref 134, .int x1, .ref 116] ig2 ag2 qg2 rg2 (by rfl) ?_
  refine ko_iald3 mi_k211.1 (n := 50) (c := 50) (ax := (0, 0, 0, 0, 0)) (mi_k211.2 _ _ (by rfl)) (by rfl) (ksG134 _ _ _ _) (hGg2.I.2.1 134) rfl (oz3 hp0.1) (oz1336 hp0.2) ?_
  have r4 : ((0 : Int) ≤ ((ag2 134).getD x1.toNatClampNeg 0).toInt) ∧ (((ag2 134).getD x1.toNatClampNeg 0).toInt ≤ 7) := hGg2.I.2.2.1 134 (x1.toNatClampNeg)
  have u5 : ((ag2 134).getD x1.toNatClampNeg 0).toInt = ((a 134).getD x1.toNatClampNeg 0).toInt := congrArg (fun z : List Int32 => (z.getD x1.toNatClampNeg 0).toInt) (kg2.fa 134 rfl)
  refine ko_top (kj_eq (oz1471 hp1 u5) (by decide) : ((ag2 134).getD x1.toNatClampNeg 0) = 5) ?_
  first | refine fo_goS mi_k211 fz211_62_1_63 [.int x3, .int 5, .int x1, .ref 116] (by rfl) ?_ | refine ft_go mi_k211 1 63 [(0, .ref 116), (1, .int x1), (2, .int 0), (3, .int x3)] [.int x3, .int 5, .int x1, .ref 116] ig2 ag2 qg2 rg2 (by rfl) ?_
  refine ko_callI mi_k211.1 (pc := 63) (ls := [(0, .ref 116), (1, .int x1), (2, .int 0), (3, .int x3)]) (st := [.int x3, .int 5, .int x1, .ref 116]) (h := ks ig2 ag2 qg2 rg2) (i := (.invokevirtual 354, 3, 210, 0, 9, 0, 463)) (mi_k211.2 _ _ (by rfl)) (ft_invS mi_pq210 (by rfl)) (cy := mi_c210) mi_pq210 rfl (kc210_116_l15_K5 hGg2.I hGg2.R x1 x3 (oz1339 hp0.1 hp0.2) (oz1471 hp1 u5) (oz1530 fig2_7457.1 hp2.2 z3)) (by decide) ?_
  intro vg6 ig6 ag6 qg6 rg6 kg6 hg6
  have hGg6 := kG_call hGg2 kg6 (by decide +kernel)
  have z7 : (ig6 7457).toInt = ((ig2 7457).toInt + 1) := hg6
  have b8 : ((-2147483648 : Int) ≤ vg6.toInt) ∧ (vg6.toInt ≤ 2147483647) := kd_bd vg6
  first | refine fo_goS mi_k211 fz211_66_2_68 [.int (vg6 * 2)] (by rfl) ?_ | refine ft_go mi_k211 2 68 [(0, .ref 116), (1, .int x1), (2, .int 0), (3, .int x3)] [.int (vg6 * 2)] ig6 ag6 qg6 rg6 (by rfl) ?_
  exact ft_ret mi_k211 (by rfl) (hP (vg6 * 2) _ _ _ _ hGg6 (oz1531 z3 z7))
def w211_116_l12_K5 : kW := ([7457], [135], [], [])
set_option maxRecDepth 100000 in
theorem kc211_116_l12_K5 {i : Nat → Int32} {a : Nat → List Int32} {q : Nat → List Int64} {r : Nat → Nat} (hI : kI i a q) (hr : kr r) (x1 : Int32) (x3 : Int32) (hp0 : ((0 : Int) ≤ x1.toInt) ∧ (x1.toInt ≤ 49)) (hp1 : ((a 134).getD x1.toNatClampNeg 0).toInt = 5) (hp2 : ((0 : Int) ≤ (i 7457).toInt) ∧ (((i 7457).toInt + 3) ≤ 900)) : km 13 211 [.ref 116, .int x1, .int 2, .int x3] (ks i a q r) (kVI w211_116_l12_K5 i a q r (fun v i1 a1 q1 r1 => (i1 7457).toInt = ((i 7457).toInt + 3))) := by
  have hG := kG_self w211_116_l12_K5 hI hr
  refine km_ofI (q := (mi_h211, mi_c211)) rfl (by decide) (Nat.le_of_ble_eq_true rfl) ?_
  intro P hP
  have r1 : ((0 : Int) ≤ ((a 134).getD x1.toNatClampNeg 0).toInt) ∧ (((a 134).getD x1.toNatClampNeg 0).toInt ≤ 7) := hG.I.2.2.1 134 (x1.toNatClampNeg)
  have fi_7457 : ((0 : Int) ≤ (i 7457).toInt) ∧ ((i 7457).toInt ≤ 1000) := hG.I.1 7457
  first | refine ft_goL mi_k211 4 72 [(0, .ref 116), (1, .int x1), (2, .int 2), (3, .int x3)] [.int 30, .ref 116] (by rfl) ?_ | refine ft_go mi_k211 4 72 [(0, .ref 116), (1, .int x1), (2, .int 2), (3, .int x3)] [.int 30, .ref 116] i a q r (by rfl) ?_
  refine ko_callN mi_k211.1 (pc := 72) (ls := [(0, .ref 116), (1, .int x1), (2, .int 2), (3, .int x3)]) (st := [.int 30, .ref 116]) (h := ks i a q r) (i := (.invokevirtual 351, 3, 209, 0, 9, 0, 464)) (mi_k211.2 _ _ (by rfl)) (ft_invS mi_pq209 (by rfl)) (cy := mi_c209) mi_pq209 rfl (kc209_116 hG.I hG.R 30 (oz1538 fi_7457.1 hp2.2)) (by decide) ?_
  intro ig2 ag2 qg2 rg2 kg2 hg2
  have hGg2 := kG_call hG kg2 (by decide +kernel)
  have fig2_7457 : ((0 : Int) ≤ (ig2 7457).toInt) ∧ ((ig2 7457).toInt ≤ 1000) := hGg2.I.1 7457
  have z3 : (ig2 7457).toInt = ((i 7457).toInt + 1) := hg2
  first | refine fo_goS mi_k211 fz211_75_4_79 [.int x3, .int 0, .int x1, .ref 116] (by rfl) ?_ | refine ft_go mi_k211 4 79 [(0, .ref 116), (1, .int x1), (2, .int 2), (3, .int x3)] [.int x3, .int 0, .int x1, .ref 116] ig2 ag2 qg2 rg2 (by rfl) ?_
  have r4 : ((0 : Int) ≤ ((ag2 134).getD x1.toNatClampNeg 0).toInt) ∧ (((ag2 134).getD x1.toNatClampNeg 0).toInt ≤ 7) := hGg2.I.2.2.1 134 (x1.toNatClampNeg)
  have u5 : ((ag2 134).getD x1.toNatClampNeg 0).toInt = ((a 134).getD x1.toNatClampNeg 0).toInt := congrArg (fun z : List Int32 => (z.getD x1.toNatClampNeg 0).toInt) (kg2.fa 134 rfl)
  refine ko_callI mi_k211.1 (pc := 79) (ls := [(0, .ref 116), (1, .int x1), (2, .int 2), (3, .int x3)]) (st := [.int x3, .int 0, .int x1, .ref 116]) (h := ks ig2 ag2 qg2 rg2) (i := (.invokevirtual 360, 3, 211, 0, 9, 0, 466)) (mi_k211.2 _ _ (by rfl)) (ft_invS mi_pq211 (by rfl)) (cy := mi_c211) mi_pq211 rfl (kc211_116_l10_K5 hGg2.I hGg2.R x1 x3 (oz1339 hp0.1 hp0.2) (oz1471 hp1 u5) (oz1539 fig2_7457.1 hp2.2 z3)) (by decide) ?_
  intro vg6 ig6 ag6 qg6 rg6 kg6 hg6
  have hGg6 := kG_call hGg2 kg6 (by decide +kernel)
  have z7 : (ig6 7457).toInt = ((ig2 7457).toInt + 2) := hg6
  first | refine ft_goS mi_k211 1 83 [.int (-vg6)] (by rfl) ?_ | refine ft_go mi_k211 1 83 [(0, .ref 116), (1, .int x1), (2, .int 2), (3, .int x3)] [.int (-vg6)] ig6 ag6 qg6 rg6 (by rfl) ?_
  exact ft_ret mi_k211 (by rfl) (hP (-vg6) _ _ _ _ hGg6 (oz1540 z3 z7))
def w211_116_l13_K5 : kW := ([7457], [135], [], [])
set_option maxRecDepth 100000 in
theorem kc211_116_l13_K5 {i : Nat → Int32} {a : Nat → List Int32} {q : Nat → List Int64} {r : Nat → Nat} (hI : kI i a q) (hr : kr r) (x1 : Int32) (x3 : Int32) (hp0 : ((0 : Int) ≤ x1.toInt) ∧ (x1.toInt ≤ 49)) (hp1 : ((a 134).getD x1.toNatClampNeg 0).toInt = 5) (hp2 : ((0 : Int) ≤ (i 7457).toInt) ∧ (((i 7457).toInt + 4) ≤ 900)) : km 15 211 [.ref 116, .int x1, .int 3, .int x3] (ks i a q r) (kVI w211_116_l13_K5 i a q r (fun v i1 a1 q1 r1 => (i1 7457).toInt = ((i 7457).toInt + 4))) := by
  have hG := kG_self w211_116_l13_K5 hI hr
  refine km_ofI (q := (mi_h211, mi_c211)) rfl (by decide) (Nat.le_of_ble_eq_true rfl) ?_
  intro P hP
  have r1 : ((0 : Int) ≤ ((a 134).getD x1.toNatClampNeg 0).toInt) ∧ (((a 134).getD x1.toNatClampNeg 0).toInt ≤ 7) := hG.I.2.2.1 134 (x1.toNatClampNeg)
  have fi_7457 : ((0 : Int) ≤ (i 7457).toInt) ∧ ((i 7457).toInt ≤ 1000) := hG.I.1 7457
  first | refine ft_goL mi_k211 4 87 [(0, .ref 116), (1, .int x1), (2, .int 3), (3, .int x3)] [.int 41, .ref 116] (by rfl) ?_ | refine ft_go mi_k211 4 87 [(0, .ref 116), (1, .int x1), (2, .int 3), (3, .int x3)] [.int 41, .ref 116] i a q r (by rfl) ?_
  refine ko_callN mi_k211.1 (pc := 87) (ls := [(0, .ref 116), (1, .int x1), (2, .int 3), (3, .int x3)]) (st := [.int 41, .ref 116]) (h := ks i a q r) (i := (.invokevirtual 351, 3, 209, 0, 9, 0, 464)) (mi_k211.2 _ _ (by rfl)) (ft_invS mi_pq209 (by rfl)) (cy := mi_c209) mi_pq209 rfl (kc209_116 hG.I hG.R 41 (oz1527 fi_7457.1 hp2.2)) (by decide) ?_
  intro ig2 ag2 qg2 rg2 kg2 hg2
  have hGg2 := kG_call hG kg2 (by decide +kernel)
  have fig2_7457 : ((0 : Int) ≤ (ig2 7457).toInt) ∧ ((ig2 7457).toInt ≤ 1000) := hGg2.I.1 7457
  have z3 : (ig2 7457).toInt = ((i 7457).toInt + 1) := hg2
  have b4 : ((-2147483648 : Int) ≤ x3.toInt) ∧ (x3.toInt ≤ 2147483647) := kd_bd x3
  first | refine fo_goS mi_k211 fz211_90_6_96 [.int (x3 + 1), .int 2, .int x1, .ref 116] (by rfl) ?_ | refine ft_go mi_k211 6 96 [(0, .ref 116), (1, .int x1), (2, .int 3), (3, .int x3)] [.int (x3 + 1), .int 2, .int x1, .ref 116] ig2 ag2 qg2 rg2 (by rfl) ?_
  have r5 : ((0 : Int) ≤ ((ag2 134).getD x1.toNatClampNeg 0).toInt) ∧ (((ag2 134).getD x1.toNatClampNeg 0).toInt ≤ 7) := hGg2.I.2.2.1 134 (x1.toNatClampNeg)
  have u6 : ((ag2 134).getD x1.toNatClampNeg 0).toInt = ((a 134).getD x1.toNatClampNeg 0).toInt := congrArg (fun z : List Int32 => (z.getD x1.toNatClampNeg 0).toInt) (kg2.fa 134 rfl)
  refine ko_callI mi_k211.1 (pc := 96) (ls := [(0, .ref 116), (1, .int x1), (2, .int 3), (3, .int x3)]) (st := [.int (x3 + 1), .int 2, .int x1, .ref 116]) (h := ks ig2 ag2 qg2 rg2) (i := (.invokevirtual 360, 3, 211, 0, 9, 0, 466)) (mi_k211.2 _ _ (by rfl)) (ft_invS mi_pq211 (by rfl)) (cy := mi_c211) mi_pq211 rfl (kc211_116_l12_K5 hGg2.I hGg2.R x1 (x3 + 1) (oz1339 hp0.1 hp0.2) (oz1471 hp1 u6) (oz1551 fig2_7457.1 hp2.2 z3)) (by decide) ?_
  intro vg7 ig7 ag7 qg7 rg7 kg7 hg7
  have hGg7 := kG_call hGg2 kg7 (by decide +kernel)
  have z8 : (ig7 7457).toInt = ((ig2 7457).toInt + 3) := hg7
  exact ft_ret mi_k211 (by rfl) (hP vg7 _ _ _ _ hGg7 (oz1552 z3 z8))
def w211_116_l15_K5 : kW := ([7457], [135], [], [])
set_option maxRecDepth 100000 in
theorem kc211_116_l15_K5 {i : Nat → Int32} {a : Nat → List Int32} {q : Nat → List Int64} {r : Nat → Nat} (hI : kI i a q) (hr : kr r) (x1 : Int32) (x3 : Int32) (hp0 : ((0 : Int) ≤ x1.toInt) ∧ (x1.toInt ≤ 49)) (hp1 : ((a 134).getD x1.toNatClampNeg 0).toInt = 5) (hp2 : ((0 : Int) ≤ (i 7457).toInt) ∧ (((i 7457).toInt + 4) ≤ 900)) : km 17 211 [.ref 116, .int x1, .int 5, .int x3] (ks i a q r) (kVI w211_116_l15_K5 i a q r (fun v i1 a1 q1 r1 => (i1 7457).toInt = ((i 7457).toInt + 4))) := by
  have hG := kG_self w211_116_l15_K5 hI hr
  refine km_ofI (q := (mi_h211, mi_c211)) rfl (by decide) (Nat.le_of_ble_eq_true rfl) ?_
  intro P hP
  have r1 : ((0 : Int) ≤ ((a 134).getD x1.toNatClampNeg 0).toInt) ∧ (((a 134).getD x1.toNatClampNeg 0).toInt ≤ 7) := hG.I.2.2.1 134 (x1.toNatClampNeg)
  have fi_7457 : ((0 : Int) ≤ (i 7457).toInt) ∧ ((i 7457).toInt ≤ 1000) := hG.I.1 7457
  first | refine ft_goL mi_k211 5 134 [(0, .ref 116), (1, .int x1), (2, .int 5), (3, .int x3)] [.int 5, .int x1, .ref 116] (by rfl) ?_ | refine ft_go mi_k211 5 134 [(0, .ref 116), (1, .int x1), (2, .int 5), (3, .int x3)] [.int 5, .int x1, .ref 116] i a q r (by rfl) ?_
  refine ko_callPI mi_k211.1 (pc := 134) (ls := [(0, .ref 116), (1, .int x1), (2, .int 5), (3, .int x3)]) (st := [.int 5, .int x1, .ref 116]) (h := ks i a q r) (i := (.invokestatic 357, 3, 208, 0, 9, 0, 465)) (mi_k211.2 _ _ (by rfl)) (ft_invS mi_pq208 (by rfl)) (cy := mi_c208) mi_pq208 rfl (kc208_l05 hG.I hG.R ) (by decide) ?_
  intro vg2 hg2
  have z3 : vg2.toInt = 3 := hg2
  have evvg2 := kj_eq (oz1421 z3) (by decide : (3 : Int32).toInt = 3)
  subst evvg2
  first | refine fo_goS mi_k211 fz211_137_1_138 [.int x3, .int 3, .int x1, .ref 116] (by rfl) ?_ | refine ft_go mi_k211 1 138 [(0, .ref 116), (1, .int x1), (2, .int 5), (3, .int x3)] [.int x3, .int 3, .int x1, .ref 116] i a q r (by rfl) ?_
  refine ko_callI mi_k211.1 (pc := 138) (ls := [(0, .ref 116), (1, .int x1), (2, .int 5), (3, .int x3)]) (st := [.int x3, .int 3, .int x1, .ref 116]) (h := ks i a q r) (i := (.invokevirtual 360, 3, 211, 0, 9, 0, 466)) (mi_k211.2 _ _ (by rfl)) (ft_invS mi_pq211 (by rfl)) (cy := mi_c211) mi_pq211 rfl (kc211_116_l13_K5 hG.I hG.R x1 x3 (oz1339 hp0.1 hp0.2) (oz1470 hp1) (oz1568 fi_7457.1 hp2.2)) (by decide) ?_
  intro vg4 ig4 ag4 qg4 rg4 kg4 hg4
  have hGg4 := kG_call hG kg4 (by decide +kernel)
  have z5 : (ig4 7457).toInt = ((i 7457).toInt + 4) := hg4
  exact ft_ret mi_k211 (by rfl) (hP vg4 _ _ _ _ hGg4 (oz1569 z5))
def w212_116_l10_K5 : kW := ([7457], [135], [], [])
set_option maxRecDepth 100000 in
theorem kc212_116_l10_K5 {i : Nat → Int32} {a : Nat → List Int32} {q : Nat → List Int64} {r : Nat → Nat} (hI : kI i a q) (hr : kr r) (x1 : Int32) (x3 : Int32) (hp0 : ((0 : Int) ≤ x1.toInt) ∧ (x1.toInt ≤ 49)) (hp1 : ((a 134).getD x1.toNatClampNeg 0).toInt = 5) (hp2 : ((0 : Int) ≤ (i 7457).toInt) ∧ (((i 7457).toInt + 1) ≤ 900)) : km 3 212 [.ref 116, .int x1, .int 0, .int x3] (ks i a q r) (kVI w212_116_l10_K5 i a q r (fun v i1 a1 q1 r1 => (i1 7457).toInt = ((i 7457).toInt + 1))) := by
  have hG := kG_self w212_116_l10_K5 hI hr
  refine km_ofI (q := (mi_h212, mi_c212)) rfl (by decide) (Nat.le_of_ble_eq_true rfl) ?_
  intro P hP
  have r1 : ((0 : Int) ≤ ((a 134).getD x1.toNatClampNeg 0).toInt) ∧ (((a 134).getD x1.toNatClampNeg 0).toInt ≤ 7) := hG.I.2.2.1 134 (x1.toNatClampNeg)
  have fi_7457 : ((0 : Int) ≤ (i 7457).toInt) ∧ ((i 7457).toInt ≤ 1000) := hG.I.1 7457
  first | refine ft_goL mi_k212 4 39 [(0, .ref 116), (1, .int x1), (2, .int 0), (3, .int x3)] [.int 11, .ref 116] (by rfl) ?_ | refine ft_go mi_k212 4 39 [(0, .ref 116), (1, .int x1), (2, .int 0), (3, .int x3)] [.int 11, .ref 116] i a q r (by rfl) ?_
  refine ko_callN mi_k212.1 (pc := 39) (ls := [(0, .ref 116), (1, .int x1), (2, .int 0), (3, .int x3)]) (st := [.int 11, .ref 116]) (h := ks i a q r) (i := (.invokevirtual 351, 3, 209, 0, 9, 0, 464)) (mi_k212.2 _ _ (by rfl)) (ft_invS mi_pq209 (by rfl)) (cy := mi_c209) mi_pq209 rfl (kc209_116 hG.I hG.R 11 (oz1529 fi_7457.1 hp2.2)) (by decide) ?_
  intro ig2 ag2 qg2 rg2 kg2 hg2
  have hGg2 := kG_call hG kg2 (by decide +kernel)
  have z3 : (ig2 7457).toInt = ((i 7457).toInt + 1) := hg2
  first | refine fo_goS mi_k212 fz212_42_3_45 [.int (x3 ^^^ x1)] (by rfl) ?_ | refine ft_go mi_k212 3 45 [(0, .ref 116), (1, .int x1), (2, .int 0), (3, .int x3)] [.int (x3 ^^^ x1)] ig2 ag2 qg2 rg2 (by rfl) ?_
  exact ft_ret mi_k212 (by rfl) (hP (x3 ^^^ x1) _ _ _ _ hGg2 (oz1355 z3))
def w212_116_l12_K5 : kW := ([7457], [135], [], [])
set_option maxRecDepth 100000 in
theorem kc212_116_l12_K5 {i : Nat → Int32} {a : Nat → List Int32} {q : Nat → List Int64} {r : Nat → Nat} (hI : kI i a q) (hr : kr r) (x1 : Int32) (x3 : Int32) (hp0 : ((0 : Int) ≤ x1.toInt) ∧ (x1.toInt ≤ 49)) (hp1 : ((a 134).getD x1.toNatClampNeg 0).toInt = 5) (hp2 : ((0 : Int) ≤ (i 7457).toInt) ∧ (((i 7457).toInt + 1) ≤ 900)) : km 5 212 [.ref 116, .int x1, .int 2, .int x3] (ks i a q r) (kVI w212_116_l12_K5 i a q r (fun v i1 a1 q1 r1 => (i1 7457).toInt = ((i 7457).toInt + 1))) := by
  have hG := kG_self w212_116_l12_K5 hI hr
  refine km_ofI (q := (mi_h212, mi_c212)) rfl (by decide) (Nat.le_of_ble_eq_true rfl) ?_
  intro P hP
  have r1 : ((0 : Int) ≤ ((a 134).getD x1.toNatClampNeg 0).toInt) ∧ (((a 134).getD x1.toNatClampNeg 0).toInt ≤ 7) := hG.I.2.2.1 134 (x1.toNatClampNeg)
  have fi_7457 : ((0 : Int) ≤ (i 7457).toInt) ∧ ((i 7457).toInt ≤ 1000) := hG.I.1 7457
  first | refine ft_goL mi_k212 5 96 [(0, .ref 116), (1, .int x1), (2, .int 2), (3, .int x3)] [.int 2, .int x1, .ref 116] (by rfl) ?_ | refine ft_go mi_k212 5 96 [(0, .ref 116), (1, .int x1), (2, .int 2), (3, .int x3)] [.int 2, .int x1, .ref 116] i a q r (by rfl) ?_
  refine ko_callPI mi_k212.1 (pc := 96) (ls := [(0, .ref 116), (1, .int x1), (2, .int 2), (3, .int x3)]) (st := [.int 2, .int x1, .ref 116]) (h := ks i a q r) (i := (.invokestatic 357, 3, 208, 0, 9, 0, 465)) (mi_k212.2 _ _ (by rfl)) (ft_invS mi_pq208 (by rfl)) (cy := mi_c208) mi_pq208 rfl (kc208_l02 hG.I hG.R ) (by decide) ?_
  intro vg2 hg2
  have z3 : vg2.toInt = 0 := hg2
  have evvg2 := kj_eq (oz236 z3) (by decide : (0 : Int32).toInt = 0)
  subst evvg2
  first | refine fo_goS mi_k212 fz212_99_1_100 [.int x3, .int 0, .int x1, .ref 116] (by rfl) ?_ | refine ft_go mi_k212 1 100 [(0, .ref 116), (1, .int x1), (2, .int 2), (3, .int x3)] [.int x3, .int 0, .int x1, .ref 116] i a q r (by rfl) ?_
  refine ko_callI mi_k212.1 (pc := 100) (ls := [(0, .ref 116), (1, .int x1), (2, .int 2), (3, .int x3)]) (st := [.int x3, .int 0, .int x1, .ref 116]) (h := ks i a q r) (i := (.invokevirtual 363, 3, 212, 0, 9, 0, 467)) (mi_k212.2 _ _ (by rfl)) (ft_invS mi_pq212 (by rfl)) (cy := mi_c212) mi_pq212 rfl (kc212_116_l10_K5 hG.I hG.R x1 x3 (oz1339 hp0.1 hp0.2) (oz1470 hp1) (oz1354 fi_7457.1 hp2.2)) (by decide) ?_
  intro vg4 ig4 ag4 qg4 rg4 kg4 hg4
  have hGg4 := kG_call hG kg4 (by decide +kernel)
  have z5 : (ig4 7457).toInt = ((i 7457).toInt + 1) := hg4
  exact ft_ret mi_k212 (by rfl) (hP vg4 _ _ _ _ hGg4 (oz1355 z5))
def w212_116_l13_K5 : kW := ([7457], [135], [], [])
set_option maxRecDepth 100000 in
theorem kc212_116_l13_K5 {i : Nat → Int32} {a : Nat → List Int32} {q : Nat → List Int64} {r : Nat → Nat} (hI : kI i a q) (hr : kr r) (x1 : Int32) (x3 : Int32) (hp0 : ((0 : Int) ≤ x1.toInt) ∧ (x1.toInt ≤ 49)) (hp1 : ((a 134).getD x1.toNatClampNeg 0).toInt = 5) (hp2 : ((0 : Int) ≤ (i 7457).toInt) ∧ (((i 7457).toInt + 2) ≤ 900)) : km 7 212 [.ref 116, .int x1, .int 3, .int x3] (ks i a q r) (kVI w212_116_l13_K5 i a q r (fun v i1 a1 q1 r1 => (i1 7457).toInt = ((i 7457).toInt + 2))) := by
  have hG := kG_self w212_116_l13_K5 hI hr
  refine km_ofI (q := (mi_h212, mi_c212)) rfl (by decide) (Nat.le_of_ble_eq_true rfl) ?_
  intro P hP
  have r1 : ((0 : Int) ≤ ((a 134).getD x1.toNatClampNeg 0).toInt) ∧ (((a 134).getD x1.toNatClampNeg 0).toInt ≤ 7) := hG.I.2.2.1 134 (x1.toNatClampNeg)
  have fi_7457 : ((0 : Int) ≤ (i 7457).toInt) ∧ ((i 7457).toInt ≤ 1000) := hG.I.1 7457
  first | refine ft_goL mi_k212 4 49 [(0, .ref 116), (1, .int x1), (2, .int 3), (3, .int x3)] [.int 40, .ref 116] (by rfl) ?_ | refine ft_go mi_k212 4 49 [(0, .ref 116), (1, .int x1), (2, .int 3), (3, .int x3)] [.int 40, .ref 116] i a q r (by rfl) ?_
  refine ko_callN mi_k212.1 (pc := 49) (ls := [(0, .ref 116), (1, .int x1), (2, .int 3), (3, .int x3)]) (st := [.int 40, .ref 116]) (h := ks i a q r) (i := (.invokevirtual 351, 3, 209, 0, 9, 0, 464)) (mi_k212.2 _ _ (by rfl)) (ft_invS mi_pq209 (by rfl)) (cy := mi_c209) mi_pq209 rfl (kc209_116 hG.I hG.R 40 (oz1528 fi_7457.1 hp2.2)) (by decide) ?_
  intro ig2 ag2 qg2 rg2 kg2 hg2
  have hGg2 := kG_call hG kg2 (by decide +kernel)
  have fig2_7457 : ((0 : Int) ≤ (ig2 7457).toInt) ∧ ((ig2 7457).toInt ≤ 1000) := hGg2.I.1 7457
  have z3 : (ig2 7457).toInt = ((i 7457).toInt + 1) := hg2
  first | refine fo_goS mi_k212 fz212_52_4_56 [.int x3, .int 2, .int x1, .ref 116] (by rfl) ?_ | refine ft_go mi_k212 4 56 [(0, .ref 116), (1, .int x1), (2, .int 3), (3, .int x3)] [.int x3, .int 2, .int x1, .ref 116] ig2 ag2 qg2 rg2 (by rfl) ?_
  have r4 : ((0 : Int) ≤ ((ag2 134).getD x1.toNatClampNeg 0).toInt) ∧ (((ag2 134).getD x1.toNatClampNeg 0).toInt ≤ 7) := hGg2.I.2.2.1 134 (x1.toNatClampNeg)
  have u5 : ((ag2 134).getD x1.toNatClampNeg 0).toInt = ((a 134).getD x1.toNatClampNeg 0).toInt := congrArg (fun z : List Int32 => (z.getD x1.toNatClampNeg 0).toInt) (kg2.fa 134 rfl)
  refine ko_callI mi_k212.1 (pc := 56) (ls := [(0, .ref 116), (1, .int x1), (2, .int 3), (3, .int x3)]) (st := [.int x3, .int 2, .int x1, .ref 116]) (h := ks ig2 ag2 qg2 rg2) (i := (.invokevirtual 363, 3, 212, 0, 9, 0, 467)) (mi_k212.2 _ _ (by rfl)) (ft_invS mi_pq212 (by rfl)) (cy := mi_c212) mi_pq212 rfl (kc212_116_l12_K5 hGg2.I hGg2.R x1 x3 (oz1339 hp0.1 hp0.2) (oz1471 hp1 u5) (oz1530 fig2_7457.1 hp2.2 z3)) (by decide) ?_
  intro vg6 ig6 ag6 qg6 rg6 kg6 hg6
  have hGg6 := kG_call hGg2 kg6 (by decide +kernel)
  have z7 : (ig6 7457).toInt = ((ig2 7457).toInt + 1) := hg6
  have b8 : ((-2147483648 : Int) ≤ vg6.toInt) ∧ (vg6.toInt ≤ 2147483647) := kd_bd vg6
  first | refine ft_goS mi_k212 2 61 [.int (vg6 * 3)] (by rfl) ?_ | refine ft_go mi_k212 2 61 [(0, .ref 116), (1, .int x1), (2, .int 3), (3, .int x3)] [.int (vg6 * 3)] ig6 ag6 qg6 rg6 (by rfl) ?_
  exact ft_ret mi_k212 (by rfl) (hP (vg6 * 3) _ _ _ _ hGg6 (oz1531 z3 z7))
def w212_116_l15_K5 : kW := ([7457], [135], [], [])
set_option maxRecDepth 100000 in
theorem kc212_116_l15_K5 {i : Nat → Int32} {a : Nat → List Int32} {q : Nat → List Int64} {r : Nat → Nat} (hI : kI i a q) (hr : kr r) (x1 : Int32) (x3 : Int32) (hp0 : ((0 : Int) ≤ x1.toInt) ∧ (x1.toInt ≤ 49)) (hp1 : ((a 134).getD x1.toNatClampNeg 0).toInt = 5) (hp2 : ((0 : Int) ≤ (i 7457).toInt) ∧ (((i 7457).toInt + 2) ≤ 900)) : km 9 212 [.ref 116, .int x1, .int 5, .int x3] (ks i a q r) (kVI w212_116_l15_K5 i a q r (fun v i1 a1 q1 r1 => (i1 7457).toInt = ((i 7457).toInt + 2))) := by
  have hG := kG_self w212_116_l15_K5 hI hr
  refine km_ofI (q := (mi_h212, mi_c212)) rfl (by decide) (Nat.le_of_ble_eq_true rfl) ?_
  intro P hP
  have r1 : ((0 : Int) ≤ ((a 134).getD x1.toNatClampNeg 0).toInt) ∧ (((a 134).getD x1.toNatClampNeg 0).toInt ≤ 7) := hG.I.2.2.1 134 (x1.toNatClampNeg)
  have fi_7457 : ((0 : Int) ≤ (i 7457).toInt) ∧ ((i 7457).toInt ≤ 1000) := hG.I.1 7457
  first | refine ft_goL mi_k212 5 96 [(0, .ref 116), (1, .int x1), (2, .int 5), (3, .int x3)] [.int 5, .int x1, .ref 116] (by rfl) ?_ | refine ft_go mi_k212 5 96 [(0, .ref 116), (1, .int x1), (2, .int 5), (3, .int x3)] [.int 5, .int x1, .ref 116] i a q r (by rfl) ?_
  refine ko_callPI mi_k212.1 (pc := 96) (ls := [(0, .ref 116), (1, .int x1), (2, .int 5), (3, .int x3)]) (st := [.int 5, .int x1, .ref 116]) (h := ks i a q r) (i := (.invokestatic 357, 3, 208, 0, 9, 0, 465)) (mi_k212.2 _ _ (by rfl)) (ft_invS mi_pq208 (by rfl)) (cy := mi_c208) mi_pq208 rfl (kc208_l05 hG.I hG.R ) (by decide) ?_
  intro vg2 hg2
  have z3 : vg2.toInt = 3 := hg2
  have evvg2 := kj_eq (oz1421 z3) (by decide : (3 : Int32).toInt = 3)
  subst evvg2
  first | refine fo_goS mi_k212 fz212_99_1_100 [.int x3, .int 3, .int x1, .ref 116] (by rfl) ?_ | refine ft_go mi_k212 1 100 [(0, .ref 116), (1, .int x1), (2, .int 5), (3, .int x3)] [.int x3, .int 3, .int x1, .ref 116] i a q r (by rfl) ?_
  refine ko_callI mi_k212.1 (pc := 100) (ls := [(0, .ref 116), (1, .int x1), (2, .int 5), (3, .int x3)]) (st := [.int x3, .int 3, .int x1, .ref 116]) (h := ks i a q r) (i := (.invokevirtual 363, 3, 212, 0, 9, 0, 467)) (mi_k212.2 _ _ (by rfl)) (ft_invS mi_pq212 (by rfl)) (cy := mi_c212) mi_pq212 rfl (kc212_116_l13_K5 hG.I hG.R x1 x3 (oz1339 hp0.1 hp0.2) (oz1470 hp1) (oz1386 fi_7457.1 hp2.2)) (by decide) ?_
  intro vg4 ig4 ag4 qg4 rg4 kg4 hg4
  have hGg4 := kG_call hG kg4 (by decide +kernel)
  have z5 : (ig4 7457).toInt = ((i 7457).toInt + 2) := hg4
  exact ft_ret mi_k212 (by rfl) (hP vg4 _ _ _ _ hGg4 (oz1387 z5))
def w213_116_l10_K5 : kW := ([7457], [135], [], [])
set_option maxRecDepth 100000 in
theorem kc213_116_l10_K5 {i : Nat → Int32} {a : Nat → List Int32} {q : Nat → List Int64} {r : Nat → Nat} (hI : kI i a q) (hr : kr r) (x1 : Int32) (x3 : Int32) (hp0 : ((0 : Int) ≤ x1.toInt) ∧ (x1.toInt ≤ 49)) (hp1 : ((a 134).getD x1.toNatClampNeg 0).toInt = 5) (hp2 : ((0 : Int) ≤ (i 7457).toInt) ∧ (((i 7457).toInt + 7) ≤ 900)) : km 19 213 [.ref 116, .int x1, .int 0, .int x3] (ks i a q r) (kVI w213_116_l10_K5 i a q r (fun v i1 a1 q1 r1 => (i1 7457).toInt = ((i 7457).toInt + 7))) := by
  have hG := kG_self w213_116_l10_K5 hI hr
  refine km_ofI (q := (mi_h213, mi_c213)) rfl (by decide) (Nat.le_of_ble_eq_true rfl) ?_
  intro P hP
  have r1 : ((0 : Int) ≤ ((a 134).getD x1.toNatClampNeg 0).toInt) ∧ (((a 134).getD x1.toNatClampNeg 0).toInt ≤ 7) := hG.I.2.2.1 134 (x1.toNatClampNeg)
  have fi_7457 : ((0 : Int) ≤ (i 7457).toInt) ∧ ((i 7457).toInt ≤ 1000) := hG.I.1 7457
  first | refine ft_goL mi_k213 4 38 [(0, .ref 116), (1, .int x1), (2, .int 0), (3, .int x3)] [.int 2, .ref 116] (by rfl) ?_ | refine ft_go mi_k213 4 38 [(0, .ref 116), (1, .int x1), (2, .int 0), (3, .int x3)] [.int 2, .ref 116] i a q r (by rfl) ?_
  refine ko_callN mi_k213.1 (pc := 38) (ls := [(0, .ref 116), (1, .int x1), (2, .int 0), (3, .int x3)]) (st := [.int 2, .ref 116]) (h := ks i a q r) (i := (.invokevirtual 351, 3, 209, 0, 9, 0, 464)) (mi_k213.2 _ _ (by rfl)) (ft_invS mi_pq209 (by rfl)) (cy := mi_c209) mi_pq209 rfl (kc209_116 hG.I hG.R 2 (oz1550 fi_7457.1 hp2.2)) (by decide) ?_
  intro ig2 ag2 qg2 rg2 kg2 hg2
  have hGg2 := kG_call hG kg2 (by decide +kernel)
  have fig2_7457 : ((0 : Int) ≤ (ig2 7457).toInt) ∧ ((ig2 7457).toInt ≤ 1000) := hGg2.I.1 7457
  have z3 : (ig2 7457).toInt = ((i 7457).toInt + 1) := hg2
  first | refine fo_goS mi_k213 fz213_41_5_48 [.int x1, .ref 134, .int x1, .ref 116] (by rfl) ?_ | refine ft_go mi_k213 5 48 [(0, .ref 116), (1, .int x1), (2, .int 0), (3, .int x3)] [.int x1, .ref 134, .int x1, .ref 116] ig2 ag2 qg2 rg2 (by rfl) ?_
  refine ko_iald3 mi_k213.1 (n := 50) (c := 50) (ax := (0, 0, 0, 0, 0)) (mi_k213.2 _ _ (by rfl)) (by rfl) (ksG134 _ _ _ _) (hGg2.I.2.1 134) rfl (oz3 hp0.1) (oz1336 hp0.2) ?_
  have r4 : ((0 : Int) ≤ ((ag2 134).getD x1.toNatClampNeg 0).toInt) ∧ (((ag2 134).getD x1.toNatClampNeg 0).toInt ≤ 7) := hGg2.I.2.2.1 134 (x1.toNatClampNeg)
  have u5 : ((ag2 134).getD x1.toNatClampNeg 0).toInt = ((a 134).getD x1.toNatClampNeg 0).toInt := congrArg (fun z : List Int32 => (z.getD x1.toNatClampNeg 0).toInt) (kg2.fa 134 rfl)
  refine ko_top (kj_eq (oz1471 hp1 u5) (by decide) : ((ag2 134).getD x1.toNatClampNeg 0) = 5) ?_
  first | refine fo_goS mi_k213 fz213_49_1_50 [.int x3, .int 5, .int x1, .ref 116] (by rfl) ?_ | refine ft_go mi_k213 1 50 [(0, .ref 116), (1, .int x1), (2, .int 0), (3, .int x3)] [.int x3, .int 5, .int x1, .ref 116] ig2 ag2 qg2 rg2 (by rfl) ?_
  refine ko_callI mi_k213.1 (pc := 50) (ls := [(0, .ref 116), (1, .int x1), (2, .int 0), (3, .int x3)]) (st := [.int x3, .int 5, .int x1, .ref 116]) (h := ks ig2 ag2 qg2 rg2) (i := (.invokevirtual 360, 3, 211, 0, 9, 0, 466)) (mi_k213.2 _ _ (by rfl)) (ft_invS mi_pq211 (by rfl)) (cy := mi_c211) mi_pq211 rfl (kc211_116_l15_K5 hGg2.I hGg2.R x1 x3 (oz1339 hp0.1 hp0.2) (oz1471 hp1 u5) (oz1553 fig2_7457.1 hp2.2 z3)) (by decide) ?_
  intro vg6 ig6 ag6 qg6 rg6 kg6 hg6
  have hGg6 := kG_call hGg2 kg6 (by decide +kernel)
  have fig6_7457 : ((0 : Int) ≤ (ig6 7457).toInt) ∧ ((ig6 7457).toInt ≤ 1000) := hGg6.I.1 7457
  have z7 : (ig6 7457).toInt = ((ig2 7457).toInt + 4) := hg6
  first | refine fo_goL mi_k213 fz213_53_7_64 [(4, .int vg6), (0, .ref 116), (1, .int x1), (2, .int 0), (3, .int x3)] [.int x1, .ref 134, .int x1, .ref 116, .int vg6] (by rfl) ?_ | refine ft_go mi_k213 7 64 [(4, .int vg6), (0, .ref 116), (1, .int x1), (2, .int 0), (3, .int x3)] [.int x1, .ref 134, .int x1, .ref 116, .int vg6] ig6 ag6 qg6 rg6 (by rfl) ?_
  refine ko_iald3 mi_k213.1 (n := 50) (c := 50) (ax := (0, 0, 0, 0, 0)) (mi_k213.2 _ _ (by rfl)) (by rfl) (ksG134 _ _ _ _) (hGg6.I.2.1 134) rfl (oz3 hp0.1) (oz1336 hp0.2) ?_
  have r8 : ((0 : Int) ≤ ((ag6 134).getD x1.toNatClampNeg 0).toInt) ∧ (((ag6 134).getD x1.toNatClampNeg 0).toInt ≤ 7) := hGg6.I.2.2.1 134 (x1.toNatClampNeg)
  have u9 : ((ag6 134).getD x1.toNatClampNeg 0).toInt = ((ag2 134).getD x1.toNatClampNeg 0).toInt := congrArg (fun z : List Int32 => (z.getD x1.toNatClampNeg 0).toInt) (kg6.fa 134 rfl)
  refine ko_top (kj_eq (oz1570 hp1 u5 u9) (by decide) : ((ag6 134).getD x1.toNatClampNeg 0) = 5) ?_
  first | refine fo_goS mi_k213 fz213_65_1_66 [.int 1, .int 5, .int x1, .ref 116, .int vg6] (by rfl) ?_ | refine ft_go mi_k213 1 66 [(4, .int vg6), (0, .ref 116), (1, .int x1), (2, .int 0), (3, .int x3)] [.int 1, .int 5, .int x1, .ref 116, .int vg6] ig6 ag6 qg6 rg6 (by rfl) ?_
  refine ko_callI mi_k213.1 (pc := 66) (ls := [(4, .int vg6), (0, .ref 116), (1, .int x1), (2, .int 0), (3, .int x3)]) (st := [.int 1, .int 5, .int x1, .ref 116, .int vg6]) (h := ks ig6 ag6 qg6 rg6) (i := (.invokevirtual 363, 3, 212, 0, 9, 0, 467)) (mi_k213.2 _ _ (by rfl)) (ft_invS mi_pq212 (by rfl)) (cy := mi_c212) mi_pq212 rfl (kc212_116_l15_K5 hGg6.I hGg6.R x1 1 (oz1339 hp0.1 hp0.2) (oz1570 hp1 u5 u9) (oz1555 fig6_7457.1 hp2.2 z3 z7)) (by decide) ?_
  intro vg10 ig10 ag10 qg10 rg10 kg10 hg10
  have hGg10 := kG_call hGg6 kg10 (by decide +kernel)
  have z11 : (ig10 7457).toInt = ((ig6 7457).toInt + 2) := hg10
  have b12 : ((-2147483648 : Int) ≤ vg6.toInt) ∧ (vg6.toInt ≤ 2147483647) := kd_bd vg6
  have b13 : ((-2147483648 : Int) ≤ vg10.toInt) ∧ (vg10.toInt ≤ 2147483647) := kd_bd vg10
  first | refine fo_goS mi_k213 fz213_69_1_70 [.int (vg6 - vg10)] (by rfl) ?_ | refine ft_go mi_k213 1 70 [(4, .int vg6), (0, .ref 116), (1, .int x1), (2, .int 0), (3, .int x3)] [.int (vg6 - vg10)] ig10 ag10 qg10 rg10 (by rfl) ?_
  exact ft_ret mi_k213 (by rfl) (hP (vg6 - vg10) _ _ _ _ hGg10 (oz1556 z11 z3 z7))
def w213_116_l12_K5 : kW := ([7457], [135], [], [])
set_option maxRecDepth 100000 in
theorem kc213_116_l12_K5 {i : Nat → Int32} {a : Nat → List Int32} {q : Nat → List Int64} {r : Nat → Nat} (hI : kI i a q) (hr : kr r) (x1 : Int32) (x3 : Int32) (hp0 : ((0 : Int) ≤ x1.toInt) ∧ (x1.toInt ≤ 49)) (hp1 : ((a 134).getD x1.toNatClampNeg 0).toInt = 5) (hp2 : ((0 : Int) ≤ (i 7457).toInt) ∧ (((i 7457).toInt + 7) ≤ 900)) : km 21 213 [.ref 116, .int x1, .int 2, .int x3] (ks i a q r) (kVI w213_116_l12_K5 i a q r (fun v i1 a1 q1 r1 => (i1 7457).toInt = ((i 7457).toInt + 7))) := by
  have hG := kG_self w213_116_l12_K5 hI hr
  refine km_ofI (q := (mi_h213, mi_c213)) rfl (by decide) (Nat.le_of_ble_eq_true rfl) ?_
  intro P hP
  have r1 : ((0 : Int) ≤ ((a 134).getD x1.toNatClampNeg 0).toInt) ∧ (((a 134).getD x1.toNatClampNeg 0).toInt ≤ 7) := hG.I.2.2.1 134 (x1.toNatClampNeg)
  have fi_7457 : ((0 : Int) ≤ (i 7457).toInt) ∧ ((i 7457).toInt ≤ 1000) := hG.I.1 7457
  first | refine ft_goL mi_k213 5 106 [(0, .ref 116), (1, .int x1), (2, .int 2), (3, .int x3)] [.int 2, .int x1, .ref 116] (by rfl) ?_ | refine ft_go mi_k213 5 106 [(0, .ref 116), (1, .int x1), (2, .int 2), (3, .int x3)] [.int 2, .int x1, .ref 116] i a q r (by rfl) ?_
  refine ko_callPI mi_k213.1 (pc := 106) (ls := [(0, .ref 116), (1, .int x1), (2, .int 2), (3, .int x3)]) (st := [.int 2, .int x1, .ref 116]) (h := ks i a q r) (i := (.invokestatic 357, 3, 208, 0, 9, 0, 465)) (mi_k213.2 _ _ (by rfl)) (ft_invS mi_pq208 (by rfl)) (cy := mi_c208) mi_pq208 rfl (kc208_l02 hG.I hG.R ) (by decide) ?_
  intro vg2 hg2
  have z3 : vg2.toInt = 0 := hg2
  have evvg2 := kj_eq (oz236 z3) (by decide : (0 : Int32).toInt = 0)
  subst evvg2
  first | refine fo_goS mi_k213 fz213_109_1_110 [.int x3, .int 0, .int x1, .ref 116] (by rfl) ?_ | refine ft_go mi_k213 1 110 [(0, .ref 116), (1, .int x1), (2, .int 2), (3, .int x3)] [.int x3, .int 0, .int x1, .ref 116] i a q r (by rfl) ?_
  refine ko_callI mi_k213.1 (pc := 110) (ls := [(0, .ref 116), (1, .int x1), (2, .int 2), (3, .int x3)]) (st := [.int x3, .int 0, .int x1, .ref 116]) (h := ks i a q r) (i := (.invokevirtual 366, 3, 213, 0, 9, 0, 468)) (mi_k213.2 _ _ (by rfl)) (ft_invS mi_pq213 (by rfl)) (cy := mi_c213) mi_pq213 rfl (kc213_116_l10_K5 hG.I hG.R x1 x3 (oz1339 hp0.1 hp0.2) (oz1470 hp1) (oz1557 fi_7457.1 hp2.2)) (by decide) ?_
  intro vg4 ig4 ag4 qg4 rg4 kg4 hg4
  have hGg4 := kG_call hG kg4 (by decide +kernel)
  have z5 : (ig4 7457).toInt = ((i 7457).toInt + 7) := hg4
  exact ft_ret mi_k213 (by rfl) (hP vg4 _ _ _ _ hGg4 (oz1558 z5))
def w213_116_l13_K5 : kW := ([7457], [135], [], [])
set_option maxRecDepth 100000 in
theorem kc213_116_l13_K5 {i : Nat → Int32} {a : Nat → List Int32} {q : Nat → List Int64} {r : Nat → Nat} (hI : kI i a q) (hr : kr r) (x1 : Int32) (x3 : Int32) (hp0 : ((0 : Int) ≤ x1.toInt) ∧ (x1.toInt ≤ 49)) (hp1 : ((a 134).getD x1.toNatClampNeg 0).toInt = 5) (hp2 : ((0 : Int) ≤ (i 7457).toInt) ∧ (((i 7457).toInt + 7) ≤ 900)) : km 23 213 [.ref 116, .int x1, .int 3, .int x3] (ks i a q r) (kVI w213_116_l13_K5 i a q r (fun v i1 a1 q1 r1 => (i1 7457).toInt = ((i 7457).toInt + 7))) := by
  have hG := kG_self w213_116_l13_K5 hI hr
  refine km_ofI (q := (mi_h213, mi_c213)) rfl (by decide) (Nat.le_of_ble_eq_true rfl) ?_
  intro P hP
  have r1 : ((0 : Int) ≤ ((a 134).getD x1.toNatClampNeg 0).toInt) ∧ (((a 134).getD x1.toNatClampNeg 0).toInt ≤ 7) := hG.I.2.2.1 134 (x1.toNatClampNeg)
  have fi_7457 : ((0 : Int) ≤ (i 7457).toInt) ∧ ((i 7457).toInt ≤ 1000) := hG.I.1 7457
  first | refine ft_goL mi_k213 5 106 [(0, .ref 116), (1, .int x1), (2, .int 3), (3, .int x3)] [.int 3, .int x1, .ref 116] (by rfl) ?_ | refine ft_go mi_k213 5 106 [(0, .ref 116), (1, .int x1), (2, .int 3), (3, .int x3)] [.int 3, .int x1, .ref 116] i a q r (by rfl) ?_
  refine ko_callPI mi_k213.1 (pc := 106) (ls := [(0, .ref 116), (1, .int x1), (2, .int 3), (3, .int x3)]) (st := [.int 3, .int x1, .ref 116]) (h := ks i a q r) (i := (.invokestatic 357, 3, 208, 0, 9, 0, 465)) (mi_k213.2 _ _ (by rfl)) (ft_invS mi_pq208 (by rfl)) (cy := mi_c208) mi_pq208 rfl (kc208_l03 hG.I hG.R ) (by decide) ?_
  intro vg2 hg2
  have z3 : vg2.toInt = 2 := hg2
  have evvg2 := kj_eq (oz1411 z3) (by decide : (2 : Int32).toInt = 2)
  subst evvg2
  first | refine fo_goS mi_k213 fz213_109_1_110 [.int x3, .int 2, .int x1, .ref 116] (by rfl) ?_ | refine ft_go mi_k213 1 110 [(0, .ref 116), (1, .int x1), (2, .int 3), (3, .int x3)] [.int x3, .int 2, .int x1, .ref 116] i a q r (by rfl) ?_
  refine ko_callI mi_k213.1 (pc := 110) (ls := [(0, .ref 116), (1, .int x1), (2, .int 3), (3, .int x3)]) (st := [.int x3, .int 2, .int x1, .ref 116]) (h := ks i a q r) (i := (.invokevirtual 366, 3, 213, 0, 9, 0, 468)) (mi_k213.2 _ _ (by rfl)) (ft_invS mi_pq213 (by rfl)) (cy := mi_c213) mi_pq213 rfl (kc213_116_l12_K5 hG.I hG.R x1 x3 (oz1339 hp0.1 hp0.2) (oz1470 hp1) (oz1557 fi_7457.1 hp2.2)) (by decide) ?_
  intro vg4 ig4 ag4 qg4 rg4 kg4 hg4
  have hGg4 := kG_call hG kg4 (by decide +kernel)
  have z5 : (ig4 7457).toInt = ((i 7457).toInt + 7) := hg4
  exact ft_ret mi_k213 (by rfl) (hP vg4 _ _ _ _ hGg4 (oz1558 z5))
def w213_116_l15_K5 : kW := ([7457], [135], [], [])
set_option maxRecDepth 100000 in
theorem kc213_116_l15_K5 {i : Nat → Int32} {a : Nat → List Int32} {q : Nat → List Int64} {r : Nat → Nat} (hI : kI i a q) (hr : kr r) (x1 : Int32) (x3 : Int32) (hp0 : ((0 : Int) ≤ x1.toInt) ∧ (x1.toInt ≤ 49)) (hp1 : ((a 134).getD x1.toNatClampNeg 0).toInt = 5) (hp2 : ((0 : Int) ≤ (i 7457).toInt) ∧ (((i 7457).toInt + 8) ≤ 900)) : km 25 213 [.ref 116, .int x1, .int 5, .int x3] (ks i a q r) (kVI w213_116_l15_K5 i a q r (fun v i1 a1 q1 r1 => (i1 7457).toInt = ((i 7457).toInt + 8))) := by
  have hG := kG_self w213_116_l15_K5 hI hr
  refine km_ofI (q := (mi_h213, mi_c213)) rfl (by decide) (Nat.le_of_ble_eq_true rfl) ?_
  intro P hP
  have r1 : ((0 : Int) ≤ ((a 134).getD x1.toNatClampNeg 0).toInt) ∧ (((a 134).getD x1.toNatClampNeg 0).toInt ≤ 7) := hG.I.2.2.1 134 (x1.toNatClampNeg)
  have fi_7457 : ((0 : Int) ≤ (i 7457).toInt) ∧ ((i 7457).toInt ≤ 1000) := hG.I.1 7457
  first | refine ft_goL mi_k213 4 74 [(0, .ref 116), (1, .int x1), (2, .int 5), (3, .int x3)] [.int 60, .ref 116] (by rfl) ?_ | refine ft_go mi_k213 4 74 [(0, .ref 116), (1, .int x1), (2, .int 5), (3, .int x3)] [.int 60, .ref 116] i a q r (by rfl) ?_
  refine ko_callN mi_k213.1 (pc := 74) (ls := [(0, .ref 116), (1, .int x1), (2, .int 5), (3, .int x3)]) (st := [.int 60, .ref 116]) (h := ks i a q r) (i := (.invokevirtual 351, 3, 209, 0, 9, 0, 464)) (mi_k213.2 _ _ (by rfl)) (ft_invS mi_pq209 (by rfl)) (cy := mi_c209) mi_pq209 rfl (kc209_116 hG.I hG.R 60 (oz1559 fi_7457.1 hp2.2)) (by decide) ?_
  intro ig2 ag2 qg2 rg2 kg2 hg2
  have hGg2 := kG_call hG kg2 (by decide +kernel)
  have fig2_7457 : ((0 : Int) ≤ (ig2 7457).toInt) ∧ ((ig2 7457).toInt ≤ 1000) := hGg2.I.1 7457
  have z3 : (ig2 7457).toInt = ((i 7457).toInt + 1) := hg2
  first | refine ft_goS mi_k213 4 81 [.int x3, .int 3, .int x1, .ref 116] (by rfl) ?_ | refine ft_go mi_k213 4 81 [(0, .ref 116), (1, .int x1), (2, .int 5), (3, .int x3)] [.int x3, .int 3, .int x1, .ref 116] ig2 ag2 qg2 rg2 (by rfl) ?_
  have r4 : ((0 : Int) ≤ ((ag2 134).getD x1.toNatClampNeg 0).toInt) ∧ (((ag2 134).getD x1.toNatClampNeg 0).toInt ≤ 7) := hGg2.I.2.2.1 134 (x1.toNatClampNeg)
  have u5 : ((ag2 134).getD x1.toNatClampNeg 0).toInt = ((a 134).getD x1.toNatClampNeg 0).toInt := congrArg (fun z : List Int32 => (z.getD x1.toNatClampNeg 0).toInt) (kg2.fa 134 rfl)
  refine ko_callI mi_k213.1 (pc := 81) (ls := [(0, .ref 116), (1, .int x1), (2, .int 5), (3, .int x3)]) (st := [.int x3, .int 3, .int x1, .ref 116]) (h := ks ig2 ag2 qg2 rg2) (i := (.invokevirtual 366, 3, 213, 0, 9, 0, 468)) (mi_k213.2 _ _ (by rfl)) (ft_invS mi_pq213 (by rfl)) (cy := mi_c213) mi_pq213 rfl (kc213_116_l13_K5 hGg2.I hGg2.R x1 x3 (oz1339 hp0.1 hp0.2) (oz1471 hp1 u5) (oz1571 fig2_7457.1 hp2.2 z3)) (by decide) ?_
  intro vg6 ig6 ag6 qg6 rg6 kg6 hg6
  have hGg6 := kG_call hGg2 kg6 (by decide +kernel)
  have z7 : (ig6 7457).toInt = ((ig2 7457).toInt + 7) := hg6
  first | refine ft_goS mi_k213 2 86 [.int (vg6 ^^^ 5)] (by rfl) ?_ | refine ft_go mi_k213 2 86 [(0, .ref 116), (1, .int x1), (2, .int 5), (3, .int x3)] [.int (vg6 ^^^ 5)] ig6 ag6 qg6 rg6 (by rfl) ?_
  exact ft_ret mi_k213 (by rfl) (hP (vg6 ^^^ 5) _ _ _ _ hGg6 (oz1572 z3 z7))
set_option maxRecDepth 100000 in
theorem kc208_l06 {i : Nat → Int32} {a : Nat → List Int32} {q : Nat → List Int64} {r : Nat → Nat} (hI : kI i a q) (hr : kr r)  : km 1 208 [.int 6] (ks i a q r) (kPI (ks i a q r) (fun v => v.toInt = 0)) := by
  have hG := kG_self kW0 hI hr
  refine km_ofPI (q := (mi_h208, mi_c208)) rfl (by decide) (Nat.le_of_ble_eq_true rfl) ?_
  intro P hP
  first | refine ft_goL mi_k208 3 45 [(0, .int 6)] [.int 0] (by rfl) ?_ | refine ft_go mi_k208 3 45 [(0, .int 6)] [.int 0] i a q r (by rfl) ?_
  exact ft_ret mi_k208 (by rfl) (hP 0 (oz236 kn0))
def w210_116_l10_K6 : kW := ([7457], [135], [], [])
set_option maxRecDepth 100000 in
theorem kc210_116_l10_K6 {i : Nat → Int32} {a : Nat → List Int32} {q : Nat → List Int64} {r : Nat → Nat} (hI : kI i a q) (hr : kr r) (x1 : Int32) (x3 : Int32) (hp0 : ((0 : Int) ≤ x1.toInt) ∧ (x1.toInt ≤ 49)) (hp1 : ((a 134).getD x1.toNatClampNeg 0).toInt = 6) (hp2 : ((0 : Int) ≤ (i 7457).toInt) ∧ (((i 7457).toInt + 1) ≤ 900)) : km 3 210 [.ref 116, .int x1, .int 0, .int x3] (ks i a q r) (kVI w210_116_l10_K6 i a q r (fun v i1 a1 q1 r1 => (i1 7457).toInt = ((i 7457).toInt + 1))) := by
  have hG := kG_self w210_116_l10_K6 hI hr
  refine km_ofI (q := (mi_h210, mi_c210)) rfl (by decide) (Nat.le_of_ble_eq_true rfl) ?_
  intro P hP
  have r1 : ((0 : Int) ≤ ((a 134).getD x1.toNatClampNeg 0).toInt) ∧ (((a 134).getD x1.toNatClampNeg 0).toInt ≤ 7) := hG.I.2.2.1 134 (x1.toNatClampNeg)
  have fi_7457 : ((0 : Int) ≤ (i 7457).toInt) ∧ ((i 7457).toInt ≤ 1000) := hG.I.1 7457
  first | refine ft_goL mi_k210 4 38 [(0, .ref 116), (1, .int x1), (2, .int 0), (3, .int x3)] [.int 1, .ref 116] (by rfl) ?_ | refine ft_go mi_k210 4 38 [(0, .ref 116), (1, .int x1), (2, .int 0), (3, .int x3)] [.int 1, .ref 116] i a q r (by rfl) ?_
  refine ko_callN mi_k210.1 (pc := 38) (ls := [(0, .ref 116), (1, .int x1), (2, .int 0), (3, .int x3)]) (st := [.int 1, .ref 116]) (h := ks i a q r) (i := (.invokevirtual 351, 3, 209, 0, 9, 0, 464)) (mi_k210.2 _ _ (by rfl)) (ft_invS mi_pq209 (by rfl)) (cy := mi_c209) mi_pq209 rfl (kc209_116 hG.I hG.R 1 (oz1529 fi_7457.1 hp2.2)) (by decide) ?_
  intro ig2 ag2 qg2 rg2 kg2 hg2
  have hGg2 := kG_call hG kg2 (by decide +kernel)
  have z3 : (ig2 7457).toInt = ((i 7457).toInt + 1) := hg2
  have b4 : ((-2147483648 : Int) ≤ x3.toInt) ∧ (x3.toInt ≤ 2147483647) := kd_bd x3
  have b5 : ((-2147483648 : Int) ≤ x1.toInt) ∧ (x1.toInt ≤ 2147483647) := kd_bd x1
  first | refine fo_goS mi_k210 fz210_41_3_44 [.int (x3 + x1)] (by rfl) ?_ | refine ft_go mi_k210 3 44 [(0, .ref 116), (1, .int x1), (2, .int 0), (3, .int x3)] [.int (x3 + x1)] ig2 ag2 qg2 rg2 (by rfl) ?_
  exact ft_ret mi_k210 (by rfl) (hP (x3 + x1) _ _ _ _ hGg2 (oz1355 z3))
def w210_116_l16_K6 : kW := ([7457], [135], [], [])
set_option maxRecDepth 100000 in
theorem kc210_116_l16_K6 {i : Nat → Int32} {a : Nat → List Int32} {q : Nat → List Int64} {r : Nat → Nat} (hI : kI i a q) (hr : kr r) (x1 : Int32) (x3 : Int32) (hp0 : ((0 : Int) ≤ x1.toInt) ∧ (x1.toInt ≤ 49)) (hp1 : ((a 134).getD x1.toNatClampNeg 0).toInt = 6) (hp2 : ((0 : Int) ≤ (i 7457).toInt) ∧ (((i 7457).toInt + 2) ≤ 900)) : km 5 210 [.ref 116, .int x1, .int 6, .int x3] (ks i a q r) (kVI w210_116_l16_K6 i a q r (fun v i1 a1 q1 r1 => (i1 7457).toInt = ((i 7457).toInt + 2))) := by
  have hG := kG_self w210_116_l16_K6 hI hr
  refine km_ofI (q := (mi_h210, mi_c210)) rfl (by decide) (Nat.le_of_ble_eq_true rfl) ?_
  intro P hP
  have r1 : ((0 : Int) ≤ ((a 134).getD x1.toNatClampNeg 0).toInt) ∧ (((a 134).getD x1.toNatClampNeg 0).toInt ≤ 7) := hG.I.2.2.1 134 (x1.toNatClampNeg)
  have fi_7457 : ((0 : Int) ≤ (i 7457).toInt) ∧ ((i 7457).toInt ≤ 1000) := hG.I.1 7457
  first | refine ft_goL mi_k210 4 64 [(0, .ref 116), (1, .int x1), (2, .int 6), (3, .int x3)] [.int 70, .ref 116] (by rfl) ?_ | refine ft_go mi_k210 4 64 [(0, .ref 116), (1, .int x1), (2, .int 6), (3, .int x3)] [.int 70, .ref 116] i a q r (by rfl) ?_
  refine ko_callN mi_k210.1 (pc := 64) (ls := [(0, .ref 116), (1, .int x1), (2, .int 6), (3, .int x3)]) (st := [.int 70, .ref 116]) (h := ks i a q r) (i := (.invokevirtual 351, 3, 209, 0, 9, 0, 464)) (mi_k210.2 _ _ (by rfl)) (ft_invS mi_pq209 (by rfl)) (cy := mi_c209) mi_pq209 rfl (kc209_116 hG.I hG.R 70 (oz1528 fi_7457.1 hp2.2)) (by decide) ?_
  intro ig2 ag2 qg2 rg2 kg2 hg2
  have hGg2 := kG_call hG kg2 (by decide +kernel)
  have fig2_7457 : ((0 : Int) ≤ (ig2 7457).toInt) ∧ ((ig2 7457).toInt ≤ 1000) := hGg2.I.1 7457
  have z3 : (ig2 7457).toInt = ((i 7457).toInt + 1) := hg2
  first | refine ft_goS mi_k210 4 71 [.int x3, .int 0, .int x1, .ref 116] (by rfl) ?_ | refine ft_go mi_k210 4 71 [(0, .ref 116), (1, .int x1), (2, .int 6), (3, .int x3)] [.int x3, .int 0, .int x1, .ref 116] ig2 ag2 qg2 rg2 (by rfl) ?_
  have r4 : ((0 : Int) ≤ ((ag2 134).getD x1.toNatClampNeg 0).toInt) ∧ (((ag2 134).getD x1.toNatClampNeg 0).toInt ≤ 7) := hGg2.I.2.2.1 134 (x1.toNatClampNeg)
  have u5 : ((ag2 134).getD x1.toNatClampNeg 0).toInt = ((a 134).getD x1.toNatClampNeg 0).toInt := congrArg (fun z : List Int32 => (z.getD x1.toNatClampNeg 0).toInt) (kg2.fa 134 rfl)
  refine ko_callI mi_k210.1 (pc := 71) (ls := [(0, .ref 116), (1, .int x1), (2, .int 6), (3, .int x3)]) (st := [.int x3, .int 0, .int x1, .ref 116]) (h := ks ig2 ag2 qg2 rg2) (i := (.invokevirtual 354, 3, 210, 0, 9, 0, 463)) (mi_k210.2 _ _ (by rfl)) (ft_invS mi_pq210 (by rfl)) (cy := mi_c210) mi_pq210 rfl (kc210_116_l10_K6 hGg2.I hGg2.R x1 x3 (oz1339 hp0.1 hp0.2) (oz1486 hp1 u5) (oz1530 fig2_7457.1 hp2.2 z3)) (by decide) ?_
  intro vg6 ig6 ag6 qg6 rg6 kg6 hg6
  have hGg6 := kG_call hGg2 kg6 (by decide +kernel)
  have z7 : (ig6 7457).toInt = ((ig2 7457).toInt + 1) := hg6
  have b8 : ((-2147483648 : Int) ≤ vg6.toInt) ∧ (vg6.toInt ≤ 2147483647) := kd_bd vg6
  first | refine ft_goS mi_k210 2 76 [.int (vg6 * 2)] (by rfl) ?_ | refine ft_go mi_k210 2 76 [(0, .ref 116), (1, .int x1), (2, .int 6), (3, .int x3)] [.int (vg6 * 2)] ig6 ag6 qg6 rg6 (by rfl) ?_
  exact ft_ret mi_k210 (by rfl) (hP (vg6 * 2) _ _ _ _ hGg6 (oz1531 z3 z7))
def w211_116_l10_K6 : kW := ([7457], [135], [], [])
set_option maxRecDepth 100000 in
theorem kc211_116_l10_K6 {i : Nat → Int32} {a : Nat → List Int32} {q : Nat → List Int64} {r : Nat → Nat} (hI : kI i a q) (hr : kr r) (x1 : Int32) (x3 : Int32) (hp0 : ((0 : Int) ≤ x1.toInt) ∧ (x1.toInt ≤ 49)) (hp1 : ((a 134).getD x1.toNatClampNeg 0).toInt = 6) (hp2 : ((0 : Int) ≤ (i 7457).toInt) ∧ (((i 7457).toInt + 3) ≤ 900)) : km 7 211 [.ref 116, .int x1, .int 0, .int x3] (ks i a q r) (kVI w211_116_l10_K6 i a q r (fun v i1 a1 q1 r1 => (i1 7457).toInt = ((i 7457).toInt + 3))) := by
  have hG := kG_self w211_116_l10_K6 hI hr
  refine km_ofI (q := (mi_h211, mi_c211)) rfl (by decide) (Nat.le_of_ble_eq_true rfl) ?_
  intro P hP
  have r1 : ((0 : Int) ≤ ((a 134).getD x1.toNatClampNeg 0).toInt) ∧ (((a 134).getD x1.toNatClampNeg 0).toInt ≤ 7) := hG.I.2.2.1 134 (x1.toNatClampNeg)
  have fi_7457 : ((0 : Int) ≤ (i 7457).toInt) ∧ ((i 7457).toInt ≤ 1000) := hG.I.1 7457
  first | refine ft_goL mi_k211 4 51 [(0, .ref 116), (1, .int x1), (2, .int 0), (3, .int x3)] [.int 10, .ref 116] (by rfl) ?_ | refine ft_go mi_k211 4 51 [(0, .ref 116), (1, .int x1), (2, .int 0), (3, .int x3)] [.int 10, .ref 116] i a q r (by rfl) ?_
  refine ko_callN mi_k211.1 (pc := 51) (ls := [(0, .ref 116), (1, .int x1), (2, .int 0), (3, .int x3)]) (st := [.int 10, .ref 116]) (h := ks i a q r) (i := (.invokevirtual 351, 3, 209, 0, 9, 0, 464)) (mi_k211.2 _ _ (by rfl)) (ft_invS mi_pq209 (by rfl)) (cy := mi_c209) mi_pq209 rfl (kc209_116 hG.I hG.R 10 (oz1538 fi_7457.1 hp2.2)) (by decide) ?_
  intro ig2 ag2 qg2 rg2 kg2 hg2
  have hGg2 := kG_call hG kg2 (by decide +kernel)
  have fig2_7457 : ((0 : Int) ≤ (ig2 7457).toInt) ∧ ((ig2 7457).toInt ≤ 1000) := hGg2.I.1 7457
  have z3 : (ig2 7457).toInt = ((i 7457).toInt + 1) := hg2
  first | refine fo_goS mi_k211 fz211_54_5_61 [.int x1, .ref 134, .int x1, .ref 116] (by rfl) ?_ | refine ft_go mi_k211 5 61 [(0, .ref 116), (1, .int x1), (2, .int 0), (3, .int x3)] [.int x1, .ref 134, .int x1, .ref 116] ig2 ag2 qg2 rg2 (by rfl) ?_
  refine ko_iald3 mi_k211.1 (n := 50) (c := 50) (ax := (0, 0, 0, 0, 0)) (mi_k211.2 _ _ (by rfl)) (by rfl) (ksG134 _ _ _ _) (hGg2.I.2.1 134) rfl (oz3 hp0.1) (oz1336 hp0.2) ?_
  have r4 : ((0 : Int) ≤ ((ag2 134).getD x1.toNatClampNeg 0).toInt) ∧ (((ag2 134).getD x1.toNatClampNeg 0).toInt ≤ 7) := hGg2.I.2.2.1 134 (x1.toNatClampNeg)
  have u5 : ((ag2 134).getD x1.toNatClampNeg 0).toInt = ((a 134).getD x1.toNatClampNeg 0).toInt := congrArg (fun z : List Int32 => (z.getD x1.toNatClampNeg 0).toInt) (kg2.fa 134 rfl)
  refine ko_top (kj_eq (oz1486 hp1 u5) (by decide) : ((ag2 134).getD x1.toNatClampNeg 0) = 6) ?_
  first | refine fo_goS mi_k211 fz211_62_1_63 [.int x3, .int 6, .int x1, .ref 116] (by rfl) ?_ | refine ft_go mi_k211 1 63 [(0, .ref 116), (1, .int x1), (2, .int 0), (3, .int x3)] [.int x3, .int 6, .int x1, .ref 116] ig2 ag2 qg2 rg2 (by rfl) ?_
  refine ko_callI mi_k211.1 (pc := 63) (ls := [(0, .ref 116), (1, .int x1), (2, .int 0), (3, .int x3)]) (st := [.int x3, .int 6, .int x1, .ref 116]) (h := ks ig2 ag2 qg2 rg2) (i := (.invokevirtual 354, 3, 210, 0, 9, 0, 463)) (mi_k211.2 _ _ (by rfl)) (ft_invS mi_pq210 (by rfl)) (cy := mi_c210) mi_pq210 rfl (kc210_116_l16_K6 hGg2.I hGg2.R x1 x3 (oz1339 hp0.1 hp0.2) (oz1486 hp1 u5) (oz1539 fig2_7457.1 hp2.2 z3)) (by decide) ?_
  intro vg6 ig6 ag6 qg6 rg6 kg6 hg6
  have hGg6 := kG_call hGg2 kg6 (by decide +kernel)
  have z7 : (ig6 7457).toInt = ((ig2 7457).toInt + 2) := hg6
  have b8 : ((-2147483648 : Int) ≤ vg6.toInt) ∧ (vg6.toInt ≤ 2147483647) := kd_bd vg6
  first | refine fo_goS mi_k211 fz211_66_2_68 [.int (vg6 * 2)] (by rfl) ?_ | refine ft_go mi_k211 2 68 [(0, .ref 116), (1, .int x1), (2, .int 0), (3, .int x3)] [.int (vg6 * 2)] ig6 ag6 qg6 rg6 (by rfl) ?_
  exact ft_ret mi_k211 (by rfl) (hP (vg6 * 2) _ _ _ _ hGg6 (oz1540 z3 z7))
def w211_116_l16_K6 : kW := ([7457], [135], [], [])
set_option maxRecDepth 100000 in
theorem kc211_116_l16_K6 {i : Nat → Int32} {a : Nat → List Int32} {q : Nat → List Int64} {r : Nat → Nat} (hI : kI i a q) (hr : kr r) (x1 : Int32) (x3 : Int32) (hp0 : ((0 : Int) ≤ x1.toInt) ∧ (x1.toInt ≤ 49)) (hp1 : ((a 134).getD x1.toNatClampNeg 0).toInt = 6) (hp2 : ((0 : Int) ≤ (i 7457).toInt) ∧ (((i 7457).toInt + 3) ≤ 900)) : km 9 211 [.ref 116, .int x1, .int 6, .int x3] (ks i a q r) (kVI w211_116_l16_K6 i a q r (fun v i1 a1 q1 r1 => (i1 7457).toInt = ((i 7457).toInt + 3))) := by
  have hG := kG_self w211_116_l16_K6 hI hr
  refine km_ofI (q := (mi_h211, mi_c211)) rfl (by decide) (Nat.le_of_ble_eq_true rfl) ?_
  intro P hP
  have r1 : ((0 : Int) ≤ ((a 134).getD x1.toNatClampNeg 0).toInt) ∧ (((a 134).getD x1.toNatClampNeg 0).toInt ≤ 7) := hG.I.2.2.1 134 (x1.toNatClampNeg)
  have fi_7457 : ((0 : Int) ≤ (i 7457).toInt) ∧ ((i 7457).toInt ≤ 1000) := hG.I.1 7457
  first | refine ft_goL mi_k211 5 134 [(0, .ref 116), (1, .int x1), (2, .int 6), (3, .int x3)] [.int 6, .int x1, .ref 116] (by rfl) ?_ | refine ft_go mi_k211 5 134 [(0, .ref 116), (1, .int x1), (2, .int 6), (3, .int x3)] [.int 6, .int x1, .ref 116] i a q r (by rfl) ?_
  refine ko_callPI mi_k211.1 (pc := 134) (ls := [(0, .ref 116), (1, .int x1), (2, .int 6), (3, .int x3)]) (st := [.int 6, .int x1, .ref 116]) (h := ks i a q r) (i := (.invokestatic 357, 3, 208, 0, 9, 0, 465)) (mi_k211.2 _ _ (by rfl)) (ft_invS mi_pq208 (by rfl)) (cy := mi_c208) mi_pq208 rfl (kc208_l06 hG.I hG.R ) (by decide) ?_
  intro vg2 hg2
  have z3 : vg2.toInt = 0 := hg2
  have evvg2 := kj_eq (oz236 z3) (by decide : (0 : Int32).toInt = 0)
  subst evvg2
  first | refine fo_goS mi_k211 fz211_137_1_138 [.int x3, .int 0, .int x1, .ref 116] (by rfl) ?_ | refine ft_go mi_k211 1 138 [(0, .ref 116), (1, .int x1), (2, .int 6), (3, .int x3)] [.int x3, .int 0, .int x1, .ref 116] i a q r (by rfl) ?_
  refine ko_callI mi_k211.1 (pc := 138) (ls := [(0, .ref 116), (1, .int x1), (2, .int 6), (3, .int x3)]) (st := [.int x3, .int 0, .int x1, .ref 116]) (h := ks i a q r) (i := (.invokevirtual 360, 3, 211, 0, 9, 0, 466)) (mi_k211.2 _ _ (by rfl)) (ft_invS mi_pq211 (by rfl)) (cy := mi_c211) mi_pq211 rfl (kc211_116_l10_K6 hG.I hG.R x1 x3 (oz1339 hp0.1 hp0.2) (oz1484 hp1) (oz1541 fi_7457.1 hp2.2)) (by decide) ?_
  intro vg4 ig4 ag4 qg4 rg4 kg4 hg4
  have hGg4 := kG_call hG kg4 (by decide +kernel)
  have z5 : (ig4 7457).toInt = ((i 7457).toInt + 3) := hg4
  exact ft_ret mi_k211 (by rfl) (hP vg4 _ _ _ _ hGg4 (oz1542 z5))
def w212_116_l10_K6 : kW := ([7457], [135], [], [])
set_option maxRecDepth 100000 in
theorem kc212_116_l10_K6 {i : Nat → Int32} {a : Nat → List Int32} {q : Nat → List Int64} {r : Nat → Nat} (hI : kI i a q) (hr : kr r) (x1 : Int32) (x3 : Int32) (hp0 : ((0 : Int) ≤ x1.toInt) ∧ (x1.toInt ≤ 49)) (hp1 : ((a 134).getD x1.toNatClampNeg 0).toInt = 6) (hp2 : ((0 : Int) ≤ (i 7457).toInt) ∧ (((i 7457).toInt + 1) ≤ 900)) : km 3 212 [.ref 116, .int x1, .int 0, .int x3] (ks i a q r) (kVI w212_116_l10_K6 i a q r (fun v i1 a1 q1 r1 => (i1 7457).toInt = ((i 7457).toInt + 1))) := by
  have hG := kG_self w212_116_l10_K6 hI hr
  refine km_ofI (q := (mi_h212, mi_c212)) rfl (by decide) (Nat.le_of_ble_eq_true rfl) ?_
  intro P hP
  have r1 : ((0 : Int) ≤ ((a 134).getD x1.toNatClampNeg 0).toInt) ∧ (((a 134).getD x1.toNatClampNeg 0).toInt ≤ 7) := hG.I.2.2.1 134 (x1.toNatClampNeg)
  have fi_7457 : ((0 : Int) ≤ (i 7457).toInt) ∧ ((i 7457).toInt ≤ 1000) := hG.I.1 7457
  first | refine ft_goL mi_k212 4 39 [(0, .ref 116), (1, .int x1), (2, .int 0), (3, .int x3)] [.int 11, .ref 116] (by rfl) ?_ | refine ft_go mi_k212 4 39 [(0, .ref 116), (1, .int x1), (2, .int 0), (3, .int x3)] [.int 11, .ref 116] i a q r (by rfl) ?_
  refine ko_callN mi_k212.1 (pc := 39) (ls := [(0, .ref 116), (1, .int x1), (2, .int 0), (3, .int x3)]) (st := [.int 11, .ref 116]) (h := ks i a q r) (i := (.invokevirtual 351, 3, 209, 0, 9, 0, 464)) (mi_k212.2 _ _ (by rfl)) (ft_invS mi_pq209 (by rfl)) (cy := mi_c209) mi_pq209 rfl (kc209_116 hG.I hG.R 11 (oz1529 fi_7457.1 hp2.2)) (by decide) ?_
  intro ig2 ag2 qg2 rg2 kg2 hg2
  have hGg2 := kG_call hG kg2 (by decide +kernel)
  have z3 : (ig2 7457).toInt = ((i 7457).toInt + 1) := hg2
  first | refine fo_goS mi_k212 fz212_42_3_45 [.int (x3 ^^^ x1)] (by rfl) ?_ | refine ft_go mi_k212 3 45 [(0, .ref 116), (1, .int x1), (2, .int 0), (3, .int x3)] [.int (x3 ^^^ x1)] ig2 ag2 qg2 rg2 (by rfl) ?_
  exact ft_ret mi_k212 (by rfl) (hP (x3 ^^^ x1) _ _ _ _ hGg2 (oz1355 z3))
def w212_116_l16_K6 : kW := ([7457], [135], [], [])
set_option maxRecDepth 100000 in
theorem kc212_116_l16_K6 {i : Nat → Int32} {a : Nat → List Int32} {q : Nat → List Int64} {r : Nat → Nat} (hI : kI i a q) (hr : kr r) (x1 : Int32) (x3 : Int32) (hp0 : ((0 : Int) ≤ x1.toInt) ∧ (x1.toInt ≤ 49)) (hp1 : ((a 134).getD x1.toNatClampNeg 0).toInt = 6) (hp2 : ((0 : Int) ≤ (i 7457).toInt) ∧ (((i 7457).toInt + 1) ≤ 900)) : km 5 212 [.ref 116, .int x1, .int 6, .int x3] (ks i a q r) (kVI w212_116_l16_K6 i a q r (fun v i1 a1 q1 r1 => (i1 7457).toInt = ((i 7457).toInt + 1))) := by
  have hG := kG_self w212_116_l16_K6 hI hr
  refine km_ofI (q := (mi_h212, mi_c212)) rfl (by decide) (Nat.le_of_ble_eq_true rfl) ?_
  intro P hP
  have r1 : ((0 : Int) ≤ ((a 134).getD x1.toNatClampNeg 0).toInt) ∧ (((a 134).getD x1.toNatClampNeg 0).toInt ≤ 7) := hG.I.2.2.1 134 (x1.toNatClampNeg)
  have fi_7457 : ((0 : Int) ≤ (i 7457).toInt) ∧ ((i 7457).toInt ≤ 1000) := hG.I.1 7457
  first | refine ft_goL mi_k212 5 96 [(0, .ref 116), (1, .int x1), (2, .int 6), (3, .int x3)] [.int 6, .int x1, .ref 116] (by rfl) ?_ | refine ft_go mi_k212 5 96 [(0, .ref 116), (1, .int x1), (2, .int 6), (3, .int x3)] [.int 6, .int x1, .ref 116] i a q r (by rfl) ?_
  refine ko_callPI mi_k212.1 (pc := 96) (ls := [(0, .ref 116), (1, .int x1), (2, .int 6), (3, .int x3)]) (st := [.int 6, .int x1, .ref 116]) (h := ks i a q r) (i := (.invokestatic 357, 3, 208, 0, 9, 0, 465)) (mi_k212.2 _ _ (by rfl)) (ft_invS mi_pq208 (by rfl)) (cy := mi_c208) mi_pq208 rfl (kc208_l06 hG.I hG.R ) (by decide) ?_
  intro vg2 hg2
  have z3 : vg2.toInt = 0 := hg2
  have evvg2 := kj_eq (oz236 z3) (by decide : (0 : Int32).toInt = 0)
  subst evvg2
  first | refine fo_goS mi_k212 fz212_99_1_100 [.int x3, .int 0, .int x1, .ref 116] (by rfl) ?_ | refine ft_go mi_k212 1 100 [(0, .ref 116), (1, .int x1), (2, .int 6), (3, .int x3)] [.int x3, .int 0, .int x1, .ref 116] i a q r (by rfl) ?_
  refine ko_callI mi_k212.1 (pc := 100) (ls := [(0, .ref 116), (1, .int x1), (2, .int 6), (3, .int x3)]) (st := [.int x3, .int 0, .int x1, .ref 116]) (h := ks i a q r) (i := (.invokevirtual 363, 3, 212, 0, 9, 0, 467)) (mi_k212.2 _ _ (by rfl)) (ft_invS mi_pq212 (by rfl)) (cy := mi_c212) mi_pq212 rfl (kc212_116_l10_K6 hG.I hG.R x1 x3 (oz1339 hp0.1 hp0.2) (oz1484 hp1) (oz1354 fi_7457.1 hp2.2)) (by decide) ?_
  intro vg4 ig4 ag4 qg4 rg4 kg4 hg4
  have hGg4 := kG_call hG kg4 (by decide +kernel)
  have z5 : (ig4 7457).toInt = ((i 7457).toInt + 1) := hg4
  exact ft_ret mi_k212 (by rfl) (hP vg4 _ _ _ _ hGg4 (oz1355 z5))
def w213_116_l10_K6 : kW := ([7457], [135], [], [])
set_option maxRecDepth 100000 in
theorem kc213_116_l10_K6 {i : Nat → Int32} {a : Nat → List Int32} {q : Nat → List Int64} {r : Nat → Nat} (hI : kI i a q) (hr : kr r) (x1 : Int32) (x3 : Int32) (hp0 : ((0 : Int) ≤ x1.toInt) ∧ (x1.toInt ≤ 49)) (hp1 : ((a 134).getD x1.toNatClampNeg 0).toInt = 6) (hp2 : ((0 : Int) ≤ (i 7457).toInt) ∧ (((i 7457).toInt + 5) ≤ 900)) : km 11 213 [.ref 116, .int x1, .int 0, .int x3] (ks i a q r) (kVI w213_116_l10_K6 i a q r (fun v i1 a1 q1 r1 => (i1 7457).toInt = ((i 7457).toInt + 5))) := by
  have hG := kG_self w213_116_l10_K6 hI hr
  refine km_ofI (q := (mi_h213, mi_c213)) rfl (by decide) (Nat.le_of_ble_eq_true rfl) ?_
  intro P hP
  have r1 : ((0 : Int) ≤ ((a 134).getD x1.toNatClampNeg 0).toInt) ∧ (((a 134).getD x1.toNatClampNeg 0).toInt ≤ 7) := hG.I.2.2.1 134 (x1.toNatClampNeg)
  have fi_7457 : ((0 : Int) ≤ (i 7457).toInt) ∧ ((i 7457).toInt ≤ 1000) := hG.I.1 7457
  first | refine ft_goL mi_k213 4 38 [(0, .ref 116), (1, .int x1), (2, .int 0), (3, .int x3)] [.int 2, .ref 116] (by rfl) ?_ | refine ft_go mi_k213 4 38 [(0, .ref 116), (1, .int x1), (2, .int 0), (3, .int x3)] [.int 2, .ref 116] i a q r (by rfl) ?_
  refine ko_callN mi_k213.1 (pc := 38) (ls := [(0, .ref 116), (1, .int x1), (2, .int 0), (3, .int x3)]) (st := [.int 2, .ref 116]) (h := ks i a q r) (i := (.invokevirtual 351, 3, 209, 0, 9, 0, 464)) (mi_k213.2 _ _ (by rfl)) (ft_invS mi_pq209 (by rfl)) (cy := mi_c209) mi_pq209 rfl (kc209_116 hG.I hG.R 2 (oz1537 fi_7457.1 hp2.2)) (by decide) ?_
  intro ig2 ag2 qg2 rg2 kg2 hg2
  have hGg2 := kG_call hG kg2 (by decide +kernel)
  have fig2_7457 : ((0 : Int) ≤ (ig2 7457).toInt) ∧ ((ig2 7457).toInt ≤ 1000) := hGg2.I.1 7457
  have z3 : (ig2 7457).toInt = ((i 7457).toInt + 1) := hg2
  first | refine fo_goS mi_k213 fz213_41_5_48 [.int x1, .ref 134, .int x1, .ref 116] (by rfl) ?_ | refine ft_go mi_k213 5 48 [(0, .ref 116), (1, .int x1), (2, .int 0), (3, .int x3)] [.int x1, .ref 134, .int x1, .ref 116] ig2 ag2 qg2 rg2 (by rfl) ?_
  refine ko_iald3 mi_k213.1 (n := 50) (c := 50) (ax := (0, 0, 0, 0, 0)) (mi_k213.2 _ _ (by rfl)) (by rfl) (ksG134 _ _ _ _) (hGg2.I.2.1 134) rfl (oz3 hp0.1) (oz1336 hp0.2) ?_
  have r4 : ((0 : Int) ≤ ((ag2 134).getD x1.toNatClampNeg 0).toInt) ∧ (((ag2 134).getD x1.toNatClampNeg 0).toInt ≤ 7) := hGg2.I.2.2.1 134 (x1.toNatClampNeg)
  have u5 : ((ag2 134).getD x1.toNatClampNeg 0).toInt = ((a 134).getD x1.toNatClampNeg 0).toInt := congrArg (fun z : List Int32 => (z.getD x1.toNatClampNeg 0).toInt) (kg2.fa 134 rfl)
  refine ko_top (kj_eq (oz1486 hp1 u5) (by decide) : ((ag2 134).getD x1.toNatClampNeg 0) = 6) ?_
  first | refine fo_goS mi_k213 fz213_49_1_50 [.int x3, .int 6, .int x1, .ref 116] (by rfl) ?_ | refine ft_go mi_k213 1 50 [(0, .ref 116), (1, .int x1), (2, .int 0), (3, .int x3)] [.int x3, .int 6, .int x1, .ref 116] ig2 ag2 qg2 rg2 (by rfl) ?_
  refine ko_callI mi_k213.1 (pc := 50) (ls := [(0, .ref 116), (1, .int x1), (2, .int 0), (3, .int x3)]) (st := [.int x3, .int 6, .int x1, .ref 116]) (h := ks ig2 ag2 qg2 rg2) (i := (.invokevirtual 360, 3, 211, 0, 9, 0, 466)) (mi_k213.2 _ _ (by rfl)) (ft_invS mi_pq211 (by rfl)) (cy := mi_c211) mi_pq211 rfl (kc211_116_l16_K6 hGg2.I hGg2.R x1 x3 (oz1339 hp0.1 hp0.2) (oz1486 hp1 u5) (oz1543 fig2_7457.1 hp2.2 z3)) (by decide) ?_
  intro vg6 ig6 ag6 qg6 rg6 kg6 hg6
  have hGg6 := kG_call hGg2 kg6 (by decide +kernel)
  have fig6_7457 : ((0 : Int) ≤ (ig6 7457).toInt) ∧ ((ig6 7457).toInt ≤ 1000) := hGg6.I.1 7457
  have z7 : (ig6 7457).toInt = ((ig2 7457).toInt + 3) := hg6
  first | refine fo_goL mi_k213 fz213_53_7_64 [(4, .int vg6), (0, .ref 116), (1, .int x1), (2, .int 0), (3, .int x3)] [.int x1, .ref 134, .int x1, .ref 116, .int vg6] (by rfl) ?_ | refine ft_go mi_k213 7 64 [(4, .int vg6), (0, .ref 116), (1, .int x1), (2, .int 0), (3, .int x3)] [.int x1, .ref 134, .int x1, .ref 116, .int vg6] ig6 ag6 qg6 rg6 (by rfl) ?_
  refine ko_iald3 mi_k213.1 (n := 50) (c := 50) (ax := (0, 0, 0, 0, 0)) (mi_k213.2 _ _ (by rfl)) (by rfl) (ksG134 _ _ _ _) (hGg6.I.2.1 134) rfl (oz3 hp0.1) (oz1336 hp0.2) ?_
  have r8 : ((0 : Int) ≤ ((ag6 134).getD x1.toNatClampNeg 0).toInt) ∧ (((ag6 134).getD x1.toNatClampNeg 0).toInt ≤ 7) := hGg6.I.2.2.1 134 (x1.toNatClampNeg)
  have u9 : ((ag6 134).getD x1.toNatClampNeg 0).toInt = ((ag2 134).getD x1.toNatClampNeg 0).toInt := congrArg (fun z : List Int32 => (z.getD x1.toNatClampNeg 0).toInt) (kg6.fa 134 rfl)
  refine ko_top (kj_eq (oz1573 hp1 u5 u9) (by decide) : ((ag6 134).getD x1.toNatClampNeg 0) = 6) ?_
  first | refine fo_goS mi_k213 fz213_65_1_66 [.int 1, .int 6, .int x1, .ref 116, .int vg6] (by rfl) ?_ | refine ft_go mi_k213 1 66 [(4, .int vg6), (0, .ref 116), (1, .int x1), (2, .int 0), (3, .int x3)] [.int 1, .int 6, .int x1, .ref 116, .int vg6] ig6 ag6 qg6 rg6 (by rfl) ?_
  refine ko_callI mi_k213.1 (pc := 66) (ls := [(4, .int vg6), (0, .ref 116), (1, .int x1), (2, .int 0), (3, .int x3)]) (st := [.int 1, .int 6, .int x1, .ref 116, .int vg6]) (h := ks ig6 ag6 qg6 rg6) (i := (.invokevirtual 363, 3, 212, 0, 9, 0, 467)) (mi_k213.2 _ _ (by rfl)) (ft_invS mi_pq212 (by rfl)) (cy := mi_c212) mi_pq212 rfl (kc212_116_l16_K6 hGg6.I hGg6.R x1 1 (oz1339 hp0.1 hp0.2) (oz1573 hp1 u5 u9) (oz1545 fig6_7457.1 hp2.2 z3 z7)) (by decide) ?_
  intro vg10 ig10 ag10 qg10 rg10 kg10 hg10
  have hGg10 := kG_call hGg6 kg10 (by decide +kernel)
  have z11 : (ig10 7457).toInt = ((ig6 7457).toInt + 1) := hg10
  have b12 : ((-2147483648 : Int) ≤ vg6.toInt) ∧ (vg6.toInt ≤ 2147483647) := kd_bd vg6
  have b13 : ((-2147483648 : Int) ≤ vg10.toInt) ∧ (vg10.toInt ≤ 2147483647) := kd_bd vg10
  first | refine fo_goS mi_k213 fz213_69_1_70 [.int (vg6 - vg10)] (by rfl) ?_ | refine ft_go mi_k213 1 70 [(4, .int vg6), (0, .ref 116), (1, .int x1), (2, .int 0), (3, .int x3)] [.int (vg6 - vg10)] ig10 ag10 qg10 rg10 (by rfl) ?_
  exact ft_ret mi_k213 (by rfl) (hP (vg6 - vg10) _ _ _ _ hGg10 (oz1546 z11 z3 z7))
def w213_116_l16_K6 : kW := ([7457], [135], [], [])
set_option maxRecDepth 100000 in
theorem kc213_116_l16_K6 {i : Nat → Int32} {a : Nat → List Int32} {q : Nat → List Int64} {r : Nat → Nat} (hI : kI i a q) (hr : kr r) (x1 : Int32) (x3 : Int32) (hp0 : ((0 : Int) ≤ x1.toInt) ∧ (x1.toInt ≤ 49)) (hp1 : ((a 134).getD x1.toNatClampNeg 0).toInt = 6) (hp2 : ((0 : Int) ≤ (i 7457).toInt) ∧ (((i 7457).toInt + 5) ≤ 900)) : km 13 213 [.ref 116, .int x1, .int 6, .int x3] (ks i a q r) (kVI w213_116_l16_K6 i a q r (fun v i1 a1 q1 r1 => (i1 7457).toInt = ((i 7457).toInt + 5))) := by
  have hG := kG_self w213_116_l16_K6 hI hr
  refine km_ofI (q := (mi_h213, mi_c213)) rfl (by decide) (Nat.le_of_ble_eq_true rfl) ?_
  intro P hP
  have r1 : ((0 : Int) ≤ ((a 134).getD x1.toNatClampNeg 0).toInt) ∧ (((a 134).getD x1.toNatClampNeg 0).toInt ≤ 7) := hG.I.2.2.1 134 (x1.toNatClampNeg)
  have fi_7457 : ((0 : Int) ≤ (i 7457).toInt) ∧ ((i 7457).toInt ≤ 1000) := hG.I.1 7457
  first | refine ft_goL mi_k213 5 106 [(0, .ref 116), (1, .int x1), (2, .int 6), (3, .int x3)] [.int 6, .int x1, .ref 116] (by rfl) ?_ | refine ft_go mi_k213 5 106 [(0, .ref 116), (1, .int x1), (2, .int 6), (3, .int x3)] [.int 6, .int x1, .ref 116] i a q r (by rfl) ?_
  refine ko_callPI mi_k213.1 (pc := 106) (ls := [(0, .ref 116), (1, .int x1), (2, .int 6), (3, .int x3)]) (st := [.int 6, .int x1, .ref 116]) (h := ks i a q r) (i := (.invokestatic 357, 3, 208, 0, 9, 0, 465)) (mi_k213.2 _ _ (by rfl)) (ft_invS mi_pq208 (by rfl)) (cy := mi_c208) mi_pq208 rfl (kc208_l06 hG.I hG.R ) (by decide) ?_
  intro vg2 hg2
  have z3 : vg2.toInt = 0 := hg2
  have evvg2 := kj_eq (oz236 z3) (by decide : (0 : Int32).toInt = 0)
  subst evvg2
  first | refine fo_goS mi_k213 fz213_109_1_110 [.int x3, .int 0, .int x1, .ref 116] (by rfl) ?_ | refine ft_go mi_k213 1 110 [(0, .ref 116), (1, .int x1), (2, .int 6), (3, .int x3)] [.int x3, .int 0, .int x1, .ref 116] i a q r (by rfl) ?_
  refine ko_callI mi_k213.1 (pc := 110) (ls := [(0, .ref 116), (1, .int x1), (2, .int 6), (3, .int x3)]) (st := [.int x3, .int 0, .int x1, .ref 116]) (h := ks i a q r) (i := (.invokevirtual 366, 3, 213, 0, 9, 0, 468)) (mi_k213.2 _ _ (by rfl)) (ft_invS mi_pq213 (by rfl)) (cy := mi_c213) mi_pq213 rfl (kc213_116_l10_K6 hG.I hG.R x1 x3 (oz1339 hp0.1 hp0.2) (oz1484 hp1) (oz1547 fi_7457.1 hp2.2)) (by decide) ?_
  intro vg4 ig4 ag4 qg4 rg4 kg4 hg4
  have hGg4 := kG_call hG kg4 (by decide +kernel)
  have z5 : (ig4 7457).toInt = ((i 7457).toInt + 5) := hg4
  exact ft_ret mi_k213 (by rfl) (hP vg4 _ _ _ _ hGg4 (oz1548 z5))
set_option maxRecDepth 100000 in
theorem kc208_l07 {i : Nat → Int32} {a : Nat → List Int32} {q : Nat → List Int64} {r : Nat → Nat} (hI : kI i a q) (hr : kr r)  : km 1 208 [.int 7] (ks i a q r) (kPI (ks i a q r) (fun v => v.toInt = 4)) := by
  have hG := kG_self kW0 hI hr
  refine km_ofPI (q := (mi_h208, mi_c208)) rfl (by decide) (Nat.le_of_ble_eq_true rfl) ?_
  intro P hP
  first | refine ft_goL mi_k208 3 43 [(0, .int 7)] [.int 4] (by rfl) ?_ | refine ft_go mi_k208 3 43 [(0, .int 7)] [.int 4] i a q r (by rfl) ?_
  exact ft_ret mi_k208 (by rfl) (hP 4 (oz1446 kn4))
def w210_116_l10_K7 : kW := ([7457], [135], [], [])
set_option maxRecDepth 100000 in
theorem kc210_116_l10_K7 {i : Nat → Int32} {a : Nat → List Int32} {q : Nat → List Int64} {r : Nat → Nat} (hI : kI i a q) (hr : kr r) (x1 : Int32) (x3 : Int32) (hp0 : ((0 : Int) ≤ x1.toInt) ∧ (x1.toInt ≤ 49)) (hp1 : ((a 134).getD x1.toNatClampNeg 0).toInt = 7) (hp2 : ((0 : Int) ≤ (i 7457).toInt) ∧ (((i 7457).toInt + 1) ≤ 900)) : km 3 210 [.ref 116, .int x1, .int 0, .int x3] (ks i a q r) (kVI w210_116_l10_K7 i a q r (fun v i1 a1 q1 r1 => (i1 7457).toInt = ((i 7457).toInt + 1))) := by
  have hG := kG_self w210_116_l10_K7 hI hr
  refine km_ofI (q := (mi_h210, mi_c210)) rfl (by decide) (Nat.le_of_ble_eq_true rfl) ?_
  intro P hP
  have r1 : ((0 : Int) ≤ ((a 134).getD x1.toNatClampNeg 0).toInt) ∧ (((a 134).getD x1.toNatClampNeg 0).toInt ≤ 7) := hG.I.2.2.1 134 (x1.toNatClampNeg)
  have fi_7457 : ((0 : Int) ≤ (i 7457).toInt) ∧ ((i 7457).toInt ≤ 1000) := hG.I.1 7457
  first | refine ft_goL mi_k210 4 38 [(0, .ref 116), (1, .int x1), (2, .int 0), (3, .int x3)] [.int 1, .ref 116] (by rfl) ?_ | refine ft_go mi_k210 4 38 [(0, .ref 116), (1, .int x1), (2, .int 0), (3, .int x3)] [.int 1, .ref 116] i a q r (by rfl) ?_
  refine ko_callN mi_k210.1 (pc := 38) (ls := [(0, .ref 116), (1, .int x1), (2, .int 0), (3, .int x3)]) (st := [.int 1, .ref 116]) (h := ks i a q r) (i := (.invokevirtual 351, 3, 209, 0, 9, 0, 464)) (mi_k210.2 _ _ (by rfl)) (ft_invS mi_pq209 (by rfl)) (cy := mi_c209) mi_pq209 rfl (kc209_116 hG.I hG.R 1 (oz1529 fi_7457.1 hp2.2)) (by decide) ?_
  intro ig2 ag2 qg2 rg2 kg2 hg2
  have hGg2 := kG_call hG kg2 (by decide +kernel)
  have z3 : (ig2 7457).toInt = ((i 7457).toInt + 1) := hg2
  have b4 : ((-2147483648 : Int) ≤ x3.toInt) ∧ (x3.toInt ≤ 2147483647) := kd_bd x3
  have b5 : ((-2147483648 : Int) ≤ x1.toInt) ∧ (x1.toInt ≤ 2147483647) := kd_bd x1
  first | refine fo_goS mi_k210 fz210_41_3_44 [.int (x3 + x1)] (by rfl) ?_ | refine ft_go mi_k210 3 44 [(0, .ref 116), (1, .int x1), (2, .int 0), (3, .int x3)] [.int (x3 + x1)] ig2 ag2 qg2 rg2 (by rfl) ?_
  exact ft_ret mi_k210 (by rfl) (hP (x3 + x1) _ _ _ _ hGg2 (oz1355 z3))
def w210_116_l11_K7 : kW := ([7457], [135], [], [])
set_option maxRecDepth 100000 in
theorem kc210_116_l11_K7 {i : Nat → Int32} {a : Nat → List Int32} {q : Nat → List Int64} {r : Nat → Nat} (hI : kI i a q) (hr : kr r) (x1 : Int32) (x3 : Int32) (hp0 : ((0 : Int) ≤ x1.toInt) ∧ (x1.toInt ≤ 49)) (hp1 : ((a 134).getD x1.toNatClampNeg 0).toInt = 7) (hp2 : ((0 : Int) ≤ (i 7457).toInt) ∧ (((i 7457).toInt + 2) ≤ 900)) : km 5 210 [.ref 116, .int x1, .int 1, .int x3] (ks i a q r) (kVI w210_116_l11_K7 i a q r (fun v i1 a1 q1 r1 => (i1 7457).toInt = ((i 7457).toInt + 2))) := by
  have hG := kG_self w210_116_l11_K7 hI hr
  refine km_ofI (q := (mi_h210, mi_c210)) rfl (by decide) (Nat.le_of_ble_eq_true rfl) ?_
  intro P hP
  have r1 : ((0 : Int) ≤ ((a 134).getD x1.toNatClampNeg 0).toInt) ∧ (((a 134).getD x1.toNatClampNeg 0).toInt ≤ 7) := hG.I.2.2.1 134 (x1.toNatClampNeg)
  have fi_7457 : ((0 : Int) ≤ (i 7457).toInt) ∧ ((i 7457).toInt ≤ 1000) := hG.I.1 7457
  first | refine ft_goL mi_k210 4 48 [(0, .ref 116), (1, .int x1), (2, .int 1), (3, .int x3)] [.int 20, .ref 116] (by rfl) ?_ | refine ft_go mi_k210 4 48 [(0, .ref 116), (1, .int x1), (2, .int 1), (3, .int x3)] [.int 20, .ref 116] i a q r (by rfl) ?_
  refine ko_callN mi_k210.1 (pc := 48) (ls := [(0, .ref 116), (1, .int x1), (2, .int 1), (3, .int x3)]) (st := [.int 20, .ref 116]) (h := ks i a q r) (i := (.invokevirtual 351, 3, 209, 0, 9, 0, 464)) (mi_k210.2 _ _ (by rfl)) (ft_invS mi_pq209 (by rfl)) (cy := mi_c209) mi_pq209 rfl (kc209_116 hG.I hG.R 20 (oz1528 fi_7457.1 hp2.2)) (by decide) ?_
  intro ig2 ag2 qg2 rg2 kg2 hg2
  have hGg2 := kG_call hG kg2 (by decide +kernel)
  have fig2_7457 : ((0 : Int) ≤ (ig2 7457).toInt) ∧ ((ig2 7457).toInt ≤ 1000) := hGg2.I.1 7457
  have z3 : (ig2 7457).toInt = ((i 7457).toInt + 1) := hg2
  first | refine fo_goS mi_k210 fz210_51_4_55 [.int x3, .int 0, .int x1, .ref 116] (by rfl) ?_ | refine ft_go mi_k210 4 55 [(0, .ref 116), (1, .int x1), (2, .int 1), (3, .int x3)] [.int x3, .int 0, .int x1, .ref 116] ig2 ag2 qg2 rg2 (by rfl) ?_
  have r4 : ((0 : Int) ≤ ((ag2 134).getD x1.toNatClampNeg 0).toInt) ∧ (((ag2 134).getD x1.toNatClampNeg 0).toInt ≤ 7) := hGg2.I.2.2.1 134 (x1.toNatClampNeg)
  have u5 : ((ag2 134).getD x1.toNatClampNeg 0).toInt = ((a 134).getD x1.toNatClampNeg 0).toInt := congrArg (fun z : List Int32 => (z.getD x1.toNatClampNeg 0).toInt) (kg2.fa 134 rfl)
  refine ko_callI mi_k210.1 (pc := 55) (ls := [(0, .ref 116), (1, .int x1), (2, .int 1), (3, .int x3)]) (st := [.int x3, .int 0, .int x1, .ref 116]) (h := ks ig2 ag2 qg2 rg2) (i := (.invokevirtual 354, 3, 210, 0, 9, 0, 463)) (mi_k210.2 _ _ (by rfl)) (ft_invS mi_pq210 (by rfl)) (cy := mi_c210) mi_pq210 rfl (kc210_116_l10_K7 hGg2.I hGg2.R x1 x3 (oz1339 hp0.1 hp0.2) (oz1496 hp1 r4.2 u5) (oz1530 fig2_7457.1 hp2.2 z3)) (by decide) ?_
  intro vg6 ig6 ag6 qg6 rg6 kg6 hg6
  have hGg6 := kG_call hGg2 kg6 (by decide +kernel)
  have z7 : (ig6 7457).toInt = ((ig2 7457).toInt + 1) := hg6
  have b8 : ((-2147483648 : Int) ≤ vg6.toInt) ∧ (vg6.toInt ≤ 2147483647) := kd_bd vg6
  first | refine fo_goS mi_k210 fz210_58_2_60 [.int (vg6 + 3)] (by rfl) ?_ | refine ft_go mi_k210 2 60 [(0, .ref 116), (1, .int x1), (2, .int 1), (3, .int x3)] [.int (vg6 + 3)] ig6 ag6 qg6 rg6 (by rfl) ?_
  exact ft_ret mi_k210 (by rfl) (hP (vg6 + 3) _ _ _ _ hGg6 (oz1531 z3 z7))
def w210_116_l14_K7 : kW := ([7457], [135], [], [])
set_option maxRecDepth 100000 in
theorem kc210_116_l14_K7 {i : Nat → Int32} {a : Nat → List Int32} {q : Nat → List Int64} {r : Nat → Nat} (hI : kI i a q) (hr : kr r) (x1 : Int32) (x3 : Int32) (hp0 : ((0 : Int) ≤ x1.toInt) ∧ (x1.toInt ≤ 49)) (hp1 : ((a 134).getD x1.toNatClampNeg 0).toInt = 7) (hp2 : ((0 : Int) ≤ (i 7457).toInt) ∧ (((i 7457).toInt + 2) ≤ 900)) : km 7 210 [.ref 116, .int x1, .int 4, .int x3] (ks i a q r) (kVI w210_116_l14_K7 i a q r (fun v i1 a1 q1 r1 => (i1 7457).toInt = ((i 7457).toInt + 2))) := by
  have hG := kG_self w210_116_l14_K7 hI hr
  refine km_ofI (q := (mi_h210, mi_c210)) rfl (by decide) (Nat.le_of_ble_eq_true rfl) ?_
  intro P hP
  have r1 : ((0 : Int) ≤ ((a 134).getD x1.toNatClampNeg 0).toInt) ∧ (((a 134).getD x1.toNatClampNeg 0).toInt ≤ 7) := hG.I.2.2.1 134 (x1.toNatClampNeg)
  have fi_7457 : ((0 : Int) ≤ (i 7457).toInt) ∧ ((i 7457).toInt ≤ 1000) := hG.I.1 7457
  first | refine ft_goL mi_k210 5 80 [(0, .ref 116), (1, .int x1), (2, .int 4), (3, .int x3)] [.int 4, .int x1, .ref 116] (by rfl) ?_ | refine ft_go mi_k210 5 80 [(0, .ref 116), (1, .int x1), (2, .int 4), (3, .int x3)] [.int 4, .int x1, .ref 116] i a q r (by rfl) ?_
  refine ko_callPI mi_k210.1 (pc := 80) (ls := [(0, .ref 116), (1, .int x1), (2, .int 4), (3, .int x3)]) (st := [.int 4, .int x1, .ref 116]) (h := ks i a q r) (i := (.invokestatic 357, 3, 208, 0, 9, 0, 465)) (mi_k210.2 _ _ (by rfl)) (ft_invS mi_pq208 (by rfl)) (cy := mi_c208) mi_pq208 rfl (kc208_l04 hG.I hG.R ) (by decide) ?_
  intro vg2 hg2
  have z3 : vg2.toInt = 1 := hg2
  have evvg2 := kj_eq (oz1381 z3) (by decide : (1 : Int32).toInt = 1)
  subst evvg2
  first | refine fo_goS mi_k210 fz210_83_1_84 [.int x3, .int 1, .int x1, .ref 116] (by rfl) ?_ | refine ft_go mi_k210 1 84 [(0, .ref 116), (1, .int x1), (2, .int 4), (3, .int x3)] [.int x3, .int 1, .int x1, .ref 116] i a q r (by rfl) ?_
  refine ko_callI mi_k210.1 (pc := 84) (ls := [(0, .ref 116), (1, .int x1), (2, .int 4), (3, .int x3)]) (st := [.int x3, .int 1, .int x1, .ref 116]) (h := ks i a q r) (i := (.invokevirtual 354, 3, 210, 0, 9, 0, 463)) (mi_k210.2 _ _ (by rfl)) (ft_invS mi_pq210 (by rfl)) (cy := mi_c210) mi_pq210 rfl (kc210_116_l11_K7 hG.I hG.R x1 x3 (oz1339 hp0.1 hp0.2) (oz1495 hp1 r1.2) (oz1386 fi_7457.1 hp2.2)) (by decide) ?_
  intro vg4 ig4 ag4 qg4 rg4 kg4 hg4
  have hGg4 := kG_call hG kg4 (by decide +kernel)
  have z5 : (ig4 7457).toInt = ((i 7457).toInt + 2) := hg4
  exact ft_ret mi_k210 (by rfl) (hP vg4 _ _ _ _ hGg4 (oz1387 z5))
def w210_116_l17_K7 : kW := ([7457], [135], [], [])
set_option maxRecDepth 100000 in
theorem kc210_116_l17_K7 {i : Nat → Int32} {a : Nat → List Int32} {q : Nat → List Int64} {r : Nat → Nat} (hI : kI i a q) (hr : kr r) (x1 : Int32) (x3 : Int32) (hp0 : ((0 : Int) ≤ x1.toInt) ∧ (x1.toInt ≤ 49)) (hp1 : ((a 134).getD x1.toNatClampNeg 0).toInt = 7) (hp2 : ((0 : Int) ≤ (i 7457).toInt) ∧ (((i 7457).toInt + 2) ≤ 900)) : km 9 210 [.ref 116, .int x1, .int 7, .int x3] (ks i a q r) (kVI w210_116_l17_K7 i a q r (fun v i1 a1 q1 r1 => (i1 7457).toInt = ((i 7457).toInt + 2))) := by
  have hG := kG_self w210_116_l17_K7 hI hr
  refine km_ofI (q := (mi_h210, mi_c210)) rfl (by decide) (Nat.le_of_ble_eq_true rfl) ?_
  intro P hP
  have r1 : ((0 : Int) ≤ ((a 134).getD x1.toNatClampNeg 0).toInt) ∧ (((a 134).getD x1.toNatClampNeg 0).toInt ≤ 7) := hG.I.2.2.1 134 (x1.toNatClampNeg)
  have fi_7457 : ((0 : Int) ≤ (i 7457).toInt) ∧ ((i 7457).toInt ≤ 1000) := hG.I.1 7457
  first | refine ft_goL mi_k210 5 80 [(0, .ref 116), (1, .int x1), (2, .int 7), (3, .int x3)] [.int 7, .int x1, .ref 116] (by rfl) ?_ | refine ft_go mi_k210 5 80 [(0, .ref 116), (1, .int x1), (2, .int 7), (3, .int x3)] [.int 7, .int x1, .ref 116] i a q r (by rfl) ?_
  refine ko_callPI mi_k210.1 (pc := 80) (ls := [(0, .ref 116), (1, .int x1), (2, .int 7), (3, .int x3)]) (st := [.int 7, .int x1, .ref 116]) (h := ks i a q r) (i := (.invokestatic 357, 3, 208, 0, 9, 0, 465)) (mi_k210.2 _ _ (by rfl)) (ft_invS mi_pq208 (by rfl)) (cy := mi_c208) mi_pq208 rfl (kc208_l07 hG.I hG.R ) (by decide) ?_
  intro vg2 hg2
  have z3 : vg2.toInt = 4 := hg2
  have evvg2 := kj_eq (oz1446 z3) (by decide : (4 : Int32).toInt = 4)
  subst evvg2
  first | refine fo_goS mi_k210 fz210_83_1_84 [.int x3, .int 4, .int x1, .ref 116] (by rfl) ?_ | refine ft_go mi_k210 1 84 [(0, .ref 116), (1, .int x1), (2, .int 7), (3, .int x3)] [.int x3, .int 4, .int x1, .ref 116] i a q r (by rfl) ?_
  refine ko_callI mi_k210.1 (pc := 84) (ls := [(0, .ref 116), (1, .int x1), (2, .int 7), (3, .int x3)]) (st := [.int x3, .int 4, .int x1, .ref 116]) (h := ks i a q r) (i := (.invokevirtual 354, 3, 210, 0, 9, 0, 463)) (mi_k210.2 _ _ (by rfl)) (ft_invS mi_pq210 (by rfl)) (cy := mi_c210) mi_pq210 rfl (kc210_116_l14_K7 hG.I hG.R x1 x3 (oz1339 hp0.1 hp0.2) (oz1495 hp1 r1.2) (oz1386 fi_7457.1 hp2.2)) (by decide) ?_
  intro vg4 ig4 ag4 qg4 rg4 kg4 hg4
  have hGg4 := kG_call hG kg4 (by decide +kernel)
  have z5 : (ig4 7457).toInt = ((i 7457).toInt + 2) := hg4
  exact ft_ret mi_k210 (by rfl) (hP vg4 _ _ _ _ hGg4 (oz1387 z5))
def w211_116_l10_K7 : kW := ([7457], [135], [], [])
set_option maxRecDepth 100000 in
theorem kc211_116_l10_K7 {i : Nat → Int32} {a : Nat → List Int32} {q : Nat → List Int64} {r : Nat → Nat} (hI : kI i a q) (hr : kr r) (x1 : Int32) (x3 : Int32) (hp0 : ((0 : Int) ≤ x1.toInt) ∧ (x1.toInt ≤ 49)) (hp1 : ((a 134).getD x1.toNatClampNeg 0).toInt = 7) (hp2 : ((0 : Int) ≤ (i 7457).toInt) ∧ (((i 7457).toInt + 3) ≤ 900)) : km 11 211 [.ref 116, .int x1, .int 0, .int x3] (ks i a q r) (kVI w211_116_l10_K7 i a q r (fun v i1 a1 q1 r1 => (i1 7457).toInt = ((i 7457).toInt + 3))) := by
  have hG := kG_self w211_116_l10_K7 hI hr
  refine km_ofI (q := (mi_h211, mi_c211)) rfl (by decide) (Nat.le_of_ble_eq_true rfl) ?_
  intro P hP
  have r1 : ((0 : Int) ≤ ((a 134).getD x1.toNatClampNeg 0).toInt) ∧ (((a 134).getD x1.toNatClampNeg 0).toInt ≤ 7) := hG.I.2.2.1 134 (x1.toNatClampNeg)
  have fi_7457 : ((0 : Int) ≤ (i 7457).toInt) ∧ ((i 7457).toInt ≤ 1000) := hG.I.1 7457
  first | refine ft_goL mi_k211 4 51 [(0, .ref 116), (1, .int x1), (2, .int 0), (3, .int x3)] [.int 10, .ref 116] (by rfl) ?_ | refine ft_go mi_k211 4 51 [(0, .ref 116), (1, .int x1), (2, .int 0), (3, .int x3)] [.int 10, .ref 116] i a q r (by rfl) ?_
  refine ko_callN mi_k211.1 (pc := 51) (ls := [(0, .ref 116), (1, .int x1), (2, .int 0), (3, .int x3)]) (st := [.int 10, .ref 116]) (h := ks i a q r) (i := (.invokevirtual 351, 3, 209, 0, 9, 0, 464)) (mi_k211.2 _ _ (by rfl)) (ft_invS mi_pq209 (by rfl)) (cy := mi_c209) mi_pq209 rfl (kc209_116 hG.I hG.R 10 (oz1538 fi_7457.1 hp2.2)) (by decide) ?_
  intro ig2 ag2 qg2 rg2 kg2 hg2
  have hGg2 := kG_call hG kg2 (by decide +kernel)
  have fig2_7457 : ((0 : Int) ≤ (ig2 7457).toInt) ∧ ((ig2 7457).toInt ≤ 1000) := hGg2.I.1 7457
  have z3 : (ig2 7457).toInt = ((i 7457).toInt + 1) := hg2
  first | refine fo_goS mi_k211 fz211_54_5_61 [.int x1, .ref 134, .int x1, .ref 116] (by rfl) ?_ | refine ft_go mi_k211 5 61 [(0, .ref 116), (1, .int x1), (2, .int 0), (3, .int x3)] [.int x1, .ref 134, .int x1, .ref 116] ig2 ag2 qg2 rg2 (by rfl) ?_
  refine ko_iald3 mi_k211.1 (n := 50) (c := 50) (ax := (0, 0, 0, 0, 0)) (mi_k211.2 _ _ (by rfl)) (by rfl) (ksG134 _ _ _ _) (hGg2.I.2.1 134) rfl (oz3 hp0.1) (oz1336 hp0.2) ?_
  have r4 : ((0 : Int) ≤ ((ag2 134).getD x1.toNatClampNeg 0).toInt) ∧ (((ag2 134).getD x1.toNatClampNeg 0).toInt ≤ 7) := hGg2.I.2.2.1 134 (x1.toNatClampNeg)
  have u5 : ((ag2 134).getD x1.toNatClampNeg 0).toInt = ((a 134).getD x1.toNatClampNeg 0).toInt := congrArg (fun z : List Int32 => (z.getD x1.toNatClampNeg 0).toInt) (kg2.fa 134 rfl)
  refine ko_top (kj_eq (oz1496 hp1 r4.2 u5) (by decide) : ((ag2 134).getD x1.toNatClampNeg 0) = 7) ?_
  first | refine fo_goS mi_k211 fz211_62_1_63 [.int x3, .int 7, .int x1, .ref 116] (by rfl) ?_ | refine ft_go mi_k211 1 63 [(0, .ref 116), (1, .int x1), (2, .int 0), (3, .int x3)] [.int x3, .int 7, .int x1, .ref 116] ig2 ag2 qg2 rg2 (by rfl) ?_
  refine ko_callI mi_k211.1 (pc := 63) (ls := [(0, .ref 116), (1, .int x1), (2, .int 0), (3, .int x3)]) (st := [.int x3, .int 7, .int x1, .ref 116]) (h := ks ig2 ag2 qg2 rg2) (i := (.invokevirtual 354, 3, 210, 0, 9, 0, 463)) (mi_k211.2 _ _ (by rfl)) (ft_invS mi_pq210 (by rfl)) (cy := mi_c210) mi_pq210 rfl (kc210_116_l17_K7 hGg2.I hGg2.R x1 x3 (oz1339 hp0.1 hp0.2) (oz1496 hp1 r4.2 u5) (oz1539 fig2_7457.1 hp2.2 z3)) (by decide) ?_
  intro vg6 ig6 ag6 qg6 rg6 kg6 hg6
  have hGg6 := kG_call hGg2 kg6 (by decide +kernel)
  have z7 : (ig6 7457).toInt = ((ig2 7457).toInt + 2) := hg6
  have b8 : ((-2147483648 : Int) ≤ vg6.toInt) ∧ (vg6.toInt ≤ 2147483647) := kd_bd vg6
  first | refine fo_goS mi_k211 fz211_66_2_68 [.int (vg6 * 2)] (by rfl) ?_ | refine ft_go mi_k211 2 68 [(0, .ref 116), (1, .int x1), (2, .int 0), (3, .int x3)] [.int (vg6 * 2)] ig6 ag6 qg6 rg6 (by rfl) ?_
  exact ft_ret mi_k211 (by rfl) (hP (vg6 * 2) _ _ _ _ hGg6 (oz1540 z3 z7))
def w211_116_l11_K7 : kW := ([7457], [135], [], [])
set_option maxRecDepth 100000 in
theorem kc211_116_l11_K7 {i : Nat → Int32} {a : Nat → List Int32} {q : Nat → List Int64} {r : Nat → Nat} (hI : kI i a q) (hr : kr r) (x1 : Int32) (x3 : Int32) (hp0 : ((0 : Int) ≤ x1.toInt) ∧ (x1.toInt ≤ 49)) (hp1 : ((a 134).getD x1.toNatClampNeg 0).toInt = 7) (hp2 : ((0 : Int) ≤ (i 7457).toInt) ∧ (((i 7457).toInt + 3) ≤ 900)) : km 13 211 [.ref 116, .int x1, .int 1, .int x3] (ks i a q r) (kVI w211_116_l11_K7 i a q r (fun v i1 a1 q1 r1 => (i1 7457).toInt = ((i 7457).toInt + 3))) := by
  have hG := kG_self w211_116_l11_K7 hI hr
  refine km_ofI (q := (mi_h211, mi_c211)) rfl (by decide) (Nat.le_of_ble_eq_true rfl) ?_
  intro P hP
  have r1 : ((0 : Int) ≤ ((a 134).getD x1.toNatClampNeg 0).toInt) ∧ (((a 134).getD x1.toNatClampNeg 0).toInt ≤ 7) := hG.I.2.2.1 134 (x1.toNatClampNeg)
  have fi_7457 : ((0 : Int) ≤ (i 7457).toInt) ∧ ((i 7457).toInt ≤ 1000) := hG.I.1 7457
  first | refine ft_goL mi_k211 5 134 [(0, .ref 116), (1, .int x1), (2, .int 1), (3, .int x3)] [.int 1, .int x1, .ref 116] (by rfl) ?_ | refine ft_go mi_k211 5 134 [(0, .ref 116), (1, .int x1), (2, .int 1), (3, .int x3)] [.int 1, .int x1, .ref 116] i a q r (by rfl) ?_
  refine ko_callPI mi_k211.1 (pc := 134) (ls := [(0, .ref 116), (1, .int x1), (2, .int 1), (3, .int x3)]) (st := [.int 1, .int x1, .ref 116]) (h := ks i a q r) (i := (.invokestatic 357, 3, 208, 0, 9, 0, 465)) (mi_k211.2 _ _ (by rfl)) (ft_invS mi_pq208 (by rfl)) (cy := mi_c208) mi_pq208 rfl (kc208_l01 hG.I hG.R ) (by decide) ?_
  intro vg2 hg2
  have z3 : vg2.toInt = 0 := hg2
  have evvg2 := kj_eq (oz236 z3) (by decide : (0 : Int32).toInt = 0)
  subst evvg2
  first | refine fo_goS mi_k211 fz211_137_1_138 [.int x3, .int 0, .int x1, .ref 116] (by rfl) ?_ | refine ft_go mi_k211 1 138 [(0, .ref 116), (1, .int x1), (2, .int 1), (3, .int x3)] [.int x3, .int 0, .int x1, .ref 116] i a q r (by rfl) ?_
  refine ko_callI mi_k211.1 (pc := 138) (ls := [(0, .ref 116), (1, .int x1), (2, .int 1), (3, .int x3)]) (st := [.int x3, .int 0, .int x1, .ref 116]) (h := ks i a q r) (i := (.invokevirtual 360, 3, 211, 0, 9, 0, 466)) (mi_k211.2 _ _ (by rfl)) (ft_invS mi_pq211 (by rfl)) (cy := mi_c211) mi_pq211 rfl (kc211_116_l10_K7 hG.I hG.R x1 x3 (oz1339 hp0.1 hp0.2) (oz1495 hp1 r1.2) (oz1541 fi_7457.1 hp2.2)) (by decide) ?_
  intro vg4 ig4 ag4 qg4 rg4 kg4 hg4
  have hGg4 := kG_call hG kg4 (by decide +kernel)
  have z5 : (ig4 7457).toInt = ((i 7457).toInt + 3) := hg4
  exact ft_ret mi_k211 (by rfl) (hP vg4 _ _ _ _ hGg4 (oz1542 z5))
def w211_116_l14_K7 : kW := ([7457], [135], [], [])
set_option maxRecDepth 100000 in
theorem kc211_116_l14_K7 {i : Nat → Int32} {a : Nat → List Int32} {q : Nat → List Int64} {r : Nat → Nat} (hI : kI i a q) (hr : kr r) (x1 : Int32) (x3 : Int32) (hp0 : ((0 : Int) ≤ x1.toInt) ∧ (x1.toInt ≤ 49)) (hp1 : ((a 134).getD x1.toNatClampNeg 0).toInt = 7) (hp2 : ((0 : Int) ≤ (i 7457).toInt) ∧ (((i 7457).toInt + 3) ≤ 900)) : km 15 211 [.ref 116, .int x1, .int 4, .int x3] (ks i a q r) (kVI w211_116_l14_K7 i a q r (fun v i1 a1 q1 r1 => (i1 7457).toInt = ((i 7457).toInt + 3))) := by
  have hG := kG_self w211_116_l14_K7 hI hr
  refine km_ofI (q := (mi_h211, mi_c211)) rfl (by decide) (Nat.le_of_ble_eq_true rfl) ?_
  intro P hP
  have r1 : ((0 : Int) ≤ ((a 134).getD x1.toNatClampNeg 0).toInt) ∧ (((a 134).getD x1.toNatClampNeg 0).toInt ≤ 7) := hG.I.2.2.1 134 (x1.toNatClampNeg)
  have fi_7457 : ((0 : Int) ≤ (i 7457).toInt) ∧ ((i 7457).toInt ≤ 1000) := hG.I.1 7457
  first | refine ft_goL mi_k211 5 134 [(0, .ref 116), (1, .int x1), (2, .int 4), (3, .int x3)] [.int 4, .int x1, .ref 116] (by rfl) ?_ | refine ft_go mi_k211 5 134 [(0, .ref 116), (1, .int x1), (2, .int 4), (3, .int x3)] [.int 4, .int x1, .ref 116] i a q r (by rfl) ?_
  refine ko_callPI mi_k211.1 (pc := 134) (ls := [(0, .ref 116), (1, .int x1), (2, .int 4), (3, .int x3)]) (st := [.int 4, .int x1, .ref 116]) (h := ks i a q r) (i := (.invokestatic 357, 3, 208, 0, 9, 0, 465)) (mi_k211.2 _ _ (by rfl)) (ft_invS mi_pq208 (by rfl)) (cy := mi_c208) mi_pq208 rfl (kc208_l04 hG.I hG.R ) (by decide) ?_
  intro vg2 hg2
  have z3 : vg2.toInt = 1 := hg2
  have evvg2 := kj_eq (oz1381 z3) (by decide : (1 : Int32).toInt = 1)
  subst evvg2
  first | refine fo_goS mi_k211 fz211_137_1_138 [.int x3, .int 1, .int x1, .ref 116] (by rfl) ?_ | refine ft_go mi_k211 1 138 [(0, .ref 116), (1, .int x1), (2, .int 4), (3, .int x3)] [.int x3, .int 1, .int x1, .ref 116] i a q r (by rfl) ?_
  refine ko_callI mi_k211.1 (pc := 138) (ls := [(0, .ref 116), (1, .int x1), (2, .int 4), (3, .int x3)]) (st := [.int x3, .int 1, .int x1, .ref 116]) (h := ks i a q r) (i := (.invokevirtual 360, 3, 211, 0, 9, 0, 466)) (mi_k211.2 _ _ (by rfl)) (ft_invS mi_pq211 (by rfl)) (cy := mi_c211) mi_pq211 rfl (kc211_116_l11_K7 hG.I hG.R x1 x3 (oz1339 hp0.1 hp0.2) (oz1495 hp1 r1.2) (oz1541 fi_7457.1 hp2.2)) (by decide) ?_
  intro vg4 ig4 ag4 qg4 rg4 kg4 hg4
  have hGg4 := kG_call hG kg4 (by decide +kernel)
  have z5 : (ig4 7457).toInt = ((i 7457).toInt + 3) := hg4
  exact ft_ret mi_k211 (by rfl) (hP vg4 _ _ _ _ hGg4 (oz1542 z5))
def w212_116_l10_K7 : kW := ([7457], [135], [], [])
set_option maxRecDepth 100000 in
theorem kc212_116_l10_K7 {i : Nat → Int32} {a : Nat → List Int32} {q : Nat → List Int64} {r : Nat → Nat} (hI : kI i a q) (hr : kr r) (x1 : Int32) (x3 : Int32) (hp0 : ((0 : Int) ≤ x1.toInt) ∧ (x1.toInt ≤ 49)) (hp1 : ((a 134).getD x1.toNatClampNeg 0).toInt = 7) (hp2 : ((0 : Int) ≤ (i 7457).toInt) ∧ (((i 7457).toInt + 1) ≤ 900)) : km 3 212 [.ref 116, .int x1, .int 0, .int x3] (ks i a q r) (kVI w212_116_l10_K7 i a q r (fun v i1 a1 q1 r1 => (i1 7457).toInt = ((i 7457).toInt + 1))) := by
  have hG := kG_self w212_116_l10_K7 hI hr
  refine km_ofI (q := (mi_h212, mi_c212)) rfl (by decide) (Nat.le_of_ble_eq_true rfl) ?_
  intro P hP
  have r1 : ((0 : Int) ≤ ((a 134).getD x1.toNatClampNeg 0).toInt) ∧ (((a 134).getD x1.toNatClampNeg 0).toInt ≤ 7) := hG.I.2.2.1 134 (x1.toNatClampNeg)
  have fi_7457 : ((0 : Int) ≤ (i 7457).toInt) ∧ ((i 7457).toInt ≤ 1000) := hG.I.1 7457
  first | refine ft_goL mi_k212 4 39 [(0, .ref 116), (1, .int x1), (2, .int 0), (3, .int x3)] [.int 11, .ref 116] (by rfl) ?_ | refine ft_go mi_k212 4 39 [(0, .ref 116), (1, .int x1), (2, .int 0), (3, .int x3)] [.int 11, .ref 116] i a q r (by rfl) ?_
  refine ko_callN mi_k212.1 (pc := 39) (ls := [(0, .ref 116), (1, .int x1), (2, .int 0), (3, .int x3)]) (st := [.int 11, .ref 116]) (h := ks i a q r) (i := (.invokevirtual 351, 3, 209, 0, 9, 0, 464)) (mi_k212.2 _ _ (by rfl)) (ft_invS mi_pq209 (by rfl)) (cy := mi_c209) mi_pq209 rfl (kc209_116 hG.I hG.R 11 (oz1529 fi_7457.1 hp2.2)) (by decide) ?_
  intro ig2 ag2 qg2 rg2 kg2 hg2
  have hGg2 := kG_call hG kg2 (by decide +kernel)
  have z3 : (ig2 7457).toInt = ((i 7457).toInt + 1) := hg2
  first | refine fo_goS mi_k212 fz212_42_3_45 [.int (x3 ^^^ x1)] (by rfl) ?_ | refine ft_go mi_k212 3 45 [(0, .ref 116), (1, .int x1), (2, .int 0), (3, .int x3)] [.int (x3 ^^^ x1)] ig2 ag2 qg2 rg2 (by rfl) ?_
  exact ft_ret mi_k212 (by rfl) (hP (x3 ^^^ x1) _ _ _ _ hGg2 (oz1355 z3))
def w212_116_l11_K7 : kW := ([7457], [135], [], [])
set_option maxRecDepth 100000 in
theorem kc212_116_l11_K7 {i : Nat → Int32} {a : Nat → List Int32} {q : Nat → List Int64} {r : Nat → Nat} (hI : kI i a q) (hr : kr r) (x1 : Int32) (x3 : Int32) (hp0 : ((0 : Int) ≤ x1.toInt) ∧ (x1.toInt ≤ 49)) (hp1 : ((a 134).getD x1.toNatClampNeg 0).toInt = 7) (hp2 : ((0 : Int) ≤ (i 7457).toInt) ∧ (((i 7457).toInt + 1) ≤ 900)) : km 5 212 [.ref 116, .int x1, .int 1, .int x3] (ks i a q r) (kVI w212_116_l11_K7 i a q r (fun v i1 a1 q1 r1 => (i1 7457).toInt = ((i 7457).toInt + 1))) := by
  have hG := kG_self w212_116_l11_K7 hI hr
  refine km_ofI (q := (mi_h212, mi_c212)) rfl (by decide) (Nat.le_of_ble_eq_true rfl) ?_
  intro P hP
  have r1 : ((0 : Int) ≤ ((a 134).getD x1.toNatClampNeg 0).toInt) ∧ (((a 134).getD x1.toNatClampNeg 0).toInt ≤ 7) := hG.I.2.2.1 134 (x1.toNatClampNeg)
  have fi_7457 : ((0 : Int) ≤ (i 7457).toInt) ∧ ((i 7457).toInt ≤ 1000) := hG.I.1 7457
  first | refine ft_goL mi_k212 5 96 [(0, .ref 116), (1, .int x1), (2, .int 1), (3, .int x3)] [.int 1, .int x1, .ref 116] (by rfl) ?_ | refine ft_go mi_k212 5 96 [(0, .ref 116), (1, .int x1), (2, .int 1), (3, .int x3)] [.int 1, .int x1, .ref 116] i a q r (by rfl) ?_
  refine ko_callPI mi_k212.1 (pc := 96) (ls := [(0, .ref 116), (1, .int x1), (2, .int 1), (3, .int x3)]) (st := [.int 1, .int x1, .ref 116]) (h := ks i a q r) (i := (.invokestatic 357, 3, 208, 0, 9, 0, 465)) (mi_k212.2 _ _ (by rfl)) (ft_invS mi_pq208 (by rfl)) (cy := mi_c208) mi_pq208 rfl (kc208_l01 hG.I hG.R ) (by decide) ?_
  intro vg2 hg2
  have z3 : vg2.toInt = 0 := hg2
  have evvg2 := kj_eq (oz236 z3) (by decide : (0 : Int32).toInt = 0)
  subst evvg2
  first | refine fo_goS mi_k212 fz212_99_1_100 [.int x3, .int 0, .int x1, .ref 116] (by rfl) ?_ | refine ft_go mi_k212 1 100 [(0, .ref 116), (1, .int x1), (2, .int 1), (3, .int x3)] [.int x3, .int 0, .int x1, .ref 116] i a q r (by rfl) ?_
  refine ko_callI mi_k212.1 (pc := 100) (ls := [(0, .ref 116), (1, .int x1), (2, .int 1), (3, .int x3)]) (st := [.int x3, .int 0, .int x1, .ref 116]) (h := ks i a q r) (i := (.invokevirtual 363, 3, 212, 0, 9, 0, 467)) (mi_k212.2 _ _ (by rfl)) (ft_invS mi_pq212 (by rfl)) (cy := mi_c212) mi_pq212 rfl (kc212_116_l10_K7 hG.I hG.R x1 x3 (oz1339 hp0.1 hp0.2) (oz1495 hp1 r1.2) (oz1354 fi_7457.1 hp2.2)) (by decide) ?_
  intro vg4 ig4 ag4 qg4 rg4 kg4 hg4
  have hGg4 := kG_call hG kg4 (by decide +kernel)
  have z5 : (ig4 7457).toInt = ((i 7457).toInt + 1) := hg4
  exact ft_ret mi_k212 (by rfl) (hP vg4 _ _ _ _ hGg4 (oz1355 z5))
def w212_116_l14_K7 : kW := ([7457], [135], [], [])
set_option maxRecDepth 100000 in
theorem kc212_116_l14_K7 {i : Nat → Int32} {a : Nat → List Int32} {q : Nat → List Int64} {r : Nat → Nat} (hI : kI i a q) (hr : kr r) (x1 : Int32) (x3 : Int32) (hp0 : ((0 : Int) ≤ x1.toInt) ∧ (x1.toInt ≤ 49)) (hp1 : ((a 134).getD x1.toNatClampNeg 0).toInt = 7) (hp2 : ((0 : Int) ≤ (i 7457).toInt) ∧ (((i 7457).toInt + 4) ≤ 900)) : km 11 212 [.ref 116, .int x1, .int 4, .int x3] (ks i a q r) (kVI w212_116_l14_K7 i a q r (fun v i1 a1 q1 r1 => (i1 7457).toInt = ((i 7457).toInt + 4))) := by
  have hG := kG_self w212_116_l14_K7 hI hr
  refine km_ofI (q := (mi_h212, mi_c212)) rfl (by decide) (Nat.le_of_ble_eq_true rfl) ?_
  intro P hP
  have r1 : ((0 : Int) ≤ ((a 134).getD x1.toNatClampNeg 0).toInt) ∧ (((a 134).getD x1.toNatClampNeg 0).toInt ≤ 7) := hG.I.2.2.1 134 (x1.toNatClampNeg)
  have fi_7457 : ((0 : Int) ≤ (i 7457).toInt) ∧ ((i 7457).toInt ≤ 1000) := hG.I.1 7457
  first | refine ft_goL mi_k212 4 65 [(0, .ref 116), (1, .int x1), (2, .int 4), (3, .int x3)] [.int 50, .ref 116] (by rfl) ?_ | refine ft_go mi_k212 4 65 [(0, .ref 116), (1, .int x1), (2, .int 4), (3, .int x3)] [.int 50, .ref 116] i a q r (by rfl) ?_
  refine ko_callN mi_k212.1 (pc := 65) (ls := [(0, .ref 116), (1, .int x1), (2, .int 4), (3, .int x3)]) (st := [.int 50, .ref 116]) (h := ks i a q r) (i := (.invokevirtual 351, 3, 209, 0, 9, 0, 464)) (mi_k212.2 _ _ (by rfl)) (ft_invS mi_pq209 (by rfl)) (cy := mi_c209) mi_pq209 rfl (kc209_116 hG.I hG.R 50 (oz1527 fi_7457.1 hp2.2)) (by decide) ?_
  intro ig2 ag2 qg2 rg2 kg2 hg2
  have hGg2 := kG_call hG kg2 (by decide +kernel)
  have fig2_7457 : ((0 : Int) ≤ (ig2 7457).toInt) ∧ ((ig2 7457).toInt ≤ 1000) := hGg2.I.1 7457
  have z3 : (ig2 7457).toInt = ((i 7457).toInt + 1) := hg2
  first | refine fo_goS mi_k212 fz212_68_4_72 [.int x3, .int 1, .int x1, .ref 116] (by rfl) ?_ | refine ft_go mi_k212 4 72 [(0, .ref 116), (1, .int x1), (2, .int 4), (3, .int x3)] [.int x3, .int 1, .int x1, .ref 116] ig2 ag2 qg2 rg2 (by rfl) ?_
  have r4 : ((0 : Int) ≤ ((ag2 134).getD x1.toNatClampNeg 0).toInt) ∧ (((ag2 134).getD x1.toNatClampNeg 0).toInt ≤ 7) := hGg2.I.2.2.1 134 (x1.toNatClampNeg)
  have u5 : ((ag2 134).getD x1.toNatClampNeg 0).toInt = ((a 134).getD x1.toNatClampNeg 0).toInt := congrArg (fun z : List Int32 => (z.getD x1.toNatClampNeg 0).toInt) (kg2.fa 134 rfl)
  refine ko_callI mi_k212.1 (pc := 72) (ls := [(0, .ref 116), (1, .int x1), (2, .int 4), (3, .int x3)]) (st := [.int x3, .int 1, .int x1, .ref 116]) (h := ks ig2 ag2 qg2 rg2) (i := (.invokevirtual 363, 3, 212, 0, 9, 0, 467)) (mi_k212.2 _ _ (by rfl)) (ft_invS mi_pq212 (by rfl)) (cy := mi_c212) mi_pq212 rfl (kc212_116_l11_K7 hGg2.I hGg2.R x1 x3 (oz1339 hp0.1 hp0.2) (oz1496 hp1 r4.2 u5) (oz1561 fig2_7457.1 hp2.2 z3)) (by decide) ?_
  intro vg6 ig6 ag6 qg6 rg6 kg6 hg6
  have hGg6 := kG_call hGg2 kg6 (by decide +kernel)
  have fig6_7457 : ((0 : Int) ≤ (ig6 7457).toInt) ∧ ((ig6 7457).toInt ≤ 1000) := hGg6.I.1 7457
  have z7 : (ig6 7457).toInt = ((ig2 7457).toInt + 1) := hg6
  first | refine fo_goL mi_k212 fz212_75_7_86 [(4, .int vg6), (0, .ref 116), (1, .int x1), (2, .int 4), (3, .int x3)] [.int x1, .ref 134, .int x1, .ref 116, .int vg6] (by rfl) ?_ | refine ft_go mi_k212 7 86 [(4, .int vg6), (0, .ref 116), (1, .int x1), (2, .int 4), (3, .int x3)] [.int x1, .ref 134, .int x1, .ref 116, .int vg6] ig6 ag6 qg6 rg6 (by rfl) ?_
  refine ko_iald3 mi_k212.1 (n := 50) (c := 50) (ax := (0, 0, 0, 0, 0)) (mi_k212.2 _ _ (by rfl)) (by rfl) (ksG134 _ _ _ _) (hGg6.I.2.1 134) rfl (oz3 hp0.1) (oz1336 hp0.2) ?_
  have r8 : ((0 : Int) ≤ ((ag6 134).getD x1.toNatClampNeg 0).toInt) ∧ (((ag6 134).getD x1.toNatClampNeg 0).toInt ≤ 7) := hGg6.I.2.2.1 134 (x1.toNatClampNeg)
  have u9 : ((ag6 134).getD x1.toNatClampNeg 0).toInt = ((ag2 134).getD x1.toNatClampNeg 0).toInt := congrArg (fun z : List Int32 => (z.getD x1.toNatClampNeg 0).toInt) (kg6.fa 134 rfl)
  refine ko_top (kj_eq (oz1504 hp1 r8.2 u5 u9) (by decide) : ((ag6 134).getD x1.toNatClampNeg 0) = 7) ?_
  first | refine ft_goS mi_k212 1 88 [.int 2, .int 7, .int x1, .ref 116, .int vg6] (by rfl) ?_ | refine ft_go mi_k212 1 88 [(4, .int vg6), (0, .ref 116), (1, .int x1), (2, .int 4), (3, .int x3)] [.int 2, .int 7, .int x1, .ref 116, .int vg6] ig6 ag6 qg6 rg6 (by rfl) ?_
  refine ko_callI mi_k212.1 (pc := 88) (ls := [(4, .int vg6), (0, .ref 116), (1, .int x1), (2, .int 4), (3, .int x3)]) (st := [.int 2, .int 7, .int x1, .ref 116, .int vg6]) (h := ks ig6 ag6 qg6 rg6) (i := (.invokevirtual 354, 3, 210, 0, 9, 0, 463)) (mi_k212.2 _ _ (by rfl)) (ft_invS mi_pq210 (by rfl)) (cy := mi_c210) mi_pq210 rfl (kc210_116_l17_K7 hGg6.I hGg6.R x1 2 (oz1339 hp0.1 hp0.2) (oz1504 hp1 r8.2 u5 u9) (oz1562 fig6_7457.1 hp2.2 z3 z7)) (by decide) ?_
  intro vg10 ig10 ag10 qg10 rg10 kg10 hg10
  have hGg10 := kG_call hGg6 kg10 (by decide +kernel)
  have z11 : (ig10 7457).toInt = ((ig6 7457).toInt + 2) := hg10
  have b12 : ((-2147483648 : Int) ≤ vg6.toInt) ∧ (vg6.toInt ≤ 2147483647) := kd_bd vg6
  have b13 : ((-2147483648 : Int) ≤ vg10.toInt) ∧ (vg10.toInt ≤ 2147483647) := kd_bd vg10
  first | refine ft_goS mi_k212 1 92 [.int (vg6 - vg10)] (by rfl) ?_ | refine ft_go mi_k212 1 92 [(4, .int vg6), (0, .ref 116), (1, .int x1), (2, .int 4), (3, .int x3)] [.int (vg6 - vg10)] ig10 ag10 qg10 rg10 (by rfl) ?_
  exact ft_ret mi_k212 (by rfl) (hP (vg6 - vg10) _ _ _ _ hGg10 (oz1563 z11 z3 z7))
def w212_116_l17_K7 : kW := ([7457], [135], [], [])
set_option maxRecDepth 100000 in
theorem kc212_116_l17_K7 {i : Nat → Int32} {a : Nat → List Int32} {q : Nat → List Int64} {r : Nat → Nat} (hI : kI i a q) (hr : kr r) (x1 : Int32) (x3 : Int32) (hp0 : ((0 : Int) ≤ x1.toInt) ∧ (x1.toInt ≤ 49)) (hp1 : ((a 134).getD x1.toNatClampNeg 0).toInt = 7) (hp2 : ((0 : Int) ≤ (i 7457).toInt) ∧ (((i 7457).toInt + 4) ≤ 900)) : km 13 212 [.ref 116, .int x1, .int 7, .int x3] (ks i a q r) (kVI w212_116_l17_K7 i a q r (fun v i1 a1 q1 r1 => (i1 7457).toInt = ((i 7457).toInt + 4))) := by
  have hG := kG_self w212_116_l17_K7 hI hr
  refine km_ofI (q := (mi_h212, mi_c212)) rfl (by decide) (Nat.le_of_ble_eq_true rfl) ?_
  intro P hP
  have r1 : ((0 : Int) ≤ ((a 134).getD x1.toNatClampNeg 0).toInt) ∧ (((a 134).getD x1.toNatClampNeg 0).toInt ≤ 7) := hG.I.2.2.1 134 (x1.toNatClampNeg)
  have fi_7457 : ((0 : Int) ≤ (i 7457).toInt) ∧ ((i 7457).toInt ≤ 1000) := hG.I.1 7457
  first | refine ft_goL mi_k212 5 96 [(0, .ref 116), (1, .int x1), (2, .int 7), (3, .int x3)] [.int 7, .int x1, .ref 116] (by rfl) ?_ | refine ft_go mi_k212 5 96 [(0, .ref 116), (1, .int x1), (2, .int 7), (3, .int x3)] [.int 7, .int x1, .ref 116] i a q r (by rfl) ?_
  refine ko_callPI mi_k212.1 (pc := 96) (ls := [(0, .ref 116), (1, .int x1), (2, .int 7), (3, .int x3)]) (st := [.int 7, .int x1, .ref 116]) (h := ks i a q r) (i := (.invokestatic 357, 3, 208, 0, 9, 0, 465)) (mi_k212.2 _ _ (by rfl)) (ft_invS mi_pq208 (by rfl)) (cy := mi_c208) mi_pq208 rfl (kc208_l07 hG.I hG.R ) (by decide) ?_
  intro vg2 hg2
  have z3 : vg2.toInt = 4 := hg2
  have evvg2 := kj_eq (oz1446 z3) (by decide : (4 : Int32).toInt = 4)
  subst evvg2
  first | refine fo_goS mi_k212 fz212_99_1_100 [.int x3, .int 4, .int x1, .ref 116] (by rfl) ?_ | refine ft_go mi_k212 1 100 [(0, .ref 116), (1, .int x1), (2, .int 7), (3, .int x3)] [.int x3, .int 4, .int x1, .ref 116] i a q r (by rfl) ?_
  refine ko_callI mi_k212.1 (pc := 100) (ls := [(0, .ref 116), (1, .int x1), (2, .int 7), (3, .int x3)]) (st := [.int x3, .int 4, .int x1, .ref 116]) (h := ks i a q r) (i := (.invokevirtual 363, 3, 212, 0, 9, 0, 467)) (mi_k212.2 _ _ (by rfl)) (ft_invS mi_pq212 (by rfl)) (cy := mi_c212) mi_pq212 rfl (kc212_116_l14_K7 hG.I hG.R x1 x3 (oz1339 hp0.1 hp0.2) (oz1495 hp1 r1.2) (oz1568 fi_7457.1 hp2.2)) (by decide) ?_
  intro vg4 ig4 ag4 qg4 rg4 kg4 hg4
  have hGg4 := kG_call hG kg4 (by decide +kernel)
  have z5 : (ig4 7457).toInt = ((i 7457).toInt + 4) := hg4
  exact ft_ret mi_k212 (by rfl) (hP vg4 _ _ _ _ hGg4 (oz1569 z5))
def w211_116_l17_K7 : kW := ([7457], [135], [], [])
set_option maxRecDepth 100000 in
theorem kc211_116_l17_K7 {i : Nat → Int32} {a : Nat → List Int32} {q : Nat → List Int64} {r : Nat → Nat} (hI : kI i a q) (hr : kr r) (x1 : Int32) (x3 : Int32) (hp0 : ((0 : Int) ≤ x1.toInt) ∧ (x1.toInt ≤ 49)) (hp1 : ((a 134).getD x1.toNatClampNeg 0).toInt = 7) (hp2 : ((0 : Int) ≤ (i 7457).toInt) ∧ (((i 7457).toInt + 8) ≤ 900)) : km 17 211 [.ref 116, .int x1, .int 7, .int x3] (ks i a q r) (kVI w211_116_l17_K7 i a q r (fun v i1 a1 q1 r1 => (i1 7457).toInt = ((i 7457).toInt + 8))) := by
  have hG := kG_self w211_116_l17_K7 hI hr
  refine km_ofI (q := (mi_h211, mi_c211)) rfl (by decide) (Nat.le_of_ble_eq_true rfl) ?_
  intro P hP
  have r1 : ((0 : Int) ≤ ((a 134).getD x1.toNatClampNeg 0).toInt) ∧ (((a 134).getD x1.toNatClampNeg 0).toInt ≤ 7) := hG.I.2.2.1 134 (x1.toNatClampNeg)
  have fi_7457 : ((0 : Int) ≤ (i 7457).toInt) ∧ ((i 7457).toInt ≤ 1000) := hG.I.1 7457
  first | refine ft_goL mi_k211 4 103 [(0, .ref 116), (1, .int x1), (2, .int 7), (3, .int x3)] [.int 80, .ref 116] (by rfl) ?_ | refine ft_go mi_k211 4 103 [(0, .ref 116), (1, .int x1), (2, .int 7), (3, .int x3)] [.int 80, .ref 116] i a q r (by rfl) ?_
  refine ko_callN mi_k211.1 (pc := 103) (ls := [(0, .ref 116), (1, .int x1), (2, .int 7), (3, .int x3)]) (st := [.int 80, .ref 116]) (h := ks i a q r) (i := (.invokevirtual 351, 3, 209, 0, 9, 0, 464)) (mi_k211.2 _ _ (by rfl)) (ft_invS mi_pq209 (by rfl)) (cy := mi_c209) mi_pq209 rfl (kc209_116 hG.I hG.R 80 (oz1559 fi_7457.1 hp2.2)) (by decide) ?_
  intro ig2 ag2 qg2 rg2 kg2 hg2
  have hGg2 := kG_call hG kg2 (by decide +kernel)
  have fig2_7457 : ((0 : Int) ≤ (ig2 7457).toInt) ∧ ((ig2 7457).toInt ≤ 1000) := hGg2.I.1 7457
  have z3 : (ig2 7457).toInt = ((i 7457).toInt + 1) := hg2
  first | refine ft_goS mi_k211 4 110 [.int x3, .int 4, .int x1, .ref 116] (by rfl) ?_ | refine ft_go mi_k211 4 110 [(0, .ref 116), (1, .int x1), (2, .int 7), (3, .int x3)] [.int x3, .int 4, .int x1, .ref 116] ig2 ag2 qg2 rg2 (by rfl) ?_
  have r4 : ((0 : Int) ≤ ((ag2 134).getD x1.toNatClampNeg 0).toInt) ∧ (((ag2 134).getD x1.toNatClampNeg 0).toInt ≤ 7) := hGg2.I.2.2.1 134 (x1.toNatClampNeg)
  have u5 : ((ag2 134).getD x1.toNatClampNeg 0).toInt = ((a 134).getD x1.toNatClampNeg 0).toInt := congrArg (fun z : List Int32 => (z.getD x1.toNatClampNeg 0).toInt) (kg2.fa 134 rfl)
  refine ko_callI mi_k211.1 (pc := 110) (ls := [(0, .ref 116), (1, .int x1), (2, .int 7), (3, .int x3)]) (st := [.int x3, .int 4, .int x1, .ref 116]) (h := ks ig2 ag2 qg2 rg2) (i := (.invokevirtual 360, 3, 211, 0, 9, 0, 466)) (mi_k211.2 _ _ (by rfl)) (ft_invS mi_pq211 (by rfl)) (cy := mi_c211) mi_pq211 rfl (kc211_116_l14_K7 hGg2.I hGg2.R x1 x3 (oz1339 hp0.1 hp0.2) (oz1496 hp1 r4.2 u5) (oz1560 fig2_7457.1 hp2.2 z3)) (by decide) ?_
  intro vg6 ig6 ag6 qg6 rg6 kg6 hg6
  have hGg6 := kG_call hGg2 kg6 (by decide +kernel)
  have fig6_7457 : ((0 : Int) ≤ (ig6 7457).toInt) ∧ ((ig6 7457).toInt ≤ 1000) := hGg6.I.1 7457
  have z7 : (ig6 7457).toInt = ((ig2 7457).toInt + 3) := hg6
  first | refine fo_goL mi_k211 fz211_113_7_124 [(4, .int vg6), (0, .ref 116), (1, .int x1), (2, .int 7), (3, .int x3)] [.int x1, .ref 134, .int x1, .ref 116, .int vg6] (by rfl) ?_ | refine ft_go mi_k211 7 124 [(4, .int vg6), (0, .ref 116), (1, .int x1), (2, .int 7), (3, .int x3)] [.int x1, .ref 134, .int x1, .ref 116, .int vg6] ig6 ag6 qg6 rg6 (by rfl) ?_
  refine ko_iald3 mi_k211.1 (n := 50) (c := 50) (ax := (0, 0, 0, 0, 0)) (mi_k211.2 _ _ (by rfl)) (by rfl) (ksG134 _ _ _ _) (hGg6.I.2.1 134) rfl (oz3 hp0.1) (oz1336 hp0.2) ?_
  have r8 : ((0 : Int) ≤ ((ag6 134).getD x1.toNatClampNeg 0).toInt) ∧ (((ag6 134).getD x1.toNatClampNeg 0).toInt ≤ 7) := hGg6.I.2.2.1 134 (x1.toNatClampNeg)
  have u9 : ((ag6 134).getD x1.toNatClampNeg 0).toInt = ((ag2 134).getD x1.toNatClampNeg 0).toInt := congrArg (fun z : List Int32 => (z.getD x1.toNatClampNeg 0).toInt) (kg6.fa 134 rfl)
  refine ko_top (kj_eq (oz1504 hp1 r8.2 u5 u9) (by decide) : ((ag6 134).getD x1.toNatClampNeg 0) = 7) ?_
  first | refine ft_goS mi_k211 1 126 [.int 2, .int 7, .int x1, .ref 116, .int vg6] (by rfl) ?_ | refine ft_go mi_k211 1 126 [(4, .int vg6), (0, .ref 116), (1, .int x1), (2, .int 7), (3, .int x3)] [.int 2, .int 7, .int x1, .ref 116, .int vg6] ig6 ag6 qg6 rg6 (by rfl) ?_
  refine ko_callI mi_k211.1 (pc := 126) (ls := [(4, .int vg6), (0, .ref 116), (1, .int x1), (2, .int 7), (3, .int x3)]) (st := [.int 2, .int 7, .int x1, .ref 116, .int vg6]) (h := ks ig6 ag6 qg6 rg6) (i := (.invokevirtual 363, 3, 212, 0, 9, 0, 467)) (mi_k211.2 _ _ (by rfl)) (ft_invS mi_pq212 (by rfl)) (cy := mi_c212) mi_pq212 rfl (kc212_116_l17_K7 hGg6.I hGg6.R x1 2 (oz1339 hp0.1 hp0.2) (oz1504 hp1 r8.2 u5 u9) (oz1564 fig6_7457.1 hp2.2 z3 z7)) (by decide) ?_
  intro vg10 ig10 ag10 qg10 rg10 kg10 hg10
  have hGg10 := kG_call hGg6 kg10 (by decide +kernel)
  have z11 : (ig10 7457).toInt = ((ig6 7457).toInt + 4) := hg10
  have b12 : ((-2147483648 : Int) ≤ vg6.toInt) ∧ (vg6.toInt ≤ 2147483647) := kd_bd vg6
  have b13 : ((-2147483648 : Int) ≤ vg10.toInt) ∧ (vg10.toInt ≤ 2147483647) := kd_bd vg10
  first | refine ft_goS mi_k211 1 130 [.int (vg6 + vg10)] (by rfl) ?_ | refine ft_go mi_k211 1 130 [(4, .int vg6), (0, .ref 116), (1, .int x1), (2, .int 7), (3, .int x3)] [.int (vg6 + vg10)] ig10 ag10 qg10 rg10 (by rfl) ?_
  exact ft_ret mi_k211 (by rfl) (hP (vg6 + vg10) _ _ _ _ hGg10 (oz1565 z11 z3 z7))
def w213_116_l10_K7 : kW := ([7457], [135], [], [])
set_option maxRecDepth 100000 in
theorem kc213_116_l10_K7 {i : Nat → Int32} {a : Nat → List Int32} {q : Nat → List Int64} {r : Nat → Nat} (hI : kI i a q) (hr : kr r) (x1 : Int32) (x3 : Int32) (hp0 : ((0 : Int) ≤ x1.toInt) ∧ (x1.toInt ≤ 49)) (hp1 : ((a 134).getD x1.toNatClampNeg 0).toInt = 7) (hp2 : ((0 : Int) ≤ (i 7457).toInt) ∧ (((i 7457).toInt + 13) ≤ 900)) : km 19 213 [.ref 116, .int x1, .int 0, .int x3] (ks i a q r) (kVI w213_116_l10_K7 i a q r (fun v i1 a1 q1 r1 => (i1 7457).toInt = ((i 7457).toInt + 13))) := by
  have hG := kG_self w213_116_l10_K7 hI hr
  refine km_ofI (q := (mi_h213, mi_c213)) rfl (by decide) (Nat.le_of_ble_eq_true rfl) ?_
  intro P hP
  have r1 : ((0 : Int) ≤ ((a 134).getD x1.toNatClampNeg 0).toInt) ∧ (((a 134).getD x1.toNatClampNeg 0).toInt ≤ 7) := hG.I.2.2.1 134 (x1.toNatClampNeg)
  have fi_7457 : ((0 : Int) ≤ (i 7457).toInt) ∧ ((i 7457).toInt ≤ 1000) := hG.I.1 7457
  first | refine ft_goL mi_k213 4 38 [(0, .ref 116), (1, .int x1), (2, .int 0), (3, .int x3)] [.int 2, .ref 116] (by rfl) ?_ | refine ft_go mi_k213 4 38 [(0, .ref 116), (1, .int x1), (2, .int 0), (3, .int x3)] [.int 2, .ref 116] i a q r (by rfl) ?_
  refine ko_callN mi_k213.1 (pc := 38) (ls := [(0, .ref 116), (1, .int x1), (2, .int 0), (3, .int x3)]) (st := [.int 2, .ref 116]) (h := ks i a q r) (i := (.invokevirtual 351, 3, 209, 0, 9, 0, 464)) (mi_k213.2 _ _ (by rfl)) (ft_invS mi_pq209 (by rfl)) (cy := mi_c209) mi_pq209 rfl (kc209_116 hG.I hG.R 2 (oz1575 fi_7457.1 hp2.2)) (by decide) ?_
  intro ig2 ag2 qg2 rg2 kg2 hg2
  have hGg2 := kG_call hG kg2 (by decide +kernel)
  have fig2_7457 : ((0 : Int) ≤ (ig2 7457).toInt) ∧ ((ig2 7457).toInt ≤ 1000) := hGg2.I.1 7457
  have z3 : (ig2 7457).toInt = ((i 7457).toInt + 1) := hg2
  first | refine fo_goS mi_k213 fz213_41_5_48 [.int x1, .ref 134, .int x1, .ref 116] (by rfl) ?_ | refine ft_go mi_k213 5 48 [(0, .ref 116), (1, .int x1), (2, .int 0), (3, .int x3)] [.int x1, .ref 134, .int x1, .ref 116] ig2 ag2 qg2 rg2 (by rfl) ?_
  refine ko_iald3 mi_k213.1 (n := 50) (c := 50) (ax := (0, 0, 0, 0, 0)) (mi_k213.2 _ _ (by rfl)) (by rfl) (ksG134 _ _ _ _) (hGg2.I.2.1 134) rfl (oz3 hp0.1) (oz1336 hp0.2) ?_
  have r4 : ((0 : Int) ≤ ((ag2 134).getD x1.toNatClampNeg 0).toInt) ∧ (((ag2 134).getD x1.toNatClampNeg 0).toInt ≤ 7) := hGg2.I.2.2.1 134 (x1.toNatClampNeg)
  have u5 : ((ag2 134).getD x1.toNatClampNeg 0).toInt = ((a 134).getD x1.toNatClampNeg 0).toInt := congrArg (fun z : List Int32 => (z.getD x1.toNatClampNeg 0).toInt) (kg2.fa 134 rfl)
  refine ko_top (kj_eq (oz1496 hp1 r4.2 u5) (by decide) : ((ag2 134).getD x1.toNatClampNeg 0) = 7) ?_
  first | refine fo_goS mi_k213 fz213_49_1_50 [.int x3, .int 7, .int x1, .ref 116] (by rfl) ?_ | refine ft_go mi_k213 1 50 [(0, .ref 116), (1, .int x1), (2, .int 0), (3, .int x3)] [.int x3, .int 7, .int x1, .ref 116] ig2 ag2 qg2 rg2 (by rfl) ?_
  refine ko_callI mi_k213.1 (pc := 50) (ls := [(0, .ref 116), (1, .int x1), (2, .int 0), (3, .int x3)]) (st := [.int x3, .int 7, .int x1, .ref 116]) (h := ks ig2 ag2 qg2 rg2) (i := (.invokevirtual 360, 3, 211, 0, 9, 0, 466)) (mi_k213.2 _ _ (by rfl)) (ft_invS mi_pq211 (by rfl)) (cy := mi_c211) mi_pq211 rfl (kc211_116_l17_K7 hGg2.I hGg2.R x1 x3 (oz1339 hp0.1 hp0.2) (oz1496 hp1 r4.2 u5) (oz1576 fig2_7457.1 hp2.2 z3)) (by decide) ?_
  intro vg6 ig6 ag6 qg6 rg6 kg6 hg6
  have hGg6 := kG_call hGg2 kg6 (by decide +kernel)
  have fig6_7457 : ((0 : Int) ≤ (ig6 7457).toInt) ∧ ((ig6 7457).toInt ≤ 1000) := hGg6.I.1 7457
  have z7 : (ig6 7457).toInt = ((ig2 7457).toInt + 8) := hg6
  first | refine fo_goL mi_k213 fz213_53_7_64 [(4, .int vg6), (0, .ref 116), (1, .int x1), (2, .int 0), (3, .int x3)] [.int x1, .ref 134, .int x1, .ref 116, .int vg6] (by rfl) ?_ | refine ft_go mi_k213 7 64 [(4, .int vg6), (0, .ref 116), (1, .int x1), (2, .int 0), (3, .int x3)] [.int x1, .ref 134, .int x1, .ref 116, .int vg6] ig6 ag6 qg6 rg6 (by rfl) ?_
  refine ko_iald3 mi_k213.1 (n := 50) (c := 50) (ax := (0, 0, 0, 0, 0)) (mi_k213.2 _ _ (by rfl)) (by rfl) (ksG134 _ _ _ _) (hGg6.I.2.1 134) rfl (oz3 hp0.1) (oz1336 hp0.2) ?_
  have r8 : ((0 : Int) ≤ ((ag6 134).getD x1.toNatClampNeg 0).toInt) ∧ (((ag6 134).getD x1.toNatClampNeg 0).toInt ≤ 7) := hGg6.I.2.2.1 134 (x1.toNatClampNeg)
  have u9 : ((ag6 134).getD x1.toNatClampNeg 0).toInt = ((ag2 134).getD x1.toNatClampNeg 0).toInt := congrArg (fun z : List Int32 => (z.getD x1.toNatClampNeg 0).toInt) (kg6.fa 134 rfl)
  refine ko_top (kj_eq (oz1504 hp1 r8.2 u5 u9) (by decide) : ((ag6 134).getD x1.toNatClampNeg 0) = 7) ?_
  first | refine fo_goS mi_k213 fz213_65_1_66 [.int 1, .int 7, .int x1, .ref 116, .int vg6] (by rfl) ?_ | refine ft_go mi_k213 1 66 [(4, .int vg6), (0, .ref 116), (1, .int x1), (2, .int 0), (3, .int x3)] [.int 1, .int 7, .int x1, .ref 116, .int vg6] ig6 ag6 qg6 rg6 (by rfl) ?_
  refine ko_callI mi_k213.1 (pc := 66) (ls := [(4, .int vg6), (0, .ref 116), (1, .int x1), (2, .int 0), (3, .int x3)]) (st := [.int 1, .int 7, .int x1, .ref 116, .int vg6]) (h := ks ig6 ag6 qg6 rg6) (i := (.invokevirtual 363, 3, 212, 0, 9, 0, 467)) (mi_k213.2 _ _ (by rfl)) (ft_invS mi_pq212 (by rfl)) (cy := mi_c212) mi_pq212 rfl (kc212_116_l17_K7 hGg6.I hGg6.R x1 1 (oz1339 hp0.1 hp0.2) (oz1504 hp1 r8.2 u5 u9) (oz1577 fig6_7457.1 hp2.2 z3 z7)) (by decide) ?_
  intro vg10 ig10 ag10 qg10 rg10 kg10 hg10
  have hGg10 := kG_call hGg6 kg10 (by decide +kernel)
  have z11 : (ig10 7457).toInt = ((ig6 7457).toInt + 4) := hg10
  have b12 : ((-2147483648 : Int) ≤ vg6.toInt) ∧ (vg6.toInt ≤ 2147483647) := kd_bd vg6
  have b13 : ((-2147483648 : Int) ≤ vg10.toInt) ∧ (vg10.toInt ≤ 2147483647) := kd_bd vg10
  first | refine fo_goS mi_k213 fz213_69_1_70 [.int (vg6 - vg10)] (by rfl) ?_ | refine ft_go mi_k213 1 70 [(4, .int vg6), (0, .ref 116), (1, .int x1), (2, .int 0), (3, .int x3)] [.int (vg6 - vg10)] ig10 ag10 qg10 rg10 (by rfl) ?_
  exact ft_ret mi_k213 (by rfl) (hP (vg6 - vg10) _ _ _ _ hGg10 (oz1578 z11 z3 z7))
def w213_116_l11_K7 : kW := ([7457], [135], [], [])
set_option maxRecDepth 100000 in
theorem kc213_116_l11_K7 {i : Nat → Int32} {a : Nat → List Int32} {q : Nat → List Int64} {r : Nat → Nat} (hI : kI i a q) (hr : kr r) (x1 : Int32) (x3 : Int32) (hp0 : ((0 : Int) ≤ x1.toInt) ∧ (x1.toInt ≤ 49)) (hp1 : ((a 134).getD x1.toNatClampNeg 0).toInt = 7) (hp2 : ((0 : Int) ≤ (i 7457).toInt) ∧ (((i 7457).toInt + 13) ≤ 900)) : km 21 213 [.ref 116, .int x1, .int 1, .int x3] (ks i a q r) (kVI w213_116_l11_K7 i a q r (fun v i1 a1 q1 r1 => (i1 7457).toInt = ((i 7457).toInt + 13))) := by
  have hG := kG_self w213_116_l11_K7 hI hr
  refine km_ofI (q := (mi_h213, mi_c213)) rfl (by decide) (Nat.le_of_ble_eq_true rfl) ?_
  intro P hP
  have r1 : ((0 : Int) ≤ ((a 134).getD x1.toNatClampNeg 0).toInt) ∧ (((a 134).getD x1.toNatClampNeg 0).toInt ≤ 7) := hG.I.2.2.1 134 (x1.toNatClampNeg)
  have fi_7457 : ((0 : Int) ≤ (i 7457).toInt) ∧ ((i 7457).toInt ≤ 1000) := hG.I.1 7457
  first | refine ft_goL mi_k213 5 106 [(0, .ref 116), (1, .int x1), (2, .int 1), (3, .int x3)] [.int 1, .int x1, .ref 116] (by rfl) ?_ | refine ft_go mi_k213 5 106 [(0, .ref 116), (1, .int x1), (2, .int 1), (3, .int x3)] [.int 1, .int x1, .ref 116] i a q r (by rfl) ?_
  refine ko_callPI mi_k213.1 (pc := 106) (ls := [(0, .ref 116), (1, .int x1), (2, .int 1), (3, .int x3)]) (st := [.int 1, .int x1, .ref 116]) (h := ks i a q r) (i := (.invokestatic 357, 3, 208, 0, 9, 0, 465)) (mi_k213.2 _ _ (by rfl)) (ft_invS mi_pq208 (by rfl)) (cy := mi_c208) mi_pq208 rfl (kc208_l01 hG.I hG.R ) (by decide) ?_
  intro vg2 hg2
  have z3 : vg2.toInt = 0 := hg2
  have evvg2 := kj_eq (oz236 z3) (by decide : (0 : Int32).toInt = 0)
  subst evvg2
  first | refine fo_goS mi_k213 fz213_109_1_110 [.int x3, .int 0, .int x1, .ref 116] (by rfl) ?_ | refine ft_go mi_k213 1 110 [(0, .ref 116), (1, .int x1), (2, .int 1), (3, .int x3)] [.int x3, .int 0, .int x1, .ref 116] i a q r (by rfl) ?_
  refine ko_callI mi_k213.1 (pc := 110) (ls := [(0, .ref 116), (1, .int x1), (2, .int 1), (3, .int x3)]) (st := [.int x3, .int 0, .int x1, .ref 116]) (h := ks i a q r) (i := (.invokevirtual 366, 3, 213, 0, 9, 0, 468)) (mi_k213.2 _ _ (by rfl)) (ft_invS mi_pq213 (by rfl)) (cy := mi_c213) mi_pq213 rfl (kc213_116_l10_K7 hG.I hG.R x1 x3 (oz1339 hp0.1 hp0.2) (oz1495 hp1 r1.2) (oz1579 fi_7457.1 hp2.2)) (by decide) ?_
  intro vg4 ig4 ag4 qg4 rg4 kg4 hg4
  have hGg4 := kG_call hG kg4 (by decide +kernel)
  have z5 : (ig4 7457).toInt = ((i 7457).toInt + 13) := hg4
  exact ft_ret mi_k213 (by rfl) (hP vg4 _ _ _ _ hGg4 (oz1580 z5))
def w213_116_l14_K7 : kW := ([7457], [135], [], [])
set_option maxRecDepth 100000 in
theorem kc213_116_l14_K7 {i : Nat → Int32} {a : Nat → List Int32} {q : Nat → List Int64} {r : Nat → Nat} (hI : kI i a q) (hr : kr r) (x1 : Int32) (x3 : Int32) (hp0 : ((0 : Int) ≤ x1.toInt) ∧ (x1.toInt ≤ 49)) (hp1 : ((a 134).getD x1.toNatClampNeg 0).toInt = 7) (hp2 : ((0 : Int) ≤ (i 7457).toInt) ∧ (((i 7457).toInt + 13) ≤ 900)) : km 23 213 [.ref 116, .int x1, .int 4, .int x3] (ks i a q r) (kVI w213_116_l14_K7 i a q r (fun v i1 a1 q1 r1 => (i1 7457).toInt = ((i 7457).toInt + 13))) := by
  have hG := kG_self w213_116_l14_K7 hI hr
  refine km_ofI (q := (mi_h213, mi_c213)) rfl (by decide) (Nat.le_of_ble_eq_true rfl) ?_
  intro P hP
  have r1 : ((0 : Int) ≤ ((a 134).getD x1.toNatClampNeg 0).toInt) ∧ (((a 134).getD x1.toNatClampNeg 0).toInt ≤ 7) := hG.I.2.2.1 134 (x1.toNatClampNeg)
  have fi_7457 : ((0 : Int) ≤ (i 7457).toInt) ∧ ((i 7457).toInt ≤ 1000) := hG.I.1 7457
  first | refine ft_goL mi_k213 5 106 [(0, .ref 116), (1, .int x1), (2, .int 4), (3, .int x3)] [.int 4, .int x1, .ref 116] (by rfl) ?_ | refine ft_go mi_k213 5 106 [(0, .ref 116), (1, .int x1), (2, .int 4), (3, .int x3)] [.int 4, .int x1, .ref 116] i a q r (by rfl) ?_
  refine ko_callPI mi_k213.1 (pc := 106) (ls := [(0, .ref 116), (1, .int x1), (2, .int 4), (3, .int x3)]) (st := [.int 4, .int x1, .ref 116]) (h := ks i a q r) (i := (.invokestatic 357, 3, 208, 0, 9, 0, 465)) (mi_k213.2 _ _ (by rfl)) (ft_invS mi_pq208 (by rfl)) (cy := mi_c208) mi_pq208 rfl (kc208_l04 hG.I hG.R ) (by decide) ?_
  intro vg2 hg2
  have z3 : vg2.toInt = 1 := hg2
  have evvg2 := kj_eq (oz1381 z3) (by decide : (1 : Int32).toInt = 1)
  subst evvg2
  first | refine fo_goS mi_k213 fz213_109_1_110 [.int x3, .int 1, .int x1, .ref 116] (by rfl) ?_ | refine ft_go mi_k213 1 110 [(0, .ref 116), (1, .int x1), (2, .int 4), (3, .int x3)] [.int x3, .int 1, .int x1, .ref 116] i a q r (by rfl) ?_
  refine ko_callI mi_k213.1 (pc := 110) (ls := [(0, .ref 116), (1, .int x1), (2, .int 4), (3, .int x3)]) (st := [.int x3, .int 1, .int x1, .ref 116]) (h := ks i a q r) (i := (.invokevirtual 366, 3, 213, 0, 9, 0, 468)) (mi_k213.2 _ _ (by rfl)) (ft_invS mi_pq213 (by rfl)) (cy := mi_c213) mi_pq213 rfl (kc213_116_l11_K7 hG.I hG.R x1 x3 (oz1339 hp0.1 hp0.2) (oz1495 hp1 r1.2) (oz1579 fi_7457.1 hp2.2)) (by decide) ?_
  intro vg4 ig4 ag4 qg4 rg4 kg4 hg4
  have hGg4 := kG_call hG kg4 (by decide +kernel)
  have z5 : (ig4 7457).toInt = ((i 7457).toInt + 13) := hg4
  exact ft_ret mi_k213 (by rfl) (hP vg4 _ _ _ _ hGg4 (oz1580 z5))
def w213_116_l17_K7 : kW := ([7457], [135], [], [])
set_option maxRecDepth 100000 in
theorem kc213_116_l17_K7 {i : Nat → Int32} {a : Nat → List Int32} {q : Nat → List Int64} {r : Nat → Nat} (hI : kI i a q) (hr : kr r) (x1 : Int32) (x3 : Int32) (hp0 : ((0 : Int) ≤ x1.toInt) ∧ (x1.toInt ≤ 49)) (hp1 : ((a 134).getD x1.toNatClampNeg 0).toInt = 7) (hp2 : ((0 : Int) ≤ (i 7457).toInt) ∧ (((i 7457).toInt + 14) ≤ 900)) : km 25 213 [.ref 116, .int x1, .int 7, .int x3] (ks i a q r) (kVI w213_116_l17_K7 i a q r (fun v i1 a1 q1 r1 => (i1 7457).toInt = ((i 7457).toInt + 14))) := by
  have hG := kG_self w213_116_l17_K7 hI hr
  refine km_ofI (q := (mi_h213, mi_c213)) rfl (by decide) (Nat.le_of_ble_eq_true rfl) ?_
  intro P hP
  have r1 : ((0 : Int) ≤ ((a 134).getD x1.toNatClampNeg 0).toInt) ∧ (((a 134).getD x1.toNatClampNeg 0).toInt ≤ 7) := hG.I.2.2.1 134 (x1.toNatClampNeg)
  have fi_7457 : ((0 : Int) ≤ (i 7457).toInt) ∧ ((i 7457).toInt ≤ 1000) := hG.I.1 7457
  first | refine ft_goL mi_k213 4 90 [(0, .ref 116), (1, .int x1), (2, .int 7), (3, .int x3)] [.int 81, .ref 116] (by rfl) ?_ | refine ft_go mi_k213 4 90 [(0, .ref 116), (1, .int x1), (2, .int 7), (3, .int x3)] [.int 81, .ref 116] i a q r (by rfl) ?_
  refine ko_callN mi_k213.1 (pc := 90) (ls := [(0, .ref 116), (1, .int x1), (2, .int 7), (3, .int x3)]) (st := [.int 81, .ref 116]) (h := ks i a q r) (i := (.invokevirtual 351, 3, 209, 0, 9, 0, 464)) (mi_k213.2 _ _ (by rfl)) (ft_invS mi_pq209 (by rfl)) (cy := mi_c209) mi_pq209 rfl (kc209_116 hG.I hG.R 81 (oz1574 fi_7457.1 hp2.2)) (by decide) ?_
  intro ig2 ag2 qg2 rg2 kg2 hg2
  have hGg2 := kG_call hG kg2 (by decide +kernel)
  have fig2_7457 : ((0 : Int) ≤ (ig2 7457).toInt) ∧ ((ig2 7457).toInt ≤ 1000) := hGg2.I.1 7457
  have z3 : (ig2 7457).toInt = ((i 7457).toInt + 1) := hg2
  first | refine ft_goS mi_k213 4 97 [.int x3, .int 4, .int x1, .ref 116] (by rfl) ?_ | refine ft_go mi_k213 4 97 [(0, .ref 116), (1, .int x1), (2, .int 7), (3, .int x3)] [.int x3, .int 4, .int x1, .ref 116] ig2 ag2 qg2 rg2 (by rfl) ?_
  have r4 : ((0 : Int) ≤ ((ag2 134).getD x1.toNatClampNeg 0).toInt) ∧ (((ag2 134).getD x1.toNatClampNeg 0).toInt ≤ 7) := hGg2.I.2.2.1 134 (x1.toNatClampNeg)
  have u5 : ((ag2 134).getD x1.toNatClampNeg 0).toInt = ((a 134).getD x1.toNatClampNeg 0).toInt := congrArg (fun z : List Int32 => (z.getD x1.toNatClampNeg 0).toInt) (kg2.fa 134 rfl)
  refine ko_callI mi_k213.1 (pc := 97) (ls := [(0, .ref 116), (1, .int x1), (2, .int 7), (3, .int x3)]) (st := [.int x3, .int 4, .int x1, .ref 116]) (h := ks ig2 ag2 qg2 rg2) (i := (.invokevirtual 366, 3, 213, 0, 9, 0, 468)) (mi_k213.2 _ _ (by rfl)) (ft_invS mi_pq213 (by rfl)) (cy := mi_c213) mi_pq213 rfl (kc213_116_l14_K7 hGg2.I hGg2.R x1 x3 (oz1339 hp0.1 hp0.2) (oz1496 hp1 r4.2 u5) (oz1581 fig2_7457.1 hp2.2 z3)) (by decide) ?_
  intro vg6 ig6 ag6 qg6 rg6 kg6 hg6
  have hGg6 := kG_call hGg2 kg6 (by decide +kernel)
  have z7 : (ig6 7457).toInt = ((ig2 7457).toInt + 13) := hg6
  have b8 : ((-2147483648 : Int) ≤ vg6.toInt) ∧ (vg6.toInt ≤ 2147483647) := kd_bd vg6
  first | refine ft_goS mi_k213 2 102 [.int (vg6 - 1)] (by rfl) ?_ | refine ft_go mi_k213 2 102 [(0, .ref 116), (1, .int x1), (2, .int 7), (3, .int x3)] [.int (vg6 - 1)] ig6 ag6 qg6 rg6 (by rfl) ?_
  exact ft_ret mi_k213 (by rfl) (hP (vg6 - 1) _ _ _ _ hGg6 (oz1582 z3 z7))
def w215_116 : kW := ([7457], [135], [], [])
set_option maxRecDepth 100000 in
theorem kc215_116 {i : Nat → Int32} {a : Nat → List Int32} {q : Nat → List Int64} {r : Nat → Nat} (hI : kI i a q) (hr : kr r) (x1 : Int32) (x2 : Int32) (x3 : Int32) : km 27 215 [.ref 116, .int x1, .int x2, .int x3] (ks i a q r) (kVI w215_116 i a q r (fun v i1 a1 q1 r1 => True)) := by
  have hG := kG_self w215_116 hI hr
  refine km_ofI (q := (mi_h215, mi_c215)) rfl (by decide) (Nat.le_of_ble_eq_true rfl) ?_
  intro P hP
  have hJ1 := kG_i hG 7457 rfl (v := 0) ⟨(oz46 kn0), (oz1331 kn0)⟩
  have fi_7455 : ((0 : Int) ≤ (i 7455).toInt) ∧ ((i 7455).toInt ≤ 50) := hJ1.I.1 7455
  have s2 : ((i 7455) - 1).toInt = (i 7455).toInt - (1 : Int32).toInt := kd_sub (oz47 fi_7455.1 kn1) (oz583 fi_7455.2 kn1)
  first | refine fo_go mi_k215 fz215_0_9_13 [(0, .ref 116), (1, .int x1), (2, .int x2), (3, .int x3)] [.int ((i 7455) - 1), .int 0, .int x1] (ku i 7457 0) a q r (by rfl) ?_ | refine ft_go mi_k215 9 13 [(0, .ref 116), (1, .int x1), (2, .int x2), (3, .int x3)] [.int ((i 7455) - 1), .int 0, .int x1] (ku i 7457 0) a q r (by rfl) ?_
  refine ko_callPI mi_k215.1 (pc := 13) (ls := [(0, .ref 116), (1, .int x1), (2, .int x2), (3, .int x3)]) (st := [.int ((i 7455) - 1), .int 0, .int x1]) (h := ks (ku i 7457 0) a q r) (i := (.invokestatic 119, 3, 131, 0, 9, 0, 379)) (mi_k215.2 _ _ (by rfl)) (ft_invS mi_pq131 (by rfl)) (cy := mi_c131) mi_pq131 rfl (kc131 hJ1.I hJ1.R x1 0 ((i 7455) - 1)) (by decide) ?_
  intro vg3 hg3
  rcases hg3 with ⟨eg3, hg3⟩ | ⟨eg3, hg3⟩
  ·
    subst eg3
    have z4 : ((0 : Int32).toInt ≤ x1.toInt) ∧ (x1.toInt ≤ ((i 7455) - 1).toInt) := hg3
    first | refine ft_goS mi_k215 4 22 [.int 3, .int 0, .int x2] (by rfl) ?_ | refine ft_go mi_k215 4 22 [(0, .ref 116), (1, .int x1), (2, .int x2), (3, .int x3)] [.int 3, .int 0, .int x2] (ku i 7457 0) a q r (by rfl) ?_
    refine ko_callPI mi_k215.1 (pc := 22) (ls := [(0, .ref 116), (1, .int x1), (2, .int x2), (3, .int x3)]) (st := [.int 3, .int 0, .int x2]) (h := ks (ku i 7457 0) a q r) (i := (.invokestatic 119, 3, 131, 0, 9, 0, 379)) (mi_k215.2 _ _ (by rfl)) (ft_invS mi_pq131 (by rfl)) (cy := mi_c131) mi_pq131 rfl (kc131 hJ1.I hJ1.R x2 0 3) (by decide) ?_
    intro vg5 hg5
    rcases hg5 with ⟨eg5, hg5⟩ | ⟨eg5, hg5⟩
    ·
      subst eg5
      first | refine ft_goS mi_k215 4 35 [.int x1, .ref 134] (by rfl) ?_ | refine ft_go mi_k215 4 35 [(0, .ref 116), (1, .int x1), (2, .int x2), (3, .int x3)] [.int x1, .ref 134] (ku i 7457 0) a q r (by rfl) ?_
      refine ko_iald3 mi_k215.1 (n := 50) (c := 50) (ax := (0, 0, 0, 0, 0)) (mi_k215.2 _ _ (by rfl)) (by rfl) (ksG134 _ _ _ _) (hJ1.I.2.1 134) rfl (oz389 z4.1 kn0) (oz1525 fi_7455.2 s2 z4.2 kn1) ?_
      have r7 : ((0 : Int) ≤ ((a 134).getD x1.toNatClampNeg 0).toInt) ∧ (((a 134).getD x1.toNatClampNeg 0).toInt ≤ 7) := hJ1.I.2.2.1 134 (x1.toNatClampNeg)
      first | refine ft_goL mi_k215 2 39 [(4, .int ((a 134).getD x1.toNatClampNeg 0)), (0, .ref 116), (1, .int x1), (2, .int x2), (3, .int x3)] [.int x2] (by rfl) ?_ | refine ft_go mi_k215 2 39 [(4, .int ((a 134).getD x1.toNatClampNeg 0)), (0, .ref 116), (1, .int x1), (2, .int x2), (3, .int x3)] [.int x2] (ku i 7457 0) a q r (by rfl) ?_
      refine ft_ifS mi_k215 (x2 != 0) 53 42 [] (by rfl) (fun c => ?_) (fun c => ?_)
      ·
        have c8 : x2.toInt ≠ (0 : Int32).toInt := kd_ne c; clear c
        first | refine ft_goS mi_k215 2 55 [.int 1, .int x2] (by rfl) ?_ | refine ft_go mi_k215 2 55 [(4, .int ((a 134).getD x1.toNatClampNeg 0)), (0, .ref 116), (1, .int x1), (2, .int x2), (3, .int x3)] [.int 1, .int x2] (ku i 7457 0) a q r (by rfl) ?_
        refine ft_ifS mi_k215 (x2 != 1) 69 58 [] (by rfl) (fun c => ?_) (fun c => ?_)
        ·
          have c9 : x2.toInt ≠ (1 : Int32).toInt := kd_ne c; clear c
          first | refine ft_goS mi_k215 2 71 [.int 2, .int x2] (by rfl) ?_ | refine ft_go mi_k215 2 71 [(4, .int ((a 134).getD x1.toNatClampNeg 0)), (0, .ref 116), (1, .int x1), (2, .int x2), (3, .int x3)] [.int 2, .int x2] (ku i 7457 0) a q r (by rfl) ?_
          refine ft_ifS mi_k215 (x2 != 2) 85 74 [] (by rfl) (fun c => ?_) (fun c => ?_)
          ·
            have c10 : x2.toInt ≠ (2 : Int32).toInt := kd_ne c; clear c
            first | refine ft_goS mi_k215 4 90 [.int x3, .int ((a 134).getD x1.toNatClampNeg 0), .int x1, .ref 116] (by rfl) ?_ | refine ft_go mi_k215 4 90 [(4, .int ((a 134).getD x1.toNatClampNeg 0)), (0, .ref 116), (1, .int x1), (2, .int x2), (3, .int x3)] [.int x3, .int ((a 134).getD x1.toNatClampNeg 0), .int x1, .ref 116] (ku i 7457 0) a q r (by rfl) ?_
            by_cases w11 : ((a 134).getD x1.toNatClampNeg 0).toInt = 0
            ·
              refine ko_eq (x1 := (90, [(4, .int ((a 134).getD x1.toNatClampNeg 0)), (0, .ref 116), (1, .int x1), (2, .int x2), (3, .int x3)], [.int x3, .int 0, .int x1, .ref 116], (0, 0), ks (ku i 7457 0) a q r)) (by rw [(kj_eq w11 (by decide) : ((a 134).getD x1.toNatClampNeg 0) = 0)]) ?_
              refine ko_callI mi_k215.1 (pc := 90) (ls := [(4, .int ((a 134).getD x1.toNatClampNeg 0)), (0, .ref 116), (1, .int x1), (2, .int x2), (3, .int x3)]) (st := [.int x3, .int 0, .int x1, .ref 116]) (h := ks (ku i 7457 0) a q r) (i := (.invokevirtual 366, 3, 213, 0, 9, 0, 468)) (mi_k215.2 _ _ (by rfl)) (ft_invS mi_pq213 (by rfl)) (cy := mi_c213) mi_pq213 rfl (kc213_116_l10_K0 hJ1.I hJ1.R x1 x3 (oz1536 fi_7455.2 s2 z4.1 z4.2 kn1 kn0) (oz1348 r7.1 w11) (oz1378 kn0)) (by decide) ?_
              intro vg12 ig12 ag12 qg12 rg12 kg12 hg12
              have hGg12 := kG_call hJ1 kg12 (by decide +kernel)
              exact ft_ret mi_k215 (by rfl) (hP vg12 _ _ _ _ hGg12 trivial)
            by_cases w14 : ((a 134).getD x1.toNatClampNeg 0).toInt = 1
            ·
              refine ko_eq (x1 := (90, [(4, .int ((a 134).getD x1.toNatClampNeg 0)), (0, .ref 116), (1, .int x1), (2, .int x2), (3, .int x3)], [.int x3, .int 1, .int x1, .ref 116], (0, 0), ks (ku i 7457 0) a q r)) (by rw [(kj_eq w14 (by decide) : ((a 134).getD x1.toNatClampNeg 0) = 1)]) ?_
              refine ko_callI mi_k215.1 (pc := 90) (ls := [(4, .int ((a 134).getD x1.toNatClampNeg 0)), (0, .ref 116), (1, .int x1), (2, .int x2), (3, .int x3)]) (st := [.int x3, .int 1, .int x1, .ref 116]) (h := ks (ku i 7457 0) a q r) (i := (.invokevirtual 366, 3, 213, 0, 9, 0, 468)) (mi_k215.2 _ _ (by rfl)) (ft_invS mi_pq213 (by rfl)) (cy := mi_c213) mi_pq213 rfl (kc213_116_l11_K1 hJ1.I hJ1.R x1 x3 (oz1536 fi_7455.2 s2 z4.1 z4.2 kn1 kn0) (oz1381 w14) (oz1407 kn0)) (by decide) ?_
              intro vg15 ig15 ag15 qg15 rg15 kg15 hg15
              have hGg15 := kG_call hJ1 kg15 (by decide +kernel)
              exact ft_ret mi_k215 (by rfl) (hP vg15 _ _ _ _ hGg15 trivial)
            by_cases w17 : ((a 134).getD x1.toNatClampNeg 0).toInt = 2
            ·
              refine ko_eq (x1 := (90, [(4, .int ((a 134).getD x1.toNatClampNeg 0)), (0, .ref 116), (1, .int x1), (2, .int x2), (3, .int x3)], [.int x3, .int 2, .int x1, .ref 116], (0, 0), ks (ku i 7457 0) a q r)) (by rw [(kj_eq w17 (by decide) : ((a 134).getD x1.toNatClampNeg 0) = 2)]) ?_
              refine ko_callI mi_k215.1 (pc := 90) (ls := [(4, .int ((a 134).getD x1.toNatClampNeg 0)), (0, .ref 116), (1, .int x1), (2, .int x2), (3, .int x3)]) (st := [.int x3, .int 2, .int x1, .ref 116]) (h := ks (ku i 7457 0) a q r) (i := (.invokevirtual 366, 3, 213, 0, 9, 0, 468)) (mi_k215.2 _ _ (by rfl)) (ft_invS mi_pq213 (by rfl)) (cy := mi_c213) mi_pq213 rfl (kc213_116_l12_K2 hJ1.I hJ1.R x1 x3 (oz1536 fi_7455.2 s2 z4.1 z4.2 kn1 kn0) (oz1411 w17) (oz1407 kn0)) (by decide) ?_
              intro vg18 ig18 ag18 qg18 rg18 kg18 hg18
              have hGg18 := kG_call hJ1 kg18 (by decide +kernel)
              exact ft_ret mi_k215 (by rfl) (hP vg18 _ _ _ _ hGg18 trivial)
            by_cases w20 : ((a 134).getD x1.toNatClampNeg 0).toInt = 3
            ·
              refine ko_eq (x1 := (90, [(4, .int ((a 134).getD x1.toNatClampNeg 0)), (0, .ref 116), (1, .int x1), (2, .int x2), (3, .int x3)], [.int x3, .int 3, .int x1, .ref 116], (0, 0), ks (ku i 7457 0) a q r)) (by rw [(kj_eq w20 (by decide) : ((a 134).getD x1.toNatClampNeg 0) = 3)]) ?_
              refine ko_callI mi_k215.1 (pc := 90) (ls := [(4, .int ((a 134).getD x1.toNatClampNeg 0)), (0, .ref 116), (1, .int x1), (2, .int x2), (3, .int x3)]) (st := [.int x3, .int 3, .int x1, .ref 116]) (h := ks (ku i 7457 0) a q r) (i := (.invokevirtual 366, 3, 213, 0, 9, 0, 468)) (mi_k215.2 _ _ (by rfl)) (ft_invS mi_pq213 (by rfl)) (cy := mi_c213) mi_pq213 rfl (kc213_116_l13_K3 hJ1.I hJ1.R x1 x3 (oz1536 fi_7455.2 s2 z4.1 z4.2 kn1 kn0) (oz1421 w20) (oz1442 kn0)) (by decide) ?_
              intro vg21 ig21 ag21 qg21 rg21 kg21 hg21
              have hGg21 := kG_call hJ1 kg21 (by decide +kernel)
              exact ft_ret mi_k215 (by rfl) (hP vg21 _ _ _ _ hGg21 trivial)
            by_cases w23 : ((a 134).getD x1.toNatClampNeg 0).toInt = 4
            ·
              refine ko_eq (x1 := (90, [(4, .int ((a 134).getD x1.toNatClampNeg 0)), (0, .ref 116), (1, .int x1), (2, .int x2), (3, .int x3)], [.int x3, .int 4, .int x1, .ref 116], (0, 0), ks (ku i 7457 0) a q r)) (by rw [(kj_eq w23 (by decide) : ((a 134).getD x1.toNatClampNeg 0) = 4)]) ?_
              refine ko_callI mi_k215.1 (pc := 90) (ls := [(4, .int ((a 134).getD x1.toNatClampNeg 0)), (0, .ref 116), (1, .int x1), (2, .int x2), (3, .int x3)]) (st := [.int x3, .int 4, .int x1, .ref 116]) (h := ks (ku i 7457 0) a q r) (i := (.invokevirtual 366, 3, 213, 0, 9, 0, 468)) (mi_k215.2 _ _ (by rfl)) (ft_invS mi_pq213 (by rfl)) (cy := mi_c213) mi_pq213 rfl (kc213_116_l14_K4 hJ1.I hJ1.R x1 x3 (oz1536 fi_7455.2 s2 z4.1 z4.2 kn1 kn0) (oz1446 w23) (oz1466 kn0)) (by decide) ?_
              intro vg24 ig24 ag24 qg24 rg24 kg24 hg24
              have hGg24 := kG_call hJ1 kg24 (by decide +kernel)
              exact ft_ret mi_k215 (by rfl) (hP vg24 _ _ _ _ hGg24 trivial)
            by_cases w26 : ((a 134).getD x1.toNatClampNeg 0).toInt = 5
            ·
              refine ko_eq (x1 := (90, [(4, .int ((a 134).getD x1.toNatClampNeg 0)), (0, .ref 116), (1, .int x1), (2, .int x2), (3, .int x3)], [.int x3, .int 5, .int x1, .ref 116], (0, 0), ks (ku i 7457 0) a q r)) (by rw [(kj_eq w26 (by decide) : ((a 134).getD x1.toNatClampNeg 0) = 5)]) ?_
              refine ko_callI mi_k215.1 (pc := 90) (ls := [(4, .int ((a 134).getD x1.toNatClampNeg 0)), (0, .ref 116), (1, .int x1), (2, .int x2), (3, .int x3)]) (st := [.int x3, .int 5, .int x1, .ref 116]) (h := ks (ku i 7457 0) a q r) (i := (.invokevirtual 366, 3, 213, 0, 9, 0, 468)) (mi_k215.2 _ _ (by rfl)) (ft_invS mi_pq213 (by rfl)) (cy := mi_c213) mi_pq213 rfl (kc213_116_l15_K5 hJ1.I hJ1.R x1 x3 (oz1536 fi_7455.2 s2 z4.1 z4.2 kn1 kn0) (oz1470 w26) (oz1466 kn0)) (by decide) ?_
              intro vg27 ig27 ag27 qg27 rg27 kg27 hg27
              have hGg27 := kG_call hJ1 kg27 (by decide +kernel)
              exact ft_ret mi_k215 (by rfl) (hP vg27 _ _ _ _ hGg27 trivial)
            by_cases w29 : ((a 134).getD x1.toNatClampNeg 0).toInt = 6
            ·
              refine ko_eq (x1 := (90, [(4, .int ((a 134).getD x1.toNatClampNeg 0)), (0, .ref 116), (1, .int x1), (2, .int x2), (3, .int x3)], [.int x3, .int 6, .int x1, .ref 116], (0, 0), ks (ku i 7457 0) a q r)) (by rw [(kj_eq w29 (by decide) : ((a 134).getD x1.toNatClampNeg 0) = 6)]) ?_
              refine ko_callI mi_k215.1 (pc := 90) (ls := [(4, .int ((a 134).getD x1.toNatClampNeg 0)), (0, .ref 116), (1, .int x1), (2, .int x2), (3, .int x3)]) (st := [.int x3, .int 6, .int x1, .ref 116]) (h := ks (ku i 7457 0) a q r) (i := (.invokevirtual 366, 3, 213, 0, 9, 0, 468)) (mi_k215.2 _ _ (by rfl)) (ft_invS mi_pq213 (by rfl)) (cy := mi_c213) mi_pq213 rfl (kc213_116_l16_K6 hJ1.I hJ1.R x1 x3 (oz1536 fi_7455.2 s2 z4.1 z4.2 kn1 kn0) (oz1484 w29) (oz1407 kn0)) (by decide) ?_
              intro vg30 ig30 ag30 qg30 rg30 kg30 hg30
              have hGg30 := kG_call hJ1 kg30 (by decide +kernel)
              exact ft_ret mi_k215 (by rfl) (hP vg30 _ _ _ _ hGg30 trivial)
            by_cases w32 : ((a 134).getD x1.toNatClampNeg 0).toInt = 7
            ·
              refine ko_eq (x1 := (90, [(4, .int ((a 134).getD x1.toNatClampNeg 0)), (0, .ref 116), (1, .int x1), (2, .int x2), (3, .int x3)], [.int x3, .int 7, .int x1, .ref 116], (0, 0), ks (ku i 7457 0) a q r)) (by rw [(kj_eq w32 (by decide) : ((a 134).getD x1.toNatClampNeg 0) = 7)]) ?_
              refine ko_callI mi_k215.1 (pc := 90) (ls := [(4, .int ((a 134).getD x1.toNatClampNeg 0)), (0, .ref 116), (1, .int x1), (2, .int x2), (3, .int x3)]) (st := [.int x3, .int 7, .int x1, .ref 116]) (h := ks (ku i 7457 0) a q r) (i := (.invokevirtual 366, 3, 213, 0, 9, 0, 468)) (mi_k215.2 _ _ (by rfl)) (ft_invS mi_pq213 (by rfl)) (cy := mi_c213) mi_pq213 rfl (kc213_116_l17_K7 hJ1.I hJ1.R x1 x3 (oz1536 fi_7455.2 s2 z4.1 z4.2 kn1 kn0) (oz1497 r7.2 w32) (oz1523 kn0)) (by decide) ?_
              intro vg33 ig33 ag33 qg33 rg33 kg33 hg33
              have hGg33 := kG_call hJ1 kg33 (by decide +kernel)
              exact ft_ret mi_k215 (by rfl) (hP vg33 _ _ _ _ hGg33 trivial)
            exact (oz1583 r7.1 r7.2 w11 w14 w17 w20 w23 w26 w29 w32).elim
          ·
            have c35 : x2.toInt = (2 : Int32).toInt := kd_neF c; clear c
            first | refine ft_goS mi_k215 4 79 [.int x3, .int ((a 134).getD x1.toNatClampNeg 0), .int x1, .ref 116] (by rfl) ?_ | refine ft_go mi_k215 4 79 [(4, .int ((a 134).getD x1.toNatClampNeg 0)), (0, .ref 116), (1, .int x1), (2, .int x2), (3, .int x3)] [.int x3, .int ((a 134).getD x1.toNatClampNeg 0), .int x1, .ref 116] (ku i 7457 0) a q r (by rfl) ?_
            by_cases w36 : ((a 134).getD x1.toNatClampNeg 0).toInt = 0
            ·
              refine ko_eq (x1 := (79, [(4, .int ((a 134).getD x1.toNatClampNeg 0)), (0, .ref 116), (1, .int x1), (2, .int x2), (3, .int x3)], [.int x3, .int 0, .int x1, .ref 116], (0, 0), ks (ku i 7457 0) a q r)) (by rw [(kj_eq w36 (by decide) : ((a 134).getD x1.toNatClampNeg 0) = 0)]) ?_
              refine ko_callI mi_k215.1 (pc := 79) (ls := [(4, .int ((a 134).getD x1.toNatClampNeg 0)), (0, .ref 116), (1, .int x1), (2, .int x2), (3, .int x3)]) (st := [.int x3, .int 0, .int x1, .ref 116]) (h := ks (ku i 7457 0) a q r) (i := (.invokevirtual 363, 3, 212, 0, 9, 0, 467)) (mi_k215.2 _ _ (by rfl)) (ft_invS mi_pq212 (by rfl)) (cy := mi_c212) mi_pq212 rfl (kc212_116_l10_K0 hJ1.I hJ1.R x1 x3 (oz1536 fi_7455.2 s2 z4.1 z4.2 kn1 kn0) (oz1348 r7.1 w36) (oz1350 kn0)) (by decide) ?_
              intro vg37 ig37 ag37 qg37 rg37 kg37 hg37
              have hGg37 := kG_call hJ1 kg37 (by decide +kernel)
              first | refine fo_goS mi_k215 fz215_50_1_93 [.int vg37] (by rfl) ?_ | refine fo_goS mi_k215 fz215_66_1_93 [.int vg37] (by rfl) ?_ | refine fo_goS mi_k215 fz215_82_1_93 [.int vg37] (by rfl) ?_ | refine ft_goS mi_k215 1 93 [.int vg37] (by rfl) ?_ | refine ft_go mi_k215 1 93 [(4, .int ((a 134).getD x1.toNatClampNeg 0)), (0, .ref 116), (1, .int x1), (2, .int x2), (3, .int x3)] [.int vg37] ig37 ag37 qg37 rg37 (by rfl) ?_
              exact ft_ret mi_k215 (by rfl) (hP vg37 _ _ _ _ hGg37 trivial)
            by_cases w39 : ((a 134).getD x1.toNatClampNeg 0).toInt = 1
            ·
              refine ko_eq (x1 := (79, [(4, .int ((a 134).getD x1.toNatClampNeg 0)), (0, .ref 116), (1, .int x1), (2, .int x2), (3, .int x3)], [.int x3, .int 1, .int x1, .ref 116], (0, 0), ks (ku i 7457 0) a q r)) (by rw [(kj_eq w39 (by decide) : ((a 134).getD x1.toNatClampNeg 0) = 1)]) ?_
              refine ko_callI mi_k215.1 (pc := 79) (ls := [(4, .int ((a 134).getD x1.toNatClampNeg 0)), (0, .ref 116), (1, .int x1), (2, .int x2), (3, .int x3)]) (st := [.int x3, .int 1, .int x1, .ref 116]) (h := ks (ku i 7457 0) a q r) (i := (.invokevirtual 363, 3, 212, 0, 9, 0, 467)) (mi_k215.2 _ _ (by rfl)) (ft_invS mi_pq212 (by rfl)) (cy := mi_c212) mi_pq212 rfl (kc212_116_l11_K1 hJ1.I hJ1.R x1 x3 (oz1536 fi_7455.2 s2 z4.1 z4.2 kn1 kn0) (oz1381 w39) (oz1350 kn0)) (by decide) ?_
              intro vg40 ig40 ag40 qg40 rg40 kg40 hg40
              have hGg40 := kG_call hJ1 kg40 (by decide +kernel)
              first | refine fo_goS mi_k215 fz215_50_1_93 [.int vg40] (by rfl) ?_ | refine fo_goS mi_k215 fz215_66_1_93 [.int vg40] (by rfl) ?_ | refine fo_goS mi_k215 fz215_82_1_93 [.int vg40] (by rfl) ?_ | refine ft_goS mi_k215 1 93 [.int vg40] (by rfl) ?_ | refine ft_go mi_k215 1 93 [(4, .int ((a 134).getD x1.toNatClampNeg 0)), (0, .ref 116), (1, .int x1), (2, .int x2), (3, .int x3)] [.int vg40] ig40 ag40 qg40 rg40 (by rfl) ?_
              exact ft_ret mi_k215 (by rfl) (hP vg40 _ _ _ _ hGg40 trivial)
            by_cases w42 : ((a 134).getD x1.toNatClampNeg 0).toInt = 2
            ·
              refine ko_eq (x1 := (79, [(4, .int ((a 134).getD x1.toNatClampNeg 0)), (0, .ref 116), (1, .int x1), (2, .int x2), (3, .int x3)], [.int x3, .int 2, .int x1, .ref 116], (0, 0), ks (ku i 7457 0) a q r)) (by rw [(kj_eq w42 (by decide) : ((a 134).getD x1.toNatClampNeg 0) = 2)]) ?_
              refine ko_callI mi_k215.1 (pc := 79) (ls := [(4, .int ((a 134).getD x1.toNatClampNeg 0)), (0, .ref 116), (1, .int x1), (2, .int x2), (3, .int x3)]) (st := [.int x3, .int 2, .int x1, .ref 116]) (h := ks (ku i 7457 0) a q r) (i := (.invokevirtual 363, 3, 212, 0, 9, 0, 467)) (mi_k215.2 _ _ (by rfl)) (ft_invS mi_pq212 (by rfl)) (cy := mi_c212) mi_pq212 rfl (kc212_116_l12_K2 hJ1.I hJ1.R x1 x3 (oz1536 fi_7455.2 s2 z4.1 z4.2 kn1 kn0) (oz1411 w42) (oz1350 kn0)) (by decide) ?_
              intro vg43 ig43 ag43 qg43 rg43 kg43 hg43
              have hGg43 := kG_call hJ1 kg43 (by decide +kernel)
              first | refine fo_goS mi_k215 fz215_50_1_93 [.int vg43] (by rfl) ?_ | refine fo_goS mi_k215 fz215_66_1_93 [.int vg43] (by rfl) ?_ | refine fo_goS mi_k215 fz215_82_1_93 [.int vg43] (by rfl) ?_ | refine ft_goS mi_k215 1 93 [.int vg43] (by rfl) ?_ | refine ft_go mi_k215 1 93 [(4, .int ((a 134).getD x1.toNatClampNeg 0)), (0, .ref 116), (1, .int x1), (2, .int x2), (3, .int x3)] [.int vg43] ig43 ag43 qg43 rg43 (by rfl) ?_
              exact ft_ret mi_k215 (by rfl) (hP vg43 _ _ _ _ hGg43 trivial)
            by_cases w45 : ((a 134).getD x1.toNatClampNeg 0).toInt = 3
            ·
              refine ko_eq (x1 := (79, [(4, .int ((a 134).getD x1.toNatClampNeg 0)), (0, .ref 116), (1, .int x1), (2, .int x2), (3, .int x3)], [.int x3, .int 3, .int x1, .ref 116], (0, 0), ks (ku i 7457 0) a q r)) (by rw [(kj_eq w45 (by decide) : ((a 134).getD x1.toNatClampNeg 0) = 3)]) ?_
              refine ko_callI mi_k215.1 (pc := 79) (ls := [(4, .int ((a 134).getD x1.toNatClampNeg 0)), (0, .ref 116), (1, .int x1), (2, .int x2), (3, .int x3)]) (st := [.int x3, .int 3, .int x1, .ref 116]) (h := ks (ku i 7457 0) a q r) (i := (.invokevirtual 363, 3, 212, 0, 9, 0, 467)) (mi_k215.2 _ _ (by rfl)) (ft_invS mi_pq212 (by rfl)) (cy := mi_c212) mi_pq212 rfl (kc212_116_l13_K3 hJ1.I hJ1.R x1 x3 (oz1536 fi_7455.2 s2 z4.1 z4.2 kn1 kn0) (oz1421 w45) (oz1362 kn0)) (by decide) ?_
              intro vg46 ig46 ag46 qg46 rg46 kg46 hg46
              have hGg46 := kG_call hJ1 kg46 (by decide +kernel)
              first | refine fo_goS mi_k215 fz215_50_1_93 [.int vg46] (by rfl) ?_ | refine fo_goS mi_k215 fz215_66_1_93 [.int vg46] (by rfl) ?_ | refine fo_goS mi_k215 fz215_82_1_93 [.int vg46] (by rfl) ?_ | refine ft_goS mi_k215 1 93 [.int vg46] (by rfl) ?_ | refine ft_go mi_k215 1 93 [(4, .int ((a 134).getD x1.toNatClampNeg 0)), (0, .ref 116), (1, .int x1), (2, .int x2), (3, .int x3)] [.int vg46] ig46 ag46 qg46 rg46 (by rfl) ?_
              exact ft_ret mi_k215 (by rfl) (hP vg46 _ _ _ _ hGg46 trivial)
            by_cases w48 : ((a 134).getD x1.toNatClampNeg 0).toInt = 4
            ·
              refine ko_eq (x1 := (79, [(4, .int ((a 134).getD x1.toNatClampNeg 0)), (0, .ref 116), (1, .int x1), (2, .int x2), (3, .int x3)], [.int x3, .int 4, .int x1, .ref 116], (0, 0), ks (ku i 7457 0) a q r)) (by rw [(kj_eq w48 (by decide) : ((a 134).getD x1.toNatClampNeg 0) = 4)]) ?_
              refine ko_callI mi_k215.1 (pc := 79) (ls := [(4, .int ((a 134).getD x1.toNatClampNeg 0)), (0, .ref 116), (1, .int x1), (2, .int x2), (3, .int x3)]) (st := [.int x3, .int 4, .int x1, .ref 116]) (h := ks (ku i 7457 0) a q r) (i := (.invokevirtual 363, 3, 212, 0, 9, 0, 467)) (mi_k215.2 _ _ (by rfl)) (ft_invS mi_pq212 (by rfl)) (cy := mi_c212) mi_pq212 rfl (kc212_116_l14_K4 hJ1.I hJ1.R x1 x3 (oz1536 fi_7455.2 s2 z4.1 z4.2 kn1 kn0) (oz1446 w48) (oz1378 kn0)) (by decide) ?_
              intro vg49 ig49 ag49 qg49 rg49 kg49 hg49
              have hGg49 := kG_call hJ1 kg49 (by decide +kernel)
              first | refine fo_goS mi_k215 fz215_50_1_93 [.int vg49] (by rfl) ?_ | refine fo_goS mi_k215 fz215_66_1_93 [.int vg49] (by rfl) ?_ | refine fo_goS mi_k215 fz215_82_1_93 [.int vg49] (by rfl) ?_ | refine ft_goS mi_k215 1 93 [.int vg49] (by rfl) ?_ | refine ft_go mi_k215 1 93 [(4, .int ((a 134).getD x1.toNatClampNeg 0)), (0, .ref 116), (1, .int x1), (2, .int x2), (3, .int x3)] [.int vg49] ig49 ag49 qg49 rg49 (by rfl) ?_
              exact ft_ret mi_k215 (by rfl) (hP vg49 _ _ _ _ hGg49 trivial)
            by_cases w51 : ((a 134).getD x1.toNatClampNeg 0).toInt = 5
            ·
              refine ko_eq (x1 := (79, [(4, .int ((a 134).getD x1.toNatClampNeg 0)), (0, .ref 116), (1, .int x1), (2, .int x2), (3, .int x3)], [.int x3, .int 5, .int x1, .ref 116], (0, 0), ks (ku i 7457 0) a q r)) (by rw [(kj_eq w51 (by decide) : ((a 134).getD x1.toNatClampNeg 0) = 5)]) ?_
              refine ko_callI mi_k215.1 (pc := 79) (ls := [(4, .int ((a 134).getD x1.toNatClampNeg 0)), (0, .ref 116), (1, .int x1), (2, .int x2), (3, .int x3)]) (st := [.int x3, .int 5, .int x1, .ref 116]) (h := ks (ku i 7457 0) a q r) (i := (.invokevirtual 363, 3, 212, 0, 9, 0, 467)) (mi_k215.2 _ _ (by rfl)) (ft_invS mi_pq212 (by rfl)) (cy := mi_c212) mi_pq212 rfl (kc212_116_l15_K5 hJ1.I hJ1.R x1 x3 (oz1536 fi_7455.2 s2 z4.1 z4.2 kn1 kn0) (oz1470 w51) (oz1362 kn0)) (by decide) ?_
              intro vg52 ig52 ag52 qg52 rg52 kg52 hg52
              have hGg52 := kG_call hJ1 kg52 (by decide +kernel)
              first | refine fo_goS mi_k215 fz215_50_1_93 [.int vg52] (by rfl) ?_ | refine fo_goS mi_k215 fz215_66_1_93 [.int vg52] (by rfl) ?_ | refine fo_goS mi_k215 fz215_82_1_93 [.int vg52] (by rfl) ?_ | refine ft_goS mi_k215 1 93 [.int vg52] (by rfl) ?_ | refine ft_go mi_k215 1 93 [(4, .int ((a 134).getD x1.toNatClampNeg 0)), (0, .ref 116), (1, .int x1), (2, .int x2), (3, .int x3)] [.int vg52] ig52 ag52 qg52 rg52 (by rfl) ?_
              exact ft_ret mi_k215 (by rfl) (hP vg52 _ _ _ _ hGg52 trivial)
            by_cases w54 : ((a 134).getD x1.toNatClampNeg 0).toInt = 6
            ·
              refine ko_eq (x1 := (79, [(4, .int ((a 134).getD x1.toNatClampNeg 0)), (0, .ref 116), (1, .int x1), (2, .int x2), (3, .int x3)], [.int x3, .int 6, .int x1, .ref 116], (0, 0), ks (ku i 7457 0) a q r)) (by rw [(kj_eq w54 (by decide) : ((a 134).getD x1.toNatClampNeg 0) = 6)]) ?_
              refine ko_callI mi_k215.1 (pc := 79) (ls := [(4, .int ((a 134).getD x1.toNatClampNeg 0)), (0, .ref 116), (1, .int x1), (2, .int x2), (3, .int x3)]) (st := [.int x3, .int 6, .int x1, .ref 116]) (h := ks (ku i 7457 0) a q r) (i := (.invokevirtual 363, 3, 212, 0, 9, 0, 467)) (mi_k215.2 _ _ (by rfl)) (ft_invS mi_pq212 (by rfl)) (cy := mi_c212) mi_pq212 rfl (kc212_116_l16_K6 hJ1.I hJ1.R x1 x3 (oz1536 fi_7455.2 s2 z4.1 z4.2 kn1 kn0) (oz1484 w54) (oz1350 kn0)) (by decide) ?_
              intro vg55 ig55 ag55 qg55 rg55 kg55 hg55
              have hGg55 := kG_call hJ1 kg55 (by decide +kernel)
              first | refine fo_goS mi_k215 fz215_50_1_93 [.int vg55] (by rfl) ?_ | refine fo_goS mi_k215 fz215_66_1_93 [.int vg55] (by rfl) ?_ | refine fo_goS mi_k215 fz215_82_1_93 [.int vg55] (by rfl) ?_ | refine ft_goS mi_k215 1 93 [.int vg55] (by rfl) ?_ | refine ft_go mi_k215 1 93 [(4, .int ((a 134).getD x1.toNatClampNeg 0)), (0, .ref 116), (1, .int x1), (2, .int x2), (3, .int x3)] [.int vg55] ig55 ag55 qg55 rg55 (by rfl) ?_
              exact ft_ret mi_k215 (by rfl) (hP vg55 _ _ _ _ hGg55 trivial)
            by_cases w57 : ((a 134).getD x1.toNatClampNeg 0).toInt = 7
            ·
              refine ko_eq (x1 := (79, [(4, .int ((a 134).getD x1.toNatClampNeg 0)), (0, .ref 116), (1, .int x1), (2, .int x2), (3, .int x3)], [.int x3, .int 7, .int x1, .ref 116], (0, 0), ks (ku i 7457 0) a q r)) (by rw [(kj_eq w57 (by decide) : ((a 134).getD x1.toNatClampNeg 0) = 7)]) ?_
              refine ko_callI mi_k215.1 (pc := 79) (ls := [(4, .int ((a 134).getD x1.toNatClampNeg 0)), (0, .ref 116), (1, .int x1), (2, .int x2), (3, .int x3)]) (st := [.int x3, .int 7, .int x1, .ref 116]) (h := ks (ku i 7457 0) a q r) (i := (.invokevirtual 363, 3, 212, 0, 9, 0, 467)) (mi_k215.2 _ _ (by rfl)) (ft_invS mi_pq212 (by rfl)) (cy := mi_c212) mi_pq212 rfl (kc212_116_l17_K7 hJ1.I hJ1.R x1 x3 (oz1536 fi_7455.2 s2 z4.1 z4.2 kn1 kn0) (oz1497 r7.2 w57) (oz1378 kn0)) (by decide) ?_
              intro vg58 ig58 ag58 qg58 rg58 kg58 hg58
              have hGg58 := kG_call hJ1 kg58 (by decide +kernel)
              first | refine fo_goS mi_k215 fz215_50_1_93 [.int vg58] (by rfl) ?_ | refine fo_goS mi_k215 fz215_66_1_93 [.int vg58] (by rfl) ?_ | refine fo_goS mi_k215 fz215_82_1_93 [.int vg58] (by rfl) ?_ | refine ft_goS mi_k215 1 93 [.int vg58] (by rfl) ?_ | refine ft_go mi_k215 1 93 [(4, .int ((a 134).getD x1.toNatClampNeg 0)), (0, .ref 116), (1, .int x1), (2, .int x2), (3, .int x3)] [.int vg58] ig58 ag58 qg58 rg58 (by rfl) ?_
              exact ft_ret mi_k215 (by rfl) (hP vg58 _ _ _ _ hGg58 trivial)
            exact (oz1583 r7.1 r7.2 w36 w39 w42 w45 w48 w51 w54 w57).elim
        ·
          have c60 : x2.toInt = (1 : Int32).toInt := kd_neF c; clear c
          first | refine ft_goS mi_k215 4 63 [.int x3, .int ((a 134).getD x1.toNatClampNeg 0), .int x1, .ref 116] (by rfl) ?_ | refine ft_go mi_k215 4 63 [(4, .int ((a 134).getD x1.toNatClampNeg 0)), (0, .ref 116), (1, .int x1), (2, .int x2), (3, .int x3)] [.int x3, .int ((a 134).getD x1.toNatClampNeg 0), .int x1, .ref 116] (ku i 7457 0) a q r (by rfl) ?_
          by_cases w61 : ((a 134).getD x1.toNatClampNeg 0).toInt = 0
          ·
            refine ko_eq (x1 := (63, [(4, .int ((a 134).getD x1.toNatClampNeg 0)), (0, .ref 116), (1, .int x1), (2, .int x2), (3, .int x3)], [.int x3, .int 0, .int x1, .ref 116], (0, 0), ks (ku i 7457 0) a q r)) (by rw [(kj_eq w61 (by decide) : ((a 134).getD x1.toNatClampNeg 0) = 0)]) ?_
            refine ko_callI mi_k215.1 (pc := 63) (ls := [(4, .int ((a 134).getD x1.toNatClampNeg 0)), (0, .ref 116), (1, .int x1), (2, .int x2), (3, .int x3)]) (st := [.int x3, .int 0, .int x1, .ref 116]) (h := ks (ku i 7457 0) a q r) (i := (.invokevirtual 360, 3, 211, 0, 9, 0, 466)) (mi_k215.2 _ _ (by rfl)) (ft_invS mi_pq211 (by rfl)) (cy := mi_c211) mi_pq211 rfl (kc211_116_l10_K0 hJ1.I hJ1.R x1 x3 (oz1536 fi_7455.2 s2 z4.1 z4.2 kn1 kn0) (oz1348 r7.1 w61) (oz1362 kn0)) (by decide) ?_
            intro vg62 ig62 ag62 qg62 rg62 kg62 hg62
            have hGg62 := kG_call hJ1 kg62 (by decide +kernel)
            first | refine fo_goS mi_k215 fz215_50_1_93 [.int vg62] (by rfl) ?_ | refine fo_goS mi_k215 fz215_66_1_93 [.int vg62] (by rfl) ?_ | refine fo_goS mi_k215 fz215_82_1_93 [.int vg62] (by rfl) ?_ | refine ft_goS mi_k215 1 93 [.int vg62] (by rfl) ?_ | refine ft_go mi_k215 1 93 [(4, .int ((a 134).getD x1.toNatClampNeg 0)), (0, .ref 116), (1, .int x1), (2, .int x2), (3, .int x3)] [.int vg62] ig62 ag62 qg62 rg62 (by rfl) ?_
            exact ft_ret mi_k215 (by rfl) (hP vg62 _ _ _ _ hGg62 trivial)
          by_cases w64 : ((a 134).getD x1.toNatClampNeg 0).toInt = 1
          ·
            refine ko_eq (x1 := (63, [(4, .int ((a 134).getD x1.toNatClampNeg 0)), (0, .ref 116), (1, .int x1), (2, .int x2), (3, .int x3)], [.int x3, .int 1, .int x1, .ref 116], (0, 0), ks (ku i 7457 0) a q r)) (by rw [(kj_eq w64 (by decide) : ((a 134).getD x1.toNatClampNeg 0) = 1)]) ?_
            refine ko_callI mi_k215.1 (pc := 63) (ls := [(4, .int ((a 134).getD x1.toNatClampNeg 0)), (0, .ref 116), (1, .int x1), (2, .int x2), (3, .int x3)]) (st := [.int x3, .int 1, .int x1, .ref 116]) (h := ks (ku i 7457 0) a q r) (i := (.invokevirtual 360, 3, 211, 0, 9, 0, 466)) (mi_k215.2 _ _ (by rfl)) (ft_invS mi_pq211 (by rfl)) (cy := mi_c211) mi_pq211 rfl (kc211_116_l11_K1 hJ1.I hJ1.R x1 x3 (oz1536 fi_7455.2 s2 z4.1 z4.2 kn1 kn0) (oz1381 w64) (oz1391 kn0)) (by decide) ?_
            intro vg65 ig65 ag65 qg65 rg65 kg65 hg65
            have hGg65 := kG_call hJ1 kg65 (by decide +kernel)
            first | refine fo_goS mi_k215 fz215_50_1_93 [.int vg65] (by rfl) ?_ | refine fo_goS mi_k215 fz215_66_1_93 [.int vg65] (by rfl) ?_ | refine fo_goS mi_k215 fz215_82_1_93 [.int vg65] (by rfl) ?_ | refine ft_goS mi_k215 1 93 [.int vg65] (by rfl) ?_ | refine ft_go mi_k215 1 93 [(4, .int ((a 134).getD x1.toNatClampNeg 0)), (0, .ref 116), (1, .int x1), (2, .int x2), (3, .int x3)] [.int vg65] ig65 ag65 qg65 rg65 (by rfl) ?_
            exact ft_ret mi_k215 (by rfl) (hP vg65 _ _ _ _ hGg65 trivial)
          by_cases w67 : ((a 134).getD x1.toNatClampNeg 0).toInt = 2
          ·
            refine ko_eq (x1 := (63, [(4, .int ((a 134).getD x1.toNatClampNeg 0)), (0, .ref 116), (1, .int x1), (2, .int x2), (3, .int x3)], [.int x3, .int 2, .int x1, .ref 116], (0, 0), ks (ku i 7457 0) a q r)) (by rw [(kj_eq w67 (by decide) : ((a 134).getD x1.toNatClampNeg 0) = 2)]) ?_
            refine ko_callI mi_k215.1 (pc := 63) (ls := [(4, .int ((a 134).getD x1.toNatClampNeg 0)), (0, .ref 116), (1, .int x1), (2, .int x2), (3, .int x3)]) (st := [.int x3, .int 2, .int x1, .ref 116]) (h := ks (ku i 7457 0) a q r) (i := (.invokevirtual 360, 3, 211, 0, 9, 0, 466)) (mi_k215.2 _ _ (by rfl)) (ft_invS mi_pq211 (by rfl)) (cy := mi_c211) mi_pq211 rfl (kc211_116_l12_K2 hJ1.I hJ1.R x1 x3 (oz1536 fi_7455.2 s2 z4.1 z4.2 kn1 kn0) (oz1411 w67) (oz1391 kn0)) (by decide) ?_
            intro vg68 ig68 ag68 qg68 rg68 kg68 hg68
            have hGg68 := kG_call hJ1 kg68 (by decide +kernel)
            first | refine fo_goS mi_k215 fz215_50_1_93 [.int vg68] (by rfl) ?_ | refine fo_goS mi_k215 fz215_66_1_93 [.int vg68] (by rfl) ?_ | refine fo_goS mi_k215 fz215_82_1_93 [.int vg68] (by rfl) ?_ | refine ft_goS mi_k215 1 93 [.int vg68] (by rfl) ?_ | refine ft_go mi_k215 1 93 [(4, .int ((a 134).getD x1.toNatClampNeg 0)), (0, .ref 116), (1, .int x1), (2, .int x2), (3, .int x3)] [.int vg68] ig68 ag68 qg68 rg68 (by rfl) ?_
            exact ft_ret mi_k215 (by rfl) (hP vg68 _ _ _ _ hGg68 trivial)
          by_cases w70 : ((a 134).getD x1.toNatClampNeg 0).toInt = 3
          ·
            refine ko_eq (x1 := (63, [(4, .int ((a 134).getD x1.toNatClampNeg 0)), (0, .ref 116), (1, .int x1), (2, .int x2), (3, .int x3)], [.int x3, .int 3, .int x1, .ref 116], (0, 0), ks (ku i 7457 0) a q r)) (by rw [(kj_eq w70 (by decide) : ((a 134).getD x1.toNatClampNeg 0) = 3)]) ?_
            refine ko_callI mi_k215.1 (pc := 63) (ls := [(4, .int ((a 134).getD x1.toNatClampNeg 0)), (0, .ref 116), (1, .int x1), (2, .int x2), (3, .int x3)]) (st := [.int x3, .int 3, .int x1, .ref 116]) (h := ks (ku i 7457 0) a q r) (i := (.invokevirtual 360, 3, 211, 0, 9, 0, 466)) (mi_k215.2 _ _ (by rfl)) (ft_invS mi_pq211 (by rfl)) (cy := mi_c211) mi_pq211 rfl (kc211_116_l13_K3 hJ1.I hJ1.R x1 x3 (oz1536 fi_7455.2 s2 z4.1 z4.2 kn1 kn0) (oz1421 w70) (oz1378 kn0)) (by decide) ?_
            intro vg71 ig71 ag71 qg71 rg71 kg71 hg71
            have hGg71 := kG_call hJ1 kg71 (by decide +kernel)
            first | refine fo_goS mi_k215 fz215_50_1_93 [.int vg71] (by rfl) ?_ | refine fo_goS mi_k215 fz215_66_1_93 [.int vg71] (by rfl) ?_ | refine fo_goS mi_k215 fz215_82_1_93 [.int vg71] (by rfl) ?_ | refine ft_goS mi_k215 1 93 [.int vg71] (by rfl) ?_ | refine ft_go mi_k215 1 93 [(4, .int ((a 134).getD x1.toNatClampNeg 0)), (0, .ref 116), (1, .int x1), (2, .int x2), (3, .int x3)] [.int vg71] ig71 ag71 qg71 rg71 (by rfl) ?_
            exact ft_ret mi_k215 (by rfl) (hP vg71 _ _ _ _ hGg71 trivial)
          by_cases w73 : ((a 134).getD x1.toNatClampNeg 0).toInt = 4
          ·
            refine ko_eq (x1 := (63, [(4, .int ((a 134).getD x1.toNatClampNeg 0)), (0, .ref 116), (1, .int x1), (2, .int x2), (3, .int x3)], [.int x3, .int 4, .int x1, .ref 116], (0, 0), ks (ku i 7457 0) a q r)) (by rw [(kj_eq w73 (by decide) : ((a 134).getD x1.toNatClampNeg 0) = 4)]) ?_
            refine ko_callI mi_k215.1 (pc := 63) (ls := [(4, .int ((a 134).getD x1.toNatClampNeg 0)), (0, .ref 116), (1, .int x1), (2, .int x2), (3, .int x3)]) (st := [.int x3, .int 4, .int x1, .ref 116]) (h := ks (ku i 7457 0) a q r) (i := (.invokevirtual 360, 3, 211, 0, 9, 0, 466)) (mi_k215.2 _ _ (by rfl)) (ft_invS mi_pq211 (by rfl)) (cy := mi_c211) mi_pq211 rfl (kc211_116_l14_K4 hJ1.I hJ1.R x1 x3 (oz1536 fi_7455.2 s2 z4.1 z4.2 kn1 kn0) (oz1446 w73) (oz1391 kn0)) (by decide) ?_
            intro vg74 ig74 ag74 qg74 rg74 kg74 hg74
            have hGg74 := kG_call hJ1 kg74 (by decide +kernel)
            first | refine fo_goS mi_k215 fz215_50_1_93 [.int vg74] (by rfl) ?_ | refine fo_goS mi_k215 fz215_66_1_93 [.int vg74] (by rfl) ?_ | refine fo_goS mi_k215 fz215_82_1_93 [.int vg74] (by rfl) ?_ | refine ft_goS mi_k215 1 93 [.int vg74] (by rfl) ?_ | refine ft_go mi_k215 1 93 [(4, .int ((a 134).getD x1.toNatClampNeg 0)), (0, .ref 116), (1, .int x1), (2, .int x2), (3, .int x3)] [.int vg74] ig74 ag74 qg74 rg74 (by rfl) ?_
            exact ft_ret mi_k215 (by rfl) (hP vg74 _ _ _ _ hGg74 trivial)
          by_cases w76 : ((a 134).getD x1.toNatClampNeg 0).toInt = 5
          ·
            refine ko_eq (x1 := (63, [(4, .int ((a 134).getD x1.toNatClampNeg 0)), (0, .ref 116), (1, .int x1), (2, .int x2), (3, .int x3)], [.int x3, .int 5, .int x1, .ref 116], (0, 0), ks (ku i 7457 0) a q r)) (by rw [(kj_eq w76 (by decide) : ((a 134).getD x1.toNatClampNeg 0) = 5)]) ?_
            refine ko_callI mi_k215.1 (pc := 63) (ls := [(4, .int ((a 134).getD x1.toNatClampNeg 0)), (0, .ref 116), (1, .int x1), (2, .int x2), (3, .int x3)]) (st := [.int x3, .int 5, .int x1, .ref 116]) (h := ks (ku i 7457 0) a q r) (i := (.invokevirtual 360, 3, 211, 0, 9, 0, 466)) (mi_k215.2 _ _ (by rfl)) (ft_invS mi_pq211 (by rfl)) (cy := mi_c211) mi_pq211 rfl (kc211_116_l15_K5 hJ1.I hJ1.R x1 x3 (oz1536 fi_7455.2 s2 z4.1 z4.2 kn1 kn0) (oz1470 w76) (oz1378 kn0)) (by decide) ?_
            intro vg77 ig77 ag77 qg77 rg77 kg77 hg77
            have hGg77 := kG_call hJ1 kg77 (by decide +kernel)
            first | refine fo_goS mi_k215 fz215_50_1_93 [.int vg77] (by rfl) ?_ | refine fo_goS mi_k215 fz215_66_1_93 [.int vg77] (by rfl) ?_ | refine fo_goS mi_k215 fz215_82_1_93 [.int vg77] (by rfl) ?_ | refine ft_goS mi_k215 1 93 [.int vg77] (by rfl) ?_ | refine ft_go mi_k215 1 93 [(4, .int ((a 134).getD x1.toNatClampNeg 0)), (0, .ref 116), (1, .int x1), (2, .int x2), (3, .int x3)] [.int vg77] ig77 ag77 qg77 rg77 (by rfl) ?_
            exact ft_ret mi_k215 (by rfl) (hP vg77 _ _ _ _ hGg77 trivial)
          by_cases w79 : ((a 134).getD x1.toNatClampNeg 0).toInt = 6
          ·
            refine ko_eq (x1 := (63, [(4, .int ((a 134).getD x1.toNatClampNeg 0)), (0, .ref 116), (1, .int x1), (2, .int x2), (3, .int x3)], [.int x3, .int 6, .int x1, .ref 116], (0, 0), ks (ku i 7457 0) a q r)) (by rw [(kj_eq w79 (by decide) : ((a 134).getD x1.toNatClampNeg 0) = 6)]) ?_
            refine ko_callI mi_k215.1 (pc := 63) (ls := [(4, .int ((a 134).getD x1.toNatClampNeg 0)), (0, .ref 116), (1, .int x1), (2, .int x2), (3, .int x3)]) (st := [.int x3, .int 6, .int x1, .ref 116]) (h := ks (ku i 7457 0) a q r) (i := (.invokevirtual 360, 3, 211, 0, 9, 0, 466)) (mi_k215.2 _ _ (by rfl)) (ft_invS mi_pq211 (by rfl)) (cy := mi_c211) mi_pq211 rfl (kc211_116_l16_K6 hJ1.I hJ1.R x1 x3 (oz1536 fi_7455.2 s2 z4.1 z4.2 kn1 kn0) (oz1484 w79) (oz1391 kn0)) (by decide) ?_
            intro vg80 ig80 ag80 qg80 rg80 kg80 hg80
            have hGg80 := kG_call hJ1 kg80 (by decide +kernel)
            first | refine fo_goS mi_k215 fz215_50_1_93 [.int vg80] (by rfl) ?_ | refine fo_goS mi_k215 fz215_66_1_93 [.int vg80] (by rfl) ?_ | refine fo_goS mi_k215 fz215_82_1_93 [.int vg80] (by rfl) ?_ | refine ft_goS mi_k215 1 93 [.int vg80] (by rfl) ?_ | refine ft_go mi_k215 1 93 [(4, .int ((a 134).getD x1.toNatClampNeg 0)), (0, .ref 116), (1, .int x1), (2, .int x2), (3, .int x3)] [.int vg80] ig80 ag80 qg80 rg80 (by rfl) ?_
            exact ft_ret mi_k215 (by rfl) (hP vg80 _ _ _ _ hGg80 trivial)
          by_cases w82 : ((a 134).getD x1.toNatClampNeg 0).toInt = 7
          ·
            refine ko_eq (x1 := (63, [(4, .int ((a 134).getD x1.toNatClampNeg 0)), (0, .ref 116), (1, .int x1), (2, .int x2), (3, .int x3)], [.int x3, .int 7, .int x1, .ref 116], (0, 0), ks (ku i 7457 0) a q r)) (by rw [(kj_eq w82 (by decide) : ((a 134).getD x1.toNatClampNeg 0) = 7)]) ?_
            refine ko_callI mi_k215.1 (pc := 63) (ls := [(4, .int ((a 134).getD x1.toNatClampNeg 0)), (0, .ref 116), (1, .int x1), (2, .int x2), (3, .int x3)]) (st := [.int x3, .int 7, .int x1, .ref 116]) (h := ks (ku i 7457 0) a q r) (i := (.invokevirtual 360, 3, 211, 0, 9, 0, 466)) (mi_k215.2 _ _ (by rfl)) (ft_invS mi_pq211 (by rfl)) (cy := mi_c211) mi_pq211 rfl (kc211_116_l17_K7 hJ1.I hJ1.R x1 x3 (oz1536 fi_7455.2 s2 z4.1 z4.2 kn1 kn0) (oz1497 r7.2 w82) (oz1466 kn0)) (by decide) ?_
            intro vg83 ig83 ag83 qg83 rg83 kg83 hg83
            have hGg83 := kG_call hJ1 kg83 (by decide +kernel)
            first | refine fo_goS mi_k215 fz215_50_1_93 [.int vg83] (by rfl) ?_ | refine fo_goS mi_k215 fz215_66_1_93 [.int vg83] (by rfl) ?_ | refine fo_goS mi_k215 fz215_82_1_93 [.int vg83] (by rfl) ?_ | refine ft_goS mi_k215 1 93 [.int vg83] (by rfl) ?_ | refine ft_go mi_k215 1 93 [(4, .int ((a 134).getD x1.toNatClampNeg 0)), (0, .ref 116), (1, .int x1), (2, .int x2), (3, .int x3)] [.int vg83] ig83 ag83 qg83 rg83 (by rfl) ?_
            exact ft_ret mi_k215 (by rfl) (hP vg83 _ _ _ _ hGg83 trivial)
          exact (oz1583 r7.1 r7.2 w61 w64 w67 w70 w73 w76 w79 w82).elim
      ·
        have c85 : x2.toInt = (0 : Int32).toInt := kd_neF c; clear c
        first | refine ft_goS mi_k215 4 47 [.int x3, .int ((a 134).getD x1.toNatClampNeg 0), .int x1, .ref 116] (by rfl) ?_ | refine ft_go mi_k215 4 47 [(4, .int ((a 134).getD x1.toNatClampNeg 0)), (0, .ref 116), (1, .int x1), (2, .int x2), (3, .int x3)] [.int x3, .int ((a 134).getD x1.toNatClampNeg 0), .int x1, .ref 116] (ku i 7457 0) a q r (by rfl) ?_
        by_cases w86 : ((a 134).getD x1.toNatClampNeg 0).toInt = 0
        ·
          refine ko_eq (x1 := (47, [(4, .int ((a 134).getD x1.toNatClampNeg 0)), (0, .ref 116), (1, .int x1), (2, .int x2), (3, .int x3)], [.int x3, .int 0, .int x1, .ref 116], (0, 0), ks (ku i 7457 0) a q r)) (by rw [(kj_eq w86 (by decide) : ((a 134).getD x1.toNatClampNeg 0) = 0)]) ?_
          refine ko_callI mi_k215.1 (pc := 47) (ls := [(4, .int ((a 134).getD x1.toNatClampNeg 0)), (0, .ref 116), (1, .int x1), (2, .int x2), (3, .int x3)]) (st := [.int x3, .int 0, .int x1, .ref 116]) (h := ks (ku i 7457 0) a q r) (i := (.invokevirtual 354, 3, 210, 0, 9, 0, 463)) (mi_k215.2 _ _ (by rfl)) (ft_invS mi_pq210 (by rfl)) (cy := mi_c210) mi_pq210 rfl (kc210_116_l10_K0 hJ1.I hJ1.R x1 x3 (oz1536 fi_7455.2 s2 z4.1 z4.2 kn1 kn0) (oz1348 r7.1 w86) (oz1350 kn0)) (by decide) ?_
          intro vg87 ig87 ag87 qg87 rg87 kg87 hg87
          have hGg87 := kG_call hJ1 kg87 (by decide +kernel)
          first | refine fo_goS mi_k215 fz215_50_1_93 [.int vg87] (by rfl) ?_ | refine fo_goS mi_k215 fz215_66_1_93 [.int vg87] (by rfl) ?_ | refine fo_goS mi_k215 fz215_82_1_93 [.int vg87] (by rfl) ?_ | refine ft_goS mi_k215 1 93 [.int vg87] (by rfl) ?_ | refine ft_go mi_k215 1 93 [(4, .int ((a 134).getD x1.toNatClampNeg 0)), (0, .ref 116), (1, .int x1), (2, .int x2), (3, .int x3)] [.int vg87] ig87 ag87 qg87 rg87 (by rfl) ?_
          exact ft_ret mi_k215 (by rfl) (hP vg87 _ _ _ _ hGg87 trivial)
        by_cases w89 : ((a 134).getD x1.toNatClampNeg 0).toInt = 1
        ·
          refine ko_eq (x1 := (47, [(4, .int ((a 134).getD x1.toNatClampNeg 0)), (0, .ref 116), (1, .int x1), (2, .int x2), (3, .int x3)], [.int x3, .int 1, .int x1, .ref 116], (0, 0), ks (ku i 7457 0) a q r)) (by rw [(kj_eq w89 (by decide) : ((a 134).getD x1.toNatClampNeg 0) = 1)]) ?_
          refine ko_callI mi_k215.1 (pc := 47) (ls := [(4, .int ((a 134).getD x1.toNatClampNeg 0)), (0, .ref 116), (1, .int x1), (2, .int x2), (3, .int x3)]) (st := [.int x3, .int 1, .int x1, .ref 116]) (h := ks (ku i 7457 0) a q r) (i := (.invokevirtual 354, 3, 210, 0, 9, 0, 463)) (mi_k215.2 _ _ (by rfl)) (ft_invS mi_pq210 (by rfl)) (cy := mi_c210) mi_pq210 rfl (kc210_116_l11_K1 hJ1.I hJ1.R x1 x3 (oz1536 fi_7455.2 s2 z4.1 z4.2 kn1 kn0) (oz1381 w89) (oz1362 kn0)) (by decide) ?_
          intro vg90 ig90 ag90 qg90 rg90 kg90 hg90
          have hGg90 := kG_call hJ1 kg90 (by decide +kernel)
          first | refine fo_goS mi_k215 fz215_50_1_93 [.int vg90] (by rfl) ?_ | refine fo_goS mi_k215 fz215_66_1_93 [.int vg90] (by rfl) ?_ | refine fo_goS mi_k215 fz215_82_1_93 [.int vg90] (by rfl) ?_ | refine ft_goS mi_k215 1 93 [.int vg90] (by rfl) ?_ | refine ft_go mi_k215 1 93 [(4, .int ((a 134).getD x1.toNatClampNeg 0)), (0, .ref 116), (1, .int x1), (2, .int x2), (3, .int x3)] [.int vg90] ig90 ag90 qg90 rg90 (by rfl) ?_
          exact ft_ret mi_k215 (by rfl) (hP vg90 _ _ _ _ hGg90 trivial)
        by_cases w92 : ((a 134).getD x1.toNatClampNeg 0).toInt = 2
        ·
          refine ko_eq (x1 := (47, [(4, .int ((a 134).getD x1.toNatClampNeg 0)), (0, .ref 116), (1, .int x1), (2, .int x2), (3, .int x3)], [.int x3, .int 2, .int x1, .ref 116], (0, 0), ks (ku i 7457 0) a q r)) (by rw [(kj_eq w92 (by decide) : ((a 134).getD x1.toNatClampNeg 0) = 2)]) ?_
          refine ko_callI mi_k215.1 (pc := 47) (ls := [(4, .int ((a 134).getD x1.toNatClampNeg 0)), (0, .ref 116), (1, .int x1), (2, .int x2), (3, .int x3)]) (st := [.int x3, .int 2, .int x1, .ref 116]) (h := ks (ku i 7457 0) a q r) (i := (.invokevirtual 354, 3, 210, 0, 9, 0, 463)) (mi_k215.2 _ _ (by rfl)) (ft_invS mi_pq210 (by rfl)) (cy := mi_c210) mi_pq210 rfl (kc210_116_l12_K2 hJ1.I hJ1.R x1 x3 (oz1536 fi_7455.2 s2 z4.1 z4.2 kn1 kn0) (oz1411 w92) (oz1350 kn0)) (by decide) ?_
          intro vg93 ig93 ag93 qg93 rg93 kg93 hg93
          have hGg93 := kG_call hJ1 kg93 (by decide +kernel)
          first | refine fo_goS mi_k215 fz215_50_1_93 [.int vg93] (by rfl) ?_ | refine fo_goS mi_k215 fz215_66_1_93 [.int vg93] (by rfl) ?_ | refine fo_goS mi_k215 fz215_82_1_93 [.int vg93] (by rfl) ?_ | refine ft_goS mi_k215 1 93 [.int vg93] (by rfl) ?_ | refine ft_go mi_k215 1 93 [(4, .int ((a 134).getD x1.toNatClampNeg 0)), (0, .ref 116), (1, .int x1), (2, .int x2), (3, .int x3)] [.int vg93] ig93 ag93 qg93 rg93 (by rfl) ?_
          exact ft_ret mi_k215 (by rfl) (hP vg93 _ _ _ _ hGg93 trivial)
        by_cases w95 : ((a 134).getD x1.toNatClampNeg 0).toInt = 3
        ·
          refine ko_eq (x1 := (47, [(4, .int ((a 134).getD x1.toNatClampNeg 0)), (0, .ref 116), (1, .int x1), (2, .int x2), (3, .int x3)], [.int x3, .int 3, .int x1, .ref 116], (0, 0), ks (ku i 7457 0) a q r)) (by rw [(kj_eq w95 (by decide) : ((a 134).getD x1.toNatClampNeg 0) = 3)]) ?_
          refine ko_callI mi_k215.1 (pc := 47) (ls := [(4, .int ((a 134).getD x1.toNatClampNeg 0)), (0, .ref 116), (1, .int x1), (2, .int x2), (3, .int x3)]) (st := [.int x3, .int 3, .int x1, .ref 116]) (h := ks (ku i 7457 0) a q r) (i := (.invokevirtual 354, 3, 210, 0, 9, 0, 463)) (mi_k215.2 _ _ (by rfl)) (ft_invS mi_pq210 (by rfl)) (cy := mi_c210) mi_pq210 rfl (kc210_116_l13_K3 hJ1.I hJ1.R x1 x3 (oz1536 fi_7455.2 s2 z4.1 z4.2 kn1 kn0) (oz1421 w95) (oz1350 kn0)) (by decide) ?_
          intro vg96 ig96 ag96 qg96 rg96 kg96 hg96
          have hGg96 := kG_call hJ1 kg96 (by decide +kernel)
          first | refine fo_goS mi_k215 fz215_50_1_93 [.int vg96] (by rfl) ?_ | refine fo_goS mi_k215 fz215_66_1_93 [.int vg96] (by rfl) ?_ | refine fo_goS mi_k215 fz215_82_1_93 [.int vg96] (by rfl) ?_ | refine ft_goS mi_k215 1 93 [.int vg96] (by rfl) ?_ | refine ft_go mi_k215 1 93 [(4, .int ((a 134).getD x1.toNatClampNeg 0)), (0, .ref 116), (1, .int x1), (2, .int x2), (3, .int x3)] [.int vg96] ig96 ag96 qg96 rg96 (by rfl) ?_
          exact ft_ret mi_k215 (by rfl) (hP vg96 _ _ _ _ hGg96 trivial)
        by_cases w98 : ((a 134).getD x1.toNatClampNeg 0).toInt = 4
        ·
          refine ko_eq (x1 := (47, [(4, .int ((a 134).getD x1.toNatClampNeg 0)), (0, .ref 116), (1, .int x1), (2, .int x2), (3, .int x3)], [.int x3, .int 4, .int x1, .ref 116], (0, 0), ks (ku i 7457 0) a q r)) (by rw [(kj_eq w98 (by decide) : ((a 134).getD x1.toNatClampNeg 0) = 4)]) ?_
          refine ko_callI mi_k215.1 (pc := 47) (ls := [(4, .int ((a 134).getD x1.toNatClampNeg 0)), (0, .ref 116), (1, .int x1), (2, .int x2), (3, .int x3)]) (st := [.int x3, .int 4, .int x1, .ref 116]) (h := ks (ku i 7457 0) a q r) (i := (.invokevirtual 354, 3, 210, 0, 9, 0, 463)) (mi_k215.2 _ _ (by rfl)) (ft_invS mi_pq210 (by rfl)) (cy := mi_c210) mi_pq210 rfl (kc210_116_l14_K4 hJ1.I hJ1.R x1 x3 (oz1536 fi_7455.2 s2 z4.1 z4.2 kn1 kn0) (oz1446 w98) (oz1362 kn0)) (by decide) ?_
          intro vg99 ig99 ag99 qg99 rg99 kg99 hg99
          have hGg99 := kG_call hJ1 kg99 (by decide +kernel)
          first | refine fo_goS mi_k215 fz215_50_1_93 [.int vg99] (by rfl) ?_ | refine fo_goS mi_k215 fz215_66_1_93 [.int vg99] (by rfl) ?_ | refine fo_goS mi_k215 fz215_82_1_93 [.int vg99] (by rfl) ?_ | refine ft_goS mi_k215 1 93 [.int vg99] (by rfl) ?_ | refine ft_go mi_k215 1 93 [(4, .int ((a 134).getD x1.toNatClampNeg 0)), (0, .ref 116), (1, .int x1), (2, .int x2), (3, .int x3)] [.int vg99] ig99 ag99 qg99 rg99 (by rfl) ?_
          exact ft_ret mi_k215 (by rfl) (hP vg99 _ _ _ _ hGg99 trivial)
        by_cases w101 : ((a 134).getD x1.toNatClampNeg 0).toInt = 5
        ·
          refine ko_eq (x1 := (47, [(4, .int ((a 134).getD x1.toNatClampNeg 0)), (0, .ref 116), (1, .int x1), (2, .int x2), (3, .int x3)], [.int x3, .int 5, .int x1, .ref 116], (0, 0), ks (ku i 7457 0) a q r)) (by rw [(kj_eq w101 (by decide) : ((a 134).getD x1.toNatClampNeg 0) = 5)]) ?_
          refine ko_callI mi_k215.1 (pc := 47) (ls := [(4, .int ((a 134).getD x1.toNatClampNeg 0)), (0, .ref 116), (1, .int x1), (2, .int x2), (3, .int x3)]) (st := [.int x3, .int 5, .int x1, .ref 116]) (h := ks (ku i 7457 0) a q r) (i := (.invokevirtual 354, 3, 210, 0, 9, 0, 463)) (mi_k215.2 _ _ (by rfl)) (ft_invS mi_pq210 (by rfl)) (cy := mi_c210) mi_pq210 rfl (kc210_116_l15_K5 hJ1.I hJ1.R x1 x3 (oz1536 fi_7455.2 s2 z4.1 z4.2 kn1 kn0) (oz1470 w101) (oz1350 kn0)) (by decide) ?_
          intro vg102 ig102 ag102 qg102 rg102 kg102 hg102
          have hGg102 := kG_call hJ1 kg102 (by decide +kernel)
          first | refine fo_goS mi_k215 fz215_50_1_93 [.int vg102] (by rfl) ?_ | refine fo_goS mi_k215 fz215_66_1_93 [.int vg102] (by rfl) ?_ | refine fo_goS mi_k215 fz215_82_1_93 [.int vg102] (by rfl) ?_ | refine ft_goS mi_k215 1 93 [.int vg102] (by rfl) ?_ | refine ft_go mi_k215 1 93 [(4, .int ((a 134).getD x1.toNatClampNeg 0)), (0, .ref 116), (1, .int x1), (2, .int x2), (3, .int x3)] [.int vg102] ig102 ag102 qg102 rg102 (by rfl) ?_
          exact ft_ret mi_k215 (by rfl) (hP vg102 _ _ _ _ hGg102 trivial)
        by_cases w104 : ((a 134).getD x1.toNatClampNeg 0).toInt = 6
        ·
          refine ko_eq (x1 := (47, [(4, .int ((a 134).getD x1.toNatClampNeg 0)), (0, .ref 116), (1, .int x1), (2, .int x2), (3, .int x3)], [.int x3, .int 6, .int x1, .ref 116], (0, 0), ks (ku i 7457 0) a q r)) (by rw [(kj_eq w104 (by decide) : ((a 134).getD x1.toNatClampNeg 0) = 6)]) ?_
          refine ko_callI mi_k215.1 (pc := 47) (ls := [(4, .int ((a 134).getD x1.toNatClampNeg 0)), (0, .ref 116), (1, .int x1), (2, .int x2), (3, .int x3)]) (st := [.int x3, .int 6, .int x1, .ref 116]) (h := ks (ku i 7457 0) a q r) (i := (.invokevirtual 354, 3, 210, 0, 9, 0, 463)) (mi_k215.2 _ _ (by rfl)) (ft_invS mi_pq210 (by rfl)) (cy := mi_c210) mi_pq210 rfl (kc210_116_l16_K6 hJ1.I hJ1.R x1 x3 (oz1536 fi_7455.2 s2 z4.1 z4.2 kn1 kn0) (oz1484 w104) (oz1362 kn0)) (by decide) ?_
          intro vg105 ig105 ag105 qg105 rg105 kg105 hg105
          have hGg105 := kG_call hJ1 kg105 (by decide +kernel)
          first | refine fo_goS mi_k215 fz215_50_1_93 [.int vg105] (by rfl) ?_ | refine fo_goS mi_k215 fz215_66_1_93 [.int vg105] (by rfl) ?_ | refine fo_goS mi_k215 fz215_82_1_93 [.int vg105] (by rfl) ?_ | refine ft_goS mi_k215 1 93 [.int vg105] (by rfl) ?_ | refine ft_go mi_k215 1 93 [(4, .int ((a 134).getD x1.toNatClampNeg 0)), (0, .ref 116), (1, .int x1), (2, .int x2), (3, .int x3)] [.int vg105] ig105 ag105 qg105 rg105 (by rfl) ?_
          exact ft_ret mi_k215 (by rfl) (hP vg105 _ _ _ _ hGg105 trivial)
        by_cases w107 : ((a 134).getD x1.toNatClampNeg 0).toInt = 7
        ·
          refine ko_eq (x1 := (47, [(4, .int ((a 134).getD x1.toNatClampNeg 0)), (0, .ref 116), (1, .int x1), (2, .int x2), (3, .int x3)], [.int x3, .int 7, .int x1, .ref 116], (0, 0), ks (ku i 7457 0) a q r)) (by rw [(kj_eq w107 (by decide) : ((a 134).getD x1.toNatClampNeg 0) = 7)]) ?_
          refine ko_callI mi_k215.1 (pc := 47) (ls := [(4, .int ((a 134).getD x1.toNatClampNeg 0)), (0, .ref 116), (1, .int x1), (2, .int x2), (3, .int x3)]) (st := [.int x3, .int 7, .int x1, .ref 116]) (h := ks (ku i 7457 0) a q r) (i := (.invokevirtual 354, 3, 210, 0, 9, 0, 463)) (mi_k215.2 _ _ (by rfl)) (ft_invS mi_pq210 (by rfl)) (cy := mi_c210) mi_pq210 rfl (kc210_116_l17_K7 hJ1.I hJ1.R x1 x3 (oz1536 fi_7455.2 s2 z4.1 z4.2 kn1 kn0) (oz1497 r7.2 w107) (oz1362 kn0)) (by decide) ?_
          intro vg108 ig108 ag108 qg108 rg108 kg108 hg108
          have hGg108 := kG_call hJ1 kg108 (by decide +kernel)
          first | refine fo_goS mi_k215 fz215_50_1_93 [.int vg108] (by rfl) ?_ | refine fo_goS mi_k215 fz215_66_1_93 [.int vg108] (by rfl) ?_ | refine fo_goS mi_k215 fz215_82_1_93 [.int vg108] (by rfl) ?_ | refine ft_goS mi_k215 1 93 [.int vg108] (by rfl) ?_ | refine ft_go mi_k215 1 93 [(4, .int ((a 134).getD x1.toNatClampNeg 0)), (0, .ref 116), (1, .int x1), (2, .int x2), (3, .int x3)] [.int vg108] ig108 ag108 qg108 rg108 (by rfl) ?_
          exact ft_ret mi_k215 (by rfl) (hP vg108 _ _ _ _ hGg108 trivial)
        exact (oz1584 r7.1 r7.2 w101 w104 w107 w86 w89 w92 w95 w98).elim
    ·
      subst eg5
      first | refine ft_goS mi_k215 2 29 [.int 0] (by rfl) ?_ | refine ft_go mi_k215 2 29 [(0, .ref 116), (1, .int x1), (2, .int x2), (3, .int x3)] [.int 0] (ku i 7457 0) a q r (by rfl) ?_
      exact ft_ret mi_k215 (by rfl) (hP 0 _ _ _ _ hJ1 trivial)
  ·
    subst eg3
    first | refine ft_goS mi_k215 2 29 [.int 0] (by rfl) ?_ | refine ft_go mi_k215 2 29 [(0, .ref 116), (1, .int x1), (2, .int x2), (3, .int x3)] [.int 0] (ku i 7457 0) a q r (by rfl) ?_
    exact ft_ret mi_k215 (by rfl) (hP 0 _ _ _ _ hJ1 trivial)
end
section
/-! THE SHELVES: what the class and the reference hold -/
def kVw (i : Nat → Int32) (q : Nat → List Int64) (t : Nat) : Int32 × Int32 × Int32 × Int32 × List Int64 := (i (6656 + 128 * t), i (6657 + 128 * t), i (6658 + 128 * t), i (6659 + 128 * t), q (105 + 2 * t))
theorem kVw_eq {i i1 : Nat → Int32} {q q1 : Nat → List Int64} {t : Nat} (a : i1 (6656 + 128 * t) = i (6656 + 128 * t)) (b : i1 (6657 + 128 * t) = i (6657 + 128 * t)) (c : i1 (6658 + 128 * t) = i (6658 + 128 * t)) (d : i1 (6659 + 128 * t) = i (6659 + 128 * t)) (e : q1 (105 + 2 * t) = q (105 + 2 * t)) : kVw i1 q1 t = kVw i q t := by
  unfold kVw
  rw [a, b, c, d, e]
def kOth (i : Nat → Int32) (q : Nat → List Int64) (i1 : Nat → Int32) (q1 : Nat → List Int64) (s : Int) : Prop := ∀ t : Nat, t < 6 → (t : Int) ≠ s → kVw i1 q1 t = kVw i q t
def kNar (sort : Int32) (v : Int64) : Int64 := if sort.toInt = 0 then v.toInt32.toInt8.toInt32.toInt64 else if sort.toInt = 1 then v.toInt32.toInt16.toInt32.toInt64 else if sort.toInt = 2 then v.toInt32.toInt64 else if sort.toInt = 3 then v else if v.toInt = 0 then 0 else 1
/-- one SHELF of the class beside one of the reference -/
def kSh1 (t : Nat) (i : Nat → Int32) (a : Nat → List Int32) (q : Nat → List Int64) : Prop :=
  ((i (6656 + 128 * t)).toInt = 0 → ((a 136).getD t 0).toInt = -1) ∧ ((i (6656 + 128 * t)).toInt = 1 → ((a 136).getD t 0).toInt = 10 + (i (6657 + 128 * t)).toInt ∧ 0 ≤ (i (6657 + 128 * t)).toInt) ∧ ((i (6656 + 128 * t)).toInt = 2 → ((a 136).getD t 0).toInt = (i (6658 + 128 * t)).toInt ∧ ((a 137).getD t 0).toInt = (i (6659 + 128 * t)).toInt ∧ ∀ j : Nat, (j : Int) < (i (6659 + 128 * t)).toInt → (q (105 + 2 * t)).getD j 0 = (q 138).getD (60 * t + j) 0)
def kShel (i : Nat → Int32) (a : Nat → List Int32) (q : Nat → List Int64) : Prop := ∀ t : Nat, t < 6 → kSh1 t i a q
theorem kSh1_of {t : Nat} {i i1 : Nat → Int32} {a a1 : Nat → List Int32} {q q1 : Nat → List Int64} (h : kSh1 t i a q) (e : kVw i1 q1 t = kVw i q t) (e1 : (a1 136).getD t 0 = (a 136).getD t 0) (e2 : (a1 137).getD t 0 = (a 137).getD t 0) (e3 : ∀ j : Nat, j < 60 → (q1 138).getD (60 * t + j) 0 = (q 138).getD (60 * t + j) 0) (hl : (i (6659 + 128 * t)).toInt ≤ 60) : kSh1 t i1 a1 q1 := by
  unfold kVw at e
  have f1 := congrArg (fun z => z.1) e
  have f2 := congrArg (fun z => z.2.1) e
  have f3 := congrArg (fun z => z.2.2.1) e
  have f4 := congrArg (fun z => z.2.2.2.1) e
  have f5 := congrArg (fun z => z.2.2.2.2) e
  dsimp only at f1 f2 f3 f4 f5
  unfold kSh1
  rw [f1, f2, f3, f4, f5, e1, e2]
  refine ⟨h.1, h.2.1, fun z => ?_⟩
  obtain ⟨x, y, w⟩ := h.2.2 z
  refine ⟨x, y, fun j hj => ?_⟩
  rw [e3 j (by omega)]
  exact w j hj
/-- noughts, from the place b on, n of them -/
def kZer (l : List Int64) (b n : Nat) : Prop := ∀ j : Nat, j < n → l.getD (b + j) 0 = 0
theorem kset_getL {l : List Int64} {j m : Nat} {x : Int64} (h : j < l.length) : (l.set j x).getD m 0 = if m = j then x else l.getD m 0 := by
  by_cases e : m = j
  · subst e
    rw [if_pos rfl, List.getD_eq_getElem?_getD, List.getElem?_set_self h]
    rfl
  · rw [if_neg e, List.getD_eq_getElem?_getD, List.getElem?_set_ne (fun z => e z.symm), ← List.getD_eq_getElem?_getD]
theorem kZer_start {l : List Int64} {b : Nat} {z : Int32} (hz : z.toInt = 0) : kZer l b z.toInt.toNat := by
  rw [hz]
  exact fun j h => absurd h (Nat.not_lt_zero _)
theorem kZer_step {l l1 : List Int64} {b n : Nat} {x x1 y : Int32} (h : kZer l b x.toInt.toNat) (hl : l.length = n) (h0 : 0 ≤ x.toInt) (hy : y.toInt = (b : Int) + x.toInt) (hn : y.toInt < (n : Int)) (hx : x1.toInt = x.toInt + 1) (e : l1 = l.set y.toNatClampNeg 0) : kZer l1 b x1.toInt.toNat := by
  have t := Int32.toNat_toInt y
  subst e
  intro j hj
  rw [kset_getL (by omega)]
  by_cases z : b + j = y.toNatClampNeg
  · rw [if_pos z]
  · rw [if_neg z]; exact h j (by omega)
theorem kZer_cast {l l1 : List Int64} {b n n1 : Nat} (h : kZer l b n) (e : l1 = l) (hn : n1 ≤ n) : kZer l1 b n1 := by subst e; exact fun j hj => h j (by omega)
/-- but for those from b on, m of them, all as before -/
def kFar (l0 l : List Int64) (b m : Nat) : Prop := ∀ j : Nat, ¬ (b ≤ j ∧ j < b + m) → l.getD j 0 = l0.getD j 0
theorem kFar_start {l0 l : List Int64} {b m : Nat} (e : l = l0) : kFar l0 l b m := by subst e; exact fun _ _ => rfl
theorem kFar_step {l0 l l1 : List Int64} {b m n : Nat} {y : Int32} {v : Int64} (h : kFar l0 l b m) (hl : l.length = n) (h0 : (b : Int) ≤ y.toInt) (h1 : y.toInt < (b : Int) + (m : Int)) (hn : y.toInt < (n : Int)) (e : l1 = l.set y.toNatClampNeg v) : kFar l0 l1 b m := by
  have t := Int32.toNat_toInt y
  subst e
  intro j hj
  rw [kset_getL (by omega), if_neg (by omega)]
  exact h j hj
theorem kNar_0 {s : Int32} {v : Int64} (h : s.toInt = 0) : kNar s v = v.toInt32.toInt8.toInt32.toInt64 := if_pos h
theorem kNar_1 {s : Int32} {v : Int64} (h : s.toInt = 1) : kNar s v = v.toInt32.toInt16.toInt32.toInt64 := by unfold kNar; rw [if_neg (by omega), if_pos h]
theorem kNar_2 {s : Int32} {v : Int64} (h : s.toInt = 2) : kNar s v = v.toInt32.toInt64 := by unfold kNar; rw [if_neg (by omega), if_neg (by omega), if_pos h]
theorem kNar_3 {s : Int32} {v : Int64} (h : s.toInt = 3) : kNar s v = v := by unfold kNar; rw [if_neg (by omega), if_neg (by omega), if_neg (by omega), if_pos h]
theorem kNar_n {s : Int32} {v : Int64} (h0 : s.toInt ≠ 0) (h1 : s.toInt ≠ 1) (h2 : s.toInt ≠ 2) (h3 : s.toInt ≠ 3) (hv : v.toInt = 0) : kNar s v = 0 := by unfold kNar; rw [if_neg h0, if_neg h1, if_neg h2, if_neg h3, if_pos hv]
theorem kNar_p {s : Int32} {v : Int64} (h0 : s.toInt ≠ 0) (h1 : s.toInt ≠ 1) (h2 : s.toInt ≠ 2) (h3 : s.toInt ≠ 3) (hv : v.toInt ≠ 0) : kNar s v = 1 := by unfold kNar; rw [if_neg h0, if_neg h1, if_neg h2, if_neg h3, if_neg hv]
theorem kj_at {t s : Nat} {x : Int} (ht : (t : Int) = x) (hx : x = (s : Int)) : t = s := by omega
theorem kset_o {l l1 o : List Int32} {j : Nat} {v : Int32} (e : l1 = l.set j v) (eo : l = o) : l1 = o.set j v := by subst eo; exact e
theorem kj_60 {x : Int} (h : 60 ≤ x) : 60 ≤ x.toNat := by omega
end
