theorem oz1414 {a0 : Int} (h0 : a0 = 10) : (0 : Int) ≤ a0 := by omega
theorem oz1416 {a0 : Int} (h0 : a0 = 11) : (0 : Int) ≤ a0 := by omega
theorem oz1418 {a0 : Int} (h0 : a0 = 12) : (0 : Int) ≤ a0 := by omega
theorem oz1420 {a0 : Int} (h0 : a0 = 3) : a0 < 8 := by omega
theorem oz1421 {a0 : Int} (h0 : a0 = 3) : a0 = 3 := by omega
theorem oz1422 {a0 a1 : Int} (h0 : a0 = 3) (h1 : a1 = a0) : a1 = 3 := by omega
theorem oz1423 {a0 : Int} (h0 : a0 = 13) : (0 : Int) ≤ a0 := by omega
theorem oz1425 {a0 : Int} (h0 : a0 = 14) : (0 : Int) ≤ a0 := by omega
theorem oz1427 {a0 : Int} (h0 : a0 = 15) : (0 : Int) ≤ a0 := by omega
theorem oz1429 {a0 a1 a2 : Int} (h0 : (a0 + 7) ≤ 900) (h1 : a1 = a0 + a2) (h2 : a2 = 1) : a1 ≤ 1000 := by omega
theorem oz1430 {a0 a1 : Int} (h0 : (a0 + 5) ≤ 39) (h1 : a1 = 1) : a0 + a1 ≤ 2147483647 := by omega
theorem oz1431 {a0 : Int} (h0 : (0 : Int) ≤ a0) (h1 : (a0 + 4) ≤ 39) : ((0 : Int) ≤ a0) ∧ ((a0 + 4) ≤ 39) := by omega
theorem oz1432 {a0 : Int} (h0 : (0 : Int) ≤ a0) (h1 : (a0 + 6) ≤ 900) : ((0 : Int) ≤ a0) ∧ ((a0 + 4) ≤ 900) := by omega
theorem oz1433 {a0 : Int} (h0 : (0 : Int) ≤ a0) (h1 : (a0 + 4) ≤ 39) : ((0 : Int) ≤ a0) ∧ ((a0 + 2) ≤ 39) := by omega
theorem oz1434 {a0 a1 : Int} (h0 : (0 : Int) ≤ a0) (h1 : (a1 + 6) ≤ 900) (h2 : a0 = (a1 + 4)) : ((0 : Int) ≤ a0) ∧ ((a0 + 2) ≤ 900) := by omega
theorem oz1435 {a0 a1 a2 : Int} (h0 : a0 = (a1 + 4)) (h1 : a2 = (a0 + 2)) : a2 = (a1 + 6) := by omega
theorem oz1436 {a0 a1 a2 : Int} (h0 : (0 : Int) ≤ a0) (h1 : (a0 + 5) ≤ 39) (h2 : a1 = a0 + a2) (h3 : a2 = 1) : ((0 : Int) ≤ a1) ∧ ((a1 + 4) ≤ 39) := by omega
theorem oz1437 {a0 a1 a2 a3 : Int} (h0 : a0 ≤ a1) (h1 : (a1 + 7) ≤ 900) (h2 : a2 = a1 + a3) (h3 : a0 = 24) (h4 : a3 = 1) : ((0 : Int) ≤ a2) ∧ ((a2 + 6) ≤ 900) := by omega
theorem oz1438 {a0 a1 a2 a3 : Int} (h0 : a0 = a1 + a2) (h1 : a3 = (a0 + 6)) (h2 : a2 = 1) : a3 = (a1 + 7) := by omega
theorem oz1439 {a0 a1 a2 : Int} (h0 : (0 : Int) ≤ a0) (h1 : (a0 + 7) ≤ 900) (h2 : a1 = a0 + a2) (h3 : a2 = 1) : ((0 : Int) ≤ a1) ∧ ((a1 + 6) ≤ 900) := by omega
theorem oz1440 {a0 a1 : Int} (h0 : a0 ≤ a1) (h1 : (a1 + 5) ≤ 39) (h2 : a0 = 40) : False := by omega
theorem oz1441 {a0 : Int} (h0 : a0 = 0) : ((0 : Int) ≤ a0) ∧ ((a0 + 5) ≤ 39) := by omega
theorem oz1442 {a0 : Int} (h0 : a0 = 0) : ((0 : Int) ≤ a0) ∧ ((a0 + 7) ≤ 900) := by omega
theorem oz1445 {a0 : Int} (h0 : a0 = 4) : a0 < 8 := by omega
theorem oz1446 {a0 : Int} (h0 : a0 = 4) : a0 = 4 := by omega
theorem oz1447 {a0 a1 : Int} (h0 : a0 = 4) (h1 : a1 = a0) : a1 = 4 := by omega
theorem oz1451 {a0 a1 a2 : Int} (h0 : (0 : Int) ≤ a0) (h1 : (a0 + 3) ≤ 39) (h2 : a1 = a0 + a2) (h3 : a2 = 1) : ((0 : Int) ≤ a1) ∧ ((a1 + 1) ≤ 39) := by omega
theorem oz1452 {a0 a1 a2 a3 : Int} (h0 : a0 ≤ a1) (h1 : (a1 + 4) ≤ 900) (h2 : a2 = a1 + a3) (h3 : a0 = 24) (h4 : a3 = 1) : ((0 : Int) ≤ a2) ∧ ((a2 + 1) ≤ 900) := by omega
theorem oz1453 {a0 a1 a2 a3 a4 : Int} (h0 : a0 ≤ a1) (h1 : (a1 + 4) ≤ 900) (h2 : a2 = a1 + a3) (h3 : a4 = (a2 + 1)) (h4 : a0 = 24) (h5 : a3 = 1) : ((0 : Int) ≤ a4) ∧ ((a4 + 2) ≤ 900) := by omega
theorem oz1454 {a0 a1 a2 a3 a4 : Int} (h0 : a0 = a1 + a2) (h1 : a3 = (a0 + 1)) (h2 : a4 = (a3 + 2)) (h3 : a2 = 1) : a4 = (a1 + 4) := by omega
theorem oz1455 {a0 a1 a2 : Int} (h0 : (0 : Int) ≤ a0) (h1 : (a0 + 4) ≤ 900) (h2 : a1 = a0 + a2) (h3 : a2 = 1) : ((0 : Int) ≤ a1) ∧ ((a1 + 1) ≤ 900) := by omega
theorem oz1456 {a0 a1 a2 : Int} (h0 : a0 = 4) (h1 : a1 = a0) (h2 : a2 = a1) : a2 = 4 := by omega
theorem oz1457 {a0 a1 a2 a3 : Int} (h0 : (0 : Int) ≤ a0) (h1 : (a1 + 4) ≤ 900) (h2 : a2 = a1 + a3) (h3 : a0 = (a2 + 1)) (h4 : a3 = 1) : ((0 : Int) ≤ a0) ∧ ((a0 + 2) ≤ 900) := by omega
theorem oz1459 {a0 a1 a2 : Int} (h0 : (a0 + 8) ≤ 900) (h1 : a1 = a0 + a2) (h2 : a2 = 1) : a1 ≤ 1000 := by omega
theorem oz1460 {a0 : Int} (h0 : (0 : Int) ≤ a0) (h1 : (a0 + 7) ≤ 900) : ((0 : Int) ≤ a0) ∧ ((a0 + 3) ≤ 900) := by omega
theorem oz1461 {a0 a1 : Int} (h0 : (0 : Int) ≤ a0) (h1 : (a1 + 7) ≤ 900) (h2 : a0 = (a1 + 3)) : ((0 : Int) ≤ a0) ∧ ((a0 + 4) ≤ 900) := by omega
theorem oz1462 {a0 a1 a2 : Int} (h0 : a0 = (a1 + 3)) (h1 : a2 = (a0 + 4)) : a2 = (a1 + 7) := by omega
theorem oz1463 {a0 a1 a2 a3 : Int} (h0 : a0 ≤ a1) (h1 : (a1 + 8) ≤ 900) (h2 : a2 = a1 + a3) (h3 : a0 = 24) (h4 : a3 = 1) : ((0 : Int) ≤ a2) ∧ ((a2 + 7) ≤ 900) := by omega
theorem oz1464 {a0 a1 a2 a3 : Int} (h0 : a0 = a1 + a2) (h1 : a3 = (a0 + 7)) (h2 : a2 = 1) : a3 = (a1 + 8) := by omega
theorem oz1465 {a0 a1 a2 : Int} (h0 : (0 : Int) ≤ a0) (h1 : (a0 + 8) ≤ 900) (h2 : a1 = a0 + a2) (h3 : a2 = 1) : ((0 : Int) ≤ a1) ∧ ((a1 + 7) ≤ 900) := by omega
theorem oz1466 {a0 : Int} (h0 : a0 = 0) : ((0 : Int) ≤ a0) ∧ ((a0 + 8) ≤ 900) := by omega
theorem oz1469 {a0 : Int} (h0 : a0 = 5) : a0 < 8 := by omega
theorem oz1470 {a0 : Int} (h0 : a0 = 5) : a0 = 5 := by omega
theorem oz1471 {a0 a1 : Int} (h0 : a0 = 5) (h1 : a1 = a0) : a1 = 5 := by omega
set_option maxRecDepth 100000 in
theorem kc11_l02_l12 {i : Nat → Int32} {a : Nat → List Int32} {q : Nat → List Int64} {r : Nat → Nat} (hI : kI i a q) (hr : kr r)  : km 1 11 [.int 2, .int 2] (ks i a q r) (kPI (ks i a q r) (fun v => v.toInt = 0)) := by
  have hG := kG_self kW0 hI hr
  refine km_ofPI (q := (mi_h11, mi_c11)) rfl (by decide) (Nat.le_of_ble_eq_true rfl) ?_
  intro P hP
  first | refine ft_goL mi_k11 16 26 [(3, .int 0), (2, .int 2), (0, .int 2), (1, .int 2)] [.int (2 * 4), .ref (mi_RO + 3)] (by rfl) ?_ | refine ft_go mi_k11 16 26 [(3, .int 0), (2, .int 2), (0, .int 2), (1, .int 2)] [.int (2 * 4), .ref (mi_RO + 3)] i a q r (by rfl) ?_
  refine ko_top (by decide : (2 * 4 : Int32) = 8) ?_
  first | refine fo_goS mi_k11 fz11_26_2_28 [.int (8 + 2), .ref (mi_RO + 3)] (by rfl) ?_ | refine ft_go mi_k11 2 28 [(3, .int 0), (2, .int 2), (0, .int 2), (1, .int 2)] [.int (8 + 2), .ref (mi_RO + 3)] i a q r (by rfl) ?_
  refine ko_top (by decide : (8 + 2 : Int32) = 10) ?_
  refine ft_ro mi_k11 (w := 0) (by decide +kernel) (by decide +kernel) ?_
  first | refine ft_goS mi_k11 3 38 [.int 2, .ref (mi_RO + 4)] (by rfl) ?_ | refine ft_go mi_k11 3 38 [(3, .int 0), (2, .int 2), (0, .int 2), (1, .int 2)] [.int 2, .ref (mi_RO + 4)] i a q r (by rfl) ?_
  refine ft_ro mi_k11 (w := 0) (by decide +kernel) (by decide +kernel) ?_
  first | refine fo_goL mi_k11 fz11_39_2_43 [(3, .int (0 + 1)), (2, .int 0), (0, .int 2), (1, .int 2)] [] (by rfl) ?_ | refine ft_go mi_k11 2 43 [(3, .int (0 + 1)), (2, .int 0), (0, .int 2), (1, .int 2)] [] i a q r (by rfl) ?_
  refine ko_loc (by decide : (0 + 1 : Int32) = 1) ?_
  first | refine ft_goL mi_k11 7 47 [(3, .int 1), (2, .int 0), (0, .int 2), (1, .int 2)] [.int 0] (by rfl) ?_ | refine ft_goS mi_k11 7 47 [.int 0] (by rfl) ?_ | refine ft_go mi_k11 7 47 [(3, .int 1), (2, .int 0), (0, .int 2), (1, .int 2)] [.int 0] i a q r (by rfl) ?_
  exact ft_ret mi_k11 (by rfl) (hP 0 (oz236 kn0))
def w14_94_l12_K2 : kW := ([], [], [], [])
set_option maxRecDepth 100000 in
theorem kc14_94_l12_K2 {i : Nat → Int32} {a : Nat → List Int32} {q : Nat → List Int64} {r : Nat → Nat} (hI : kI i a q) (hr : kr r) (x1 : Int32) (x3 : Int32) (x4 : Int32) (hp0 : ((0 : Int) ≤ x1.toInt) ∧ (x1.toInt ≤ 49)) (hp1 : ((a 95).getD x1.toNatClampNeg 0).toInt = 2) (hp2 : ((0 : Int) ≤ x4.toInt) ∧ ((x4.toInt + 0) ≤ 39)) (hp3 : ((0 : Int) ≤ (i 6019).toInt) ∧ (((i 6019).toInt + 0) ≤ 900)) : km 1 14 [.ref 94, .int x1, .int 2, .int x3, .int x4] (ks i a q r) (kVI w14_94_l12_K2 i a q r (fun v i1 a1 q1 r1 => (i1 6019).toInt = ((i 6019).toInt + 0))) := by
  have hG := kG_self w14_94_l12_K2 hI hr
  refine km_ofI (q := (mi_h14, mi_c14)) rfl (by decide) (Nat.le_of_ble_eq_true rfl) ?_
  intro P hP
  have r1 : ((0 : Int) ≤ ((a 95).getD x1.toNatClampNeg 0).toInt) ∧ (((a 95).getD x1.toNatClampNeg 0).toInt ≤ 7) := hG.I.2.2.1 95 (x1.toNatClampNeg)
  first | refine fo_goL mi_k14 fz14_0_3_5 [(0, .ref 94), (1, .int x1), (2, .int 2), (3, .int x3), (4, .int x4)] [.int x1, .ref 95] (by rfl) ?_ | refine ft_go mi_k14 3 5 [(0, .ref 94), (1, .int x1), (2, .int 2), (3, .int x3), (4, .int x4)] [.int x1, .ref 95] i a q r (by rfl) ?_
  refine ko_iald3 mi_k14.1 (n := 50) (c := 50) (ax := (0, 0, 0, 0, 0)) (mi_k14.2 _ _ (by rfl)) (by rfl) (ksG95 _ _ _ _) (hG.I.2.1 95) rfl (oz3 hp0.1) (oz1336 hp0.2) ?_
  refine ko_top (kj_eq (oz1411 hp1) (by decide) : ((a 95).getD x1.toNatClampNeg 0) = 2) ?_
  first | refine ft_goL mi_k14 6 57 [(5, .int 2), (0, .ref 94), (1, .int x1), (2, .int 2), (3, .int x3), (4, .int x4)] [.int (x3 ^^^ x1)] (by rfl) ?_ | refine ft_go mi_k14 6 57 [(5, .int 2), (0, .ref 94), (1, .int x1), (2, .int 2), (3, .int x3), (4, .int x4)] [.int (x3 ^^^ x1)] i a q r (by rfl) ?_
  exact ft_ret mi_k14 (by rfl) (hP (x3 ^^^ x1) _ _ _ _ hG oz1338)
def w13_94_l12_l22_K2 : kW := ([6019], [96], [], [])
set_option maxRecDepth 100000 in
theorem kc13_94_l12_l22_K2 {i : Nat → Int32} {a : Nat → List Int32} {q : Nat → List Int64} {r : Nat → Nat} (hI : kI i a q) (hr : kr r) (x1 : Int32) (x4 : Int32) (x5 : Int32) (hp0 : ((0 : Int) ≤ x1.toInt) ∧ (x1.toInt ≤ 49)) (hp1 : ((a 95).getD x1.toNatClampNeg 0).toInt = 2) (hp2 : ((0 : Int) ≤ x5.toInt) ∧ ((x5.toInt + 1) ≤ 39)) (hp3 : ((0 : Int) ≤ (i 6019).toInt) ∧ (((i 6019).toInt + 1) ≤ 900)) : km 3 13 [.ref 94, .int x1, .int 2, .int 2, .int x4, .int x5] (ks i a q r) (kVI w13_94_l12_l22_K2 i a q r (fun v i1 a1 q1 r1 => (i1 6019).toInt = ((i 6019).toInt + 1))) := by
  have hG := kG_self w13_94_l12_l22_K2 hI hr
  refine km_ofI (q := (mi_h13, mi_c13)) rfl (by decide) (Nat.le_of_ble_eq_true rfl) ?_
  intro P hP
  have r1 : ((0 : Int) ≤ ((a 95).getD x1.toNatClampNeg 0).toInt) ∧ (((a 95).getD x1.toNatClampNeg 0).toInt ≤ 7) := hG.I.2.2.1 95 (x1.toNatClampNeg)
  have fi_6019 : ((0 : Int) ≤ (i 6019).toInt) ∧ ((i 6019).toInt ≤ 1000) := hG.I.1 6019
  first | refine fo_goL mi_k13 fz13_0_2_4 [(0, .ref 94), (1, .int x1), (2, .int 2), (3, .int 2), (4, .int x4), (5, .int x5)] [.int 40, .int x5] (by rfl) ?_ | refine ft_go mi_k13 2 4 [(0, .ref 94), (1, .int x1), (2, .int 2), (3, .int 2), (4, .int x4), (5, .int x5)] [.int 40, .int x5] i a q r (by rfl) ?_
  refine ft_ifS mi_k13 (decide (x5 < 40)) 9 7 [] (by rfl) (fun c => ?_) (fun c => ?_)
  ·
    have c2 : x5.toInt < (40 : Int32).toInt := kd_lt c; clear c
    first | refine fo_goS mi_k13 fz13_9_2_11 [.int 2, .int 2] (by rfl) ?_ | refine ft_go mi_k13 2 11 [(0, .ref 94), (1, .int x1), (2, .int 2), (3, .int 2), (4, .int x4), (5, .int x5)] [.int 2, .int 2] i a q r (by rfl) ?_
    refine ko_callPI mi_k13.1 (pc := 11) (ls := [(0, .ref 94), (1, .int x1), (2, .int 2), (3, .int 2), (4, .int x4), (5, .int x5)]) (st := [.int 2, .int 2]) (h := ks i a q r) (i := (.invokestatic 39, 3, 11, 0, 9, 0, 298)) (mi_k13.2 _ _ (by rfl)) (ft_invS mi_pq11 (by rfl)) (cy := mi_c11) mi_pq11 rfl (kc11_l02_l12 hG.I hG.R ) (by decide) ?_
    intro vg3 hg3
    have z4 : vg3.toInt = 0 := hg3
    have evvg3 := kj_eq (oz236 z4) (by decide : (0 : Int32).toInt = 0)
    subst evvg3
    first | refine ft_goL mi_k13 5 23 [(6, .int 0), (0, .ref 94), (1, .int x1), (2, .int 2), (3, .int 2), (4, .int x4), (5, .int x5)] [.int (0 * 4), .ref (mi_RO + 3)] (by rfl) ?_ | refine ft_go mi_k13 5 23 [(6, .int 0), (0, .ref 94), (1, .int x1), (2, .int 2), (3, .int 2), (4, .int x4), (5, .int x5)] [.int (0 * 4), .ref (mi_RO + 3)] i a q r (by rfl) ?_
    refine ko_top (by decide : (0 * 4 : Int32) = 0) ?_
    first | refine fo_goS mi_k13 fz13_23_2_25 [.int (0 + 2), .ref (mi_RO + 3)] (by rfl) ?_ | refine ft_go mi_k13 2 25 [(6, .int 0), (0, .ref 94), (1, .int x1), (2, .int 2), (3, .int 2), (4, .int x4), (5, .int x5)] [.int (0 + 2), .ref (mi_RO + 3)] i a q r (by rfl) ?_
    refine ko_top (by decide : (0 + 2 : Int32) = 2) ?_
    refine ft_ro mi_k13 (w := 11) (by decide +kernel) (by decide +kernel) ?_
    first | refine fo_goL mi_k13 fz13_26_4_34 [(7, .int 11), (6, .int 0), (0, .ref 94), (1, .int x1), (2, .int 2), (3, .int 2), (4, .int x4), (5, .int x5)] [.int 24, .int (i 6019)] (by rfl) ?_ | refine ft_go mi_k13 4 34 [(7, .int 11), (6, .int 0), (0, .ref 94), (1, .int x1), (2, .int 2), (3, .int 2), (4, .int x4), (5, .int x5)] [.int 24, .int (i 6019)] i a q r (by rfl) ?_
    refine ft_ifS mi_k13 (decide (24 ≤ (i 6019))) 48 37 [] (by rfl) (fun c => ?_) (fun c => ?_)
    ·
      have c6 : (24 : Int32).toInt ≤ (i 6019).toInt := kd_le c; clear c
      have s7 : ((i 6019) + 1).toInt = (i 6019).toInt + (1 : Int32).toInt := kd_add (oz1332 c6 kn24 kn1) (oz951 fi_6019.2 kn1)
      have hJ8 := kG_i hG 6019 rfl (v := ((i 6019) + 1)) ⟨(oz1333 c6 s7 kn24 kn1), (oz1334 hp3.2 s7 kn1)⟩
      have s9 : (x5 + 1).toInt = x5.toInt + (1 : Int32).toInt := kd_add (oz12 hp2.1 kn1) (oz1335 hp2.2 kn1)
      first | refine fo_goI mi_k13 fz13_48_15_72 [.int (x5 + 1), .int x4, .int 2, .int x1, .ref 94] (ku i 6019 ((i 6019) + 1)) (by rfl) ?_ | refine ft_go mi_k13 15 72 [(7, .int 11), (6, .int 0), (0, .ref 94), (1, .int x1), (2, .int 2), (3, .int 2), (4, .int x4), (5, .int x5)] [.int (x5 + 1), .int x4, .int 2, .int x1, .ref 94] (ku i 6019 ((i 6019) + 1)) a q r (by rfl) ?_
      refine ko_callI mi_k13.1 (pc := 72) (ls := [(7, .int 11), (6, .int 0), (0, .ref 94), (1, .int x1), (2, .int 2), (3, .int 2), (4, .int x4), (5, .int x5)]) (st := [.int (x5 + 1), .int x4, .int 2, .int x1, .ref 94]) (h := ks (ku i 6019 ((i 6019) + 1)) a q r) (i := (.invokevirtual 43, 3, 14, 0, 9, 0, 301)) (mi_k13.2 _ _ (by rfl)) (ft_invS mi_pq14 (by rfl)) (cy := mi_c14) mi_pq14 rfl (kc14_94_l12_K2 hJ8.I hJ8.R x1 x4 (x5 + 1) (oz1339 hp0.1 hp0.2) (oz1411 hp1) (oz1340 hp2.1 hp2.2 s9 kn1) (oz1341 c6 hp3.2 s7 kn24 kn1)) (by decide) ?_
      intro vg10 ig10 ag10 qg10 rg10 kg10 hg10
      have hGg10 := kG_call hJ8 kg10 (by decide +kernel)
      have efig10_6019 : (ig10 6019).toInt = ((i 6019) + 1).toInt := kg10.ti 6019 rfl
      exact ft_ret mi_k13 (by rfl) (hP vg10 _ _ _ _ hGg10 (oz1342 efig10_6019 s7 kn1))
    ·
      have c12 : (i 6019).toInt < (24 : Int32).toInt := kd_leF c; clear c
      first | refine fo_goS mi_k13 fz13_37_5_47 [.int 11, .int (i 6019), .ref 96] (by rfl) ?_ | refine ft_go mi_k13 5 47 [(7, .int 11), (6, .int 0), (0, .ref 94), (1, .int x1), (2, .int 2), (3, .int 2), (4, .int x4), (5, .int x5)] [.int 11, .int (i 6019), .ref 96] i a q r (by rfl) ?_
      refine ko_iast3 mi_k13.1 (n := 24) (c := 24) (ax := (0, 0, 0, 0, 0)) (mi_k13.2 _ _ (by rfl)) (by rfl) (ksG96 _ _ _ _) (ksA96 _ _ _ _) (hG.I.2.1 96) rfl (oz3 fi_6019.1) (oz1343 c12 kn24) ?_
      intro a13 ea13 fa13
      have hJ13 := kG_a3 hG 96 rfl ea13 fa13 (kd_bd _)
      have s14 : ((i 6019) + 1).toInt = (i 6019).toInt + (1 : Int32).toInt := kd_add (oz12 fi_6019.1 kn1) (oz951 fi_6019.2 kn1)
      have hJ15 := kG_i hJ13 6019 rfl (v := ((i 6019) + 1)) ⟨(oz14 fi_6019.1 s14 kn1), (oz1334 hp3.2 s14 kn1)⟩
      have s16 : (x5 + 1).toInt = x5.toInt + (1 : Int32).toInt := kd_add (oz12 hp2.1 kn1) (oz1335 hp2.2 kn1)
      first | refine fo_goI mi_k13 fz13_48_15_72 [.int (x5 + 1), .int x4, .int 2, .int x1, .ref 94] (ku i 6019 ((i 6019) + 1)) (by rfl) ?_ | refine ft_go mi_k13 15 72 [(7, .int 11), (6, .int 0), (0, .ref 94), (1, .int x1), (2, .int 2), (3, .int 2), (4, .int x4), (5, .int x5)] [.int (x5 + 1), .int x4, .int 2, .int x1, .ref 94] (ku i 6019 ((i 6019) + 1)) a13 q r (by rfl) ?_
      have r17 : ((0 : Int) ≤ ((a13 95).getD x1.toNatClampNeg 0).toInt) ∧ (((a13 95).getD x1.toNatClampNeg 0).toInt ≤ 7) := hJ15.I.2.2.1 95 (x1.toNatClampNeg)
      have u18 : ((a13 95).getD x1.toNatClampNeg 0).toInt = ((a 95).getD x1.toNatClampNeg 0).toInt := congrArg (fun z : List Int32 => (z.getD x1.toNatClampNeg 0).toInt) (fa13 95 (by decide))
      refine ko_callI mi_k13.1 (pc := 72) (ls := [(7, .int 11), (6, .int 0), (0, .ref 94), (1, .int x1), (2, .int 2), (3, .int 2), (4, .int x4), (5, .int x5)]) (st := [.int (x5 + 1), .int x4, .int 2, .int x1, .ref 94]) (h := ks (ku i 6019 ((i 6019) + 1)) a13 q r) (i := (.invokevirtual 43, 3, 14, 0, 9, 0, 301)) (mi_k13.2 _ _ (by rfl)) (ft_invS mi_pq14 (by rfl)) (cy := mi_c14) mi_pq14 rfl (kc14_94_l12_K2 hJ15.I hJ15.R x1 x4 (x5 + 1) (oz1339 hp0.1 hp0.2) (oz1412 hp1 u18) (oz1340 hp2.1 hp2.2 s16 kn1) (oz1345 fi_6019.1 hp3.2 s14 kn1)) (by decide) ?_
      intro vg19 ig19 ag19 qg19 rg19 kg19 hg19
      have hGg19 := kG_call hJ15 kg19 (by decide +kernel)
      have efig19_6019 : (ig19 6019).toInt = ((i 6019) + 1).toInt := kg19.ti 6019 rfl
      exact ft_ret mi_k13 (by rfl) (hP vg19 _ _ _ _ hGg19 (oz1342 efig19_6019 s14 kn1))
  ·
    have c21 : (40 : Int32).toInt ≤ x5.toInt := kd_ltF c; clear c
    exact (oz1346 c21 hp2.2 kn40).elim
set_option maxRecDepth 100000 in
theorem kc11_l02_l13 {i : Nat → Int32} {a : Nat → List Int32} {q : Nat → List Int64} {r : Nat → Nat} (hI : kI i a q) (hr : kr r)  : km 1 11 [.int 2, .int 3] (ks i a q r) (kPI (ks i a q r) (fun v => v.toInt = 0)) := by
  have hG := kG_self kW0 hI hr
  refine km_ofPI (q := (mi_h11, mi_c11)) rfl (by decide) (Nat.le_of_ble_eq_true rfl) ?_
  intro P hP
  first | refine ft_goL mi_k11 16 26 [(3, .int 0), (2, .int 2), (0, .int 2), (1, .int 3)] [.int (2 * 4), .ref (mi_RO + 3)] (by rfl) ?_ | refine ft_go mi_k11 16 26 [(3, .int 0), (2, .int 2), (0, .int 2), (1, .int 3)] [.int (2 * 4), .ref (mi_RO + 3)] i a q r (by rfl) ?_
  refine ko_top (by decide : (2 * 4 : Int32) = 8) ?_
  first | refine fo_goS mi_k11 fz11_26_2_28 [.int (8 + 3), .ref (mi_RO + 3)] (by rfl) ?_ | refine ft_go mi_k11 2 28 [(3, .int 0), (2, .int 2), (0, .int 2), (1, .int 3)] [.int (8 + 3), .ref (mi_RO + 3)] i a q r (by rfl) ?_
  refine ko_top (by decide : (8 + 3 : Int32) = 11) ?_
  refine ft_ro mi_k11 (w := 0) (by decide +kernel) (by decide +kernel) ?_
  first | refine ft_goS mi_k11 3 38 [.int 2, .ref (mi_RO + 4)] (by rfl) ?_ | refine ft_go mi_k11 3 38 [(3, .int 0), (2, .int 2), (0, .int 2), (1, .int 3)] [.int 2, .ref (mi_RO + 4)] i a q r (by rfl) ?_
  refine ft_ro mi_k11 (w := 0) (by decide +kernel) (by decide +kernel) ?_
  first | refine fo_goL mi_k11 fz11_39_2_43 [(3, .int (0 + 1)), (2, .int 0), (0, .int 2), (1, .int 3)] [] (by rfl) ?_ | refine ft_go mi_k11 2 43 [(3, .int (0 + 1)), (2, .int 0), (0, .int 2), (1, .int 3)] [] i a q r (by rfl) ?_
  refine ko_loc (by decide : (0 + 1 : Int32) = 1) ?_
  first | refine ft_goL mi_k11 7 47 [(3, .int 1), (2, .int 0), (0, .int 2), (1, .int 3)] [.int 0] (by rfl) ?_ | refine ft_goS mi_k11 7 47 [.int 0] (by rfl) ?_ | refine ft_go mi_k11 7 47 [(3, .int 1), (2, .int 0), (0, .int 2), (1, .int 3)] [.int 0] i a q r (by rfl) ?_
  exact ft_ret mi_k11 (by rfl) (hP 0 (oz236 kn0))
def w14_94_l13_K2 : kW := ([6019], [96], [], [])
set_option maxRecDepth 100000 in
theorem kc14_94_l13_K2 {i : Nat → Int32} {a : Nat → List Int32} {q : Nat → List Int64} {r : Nat → Nat} (hI : kI i a q) (hr : kr r) (x1 : Int32) (x3 : Int32) (x4 : Int32) (hp0 : ((0 : Int) ≤ x1.toInt) ∧ (x1.toInt ≤ 49)) (hp1 : ((a 95).getD x1.toNatClampNeg 0).toInt = 2) (hp2 : ((0 : Int) ≤ x4.toInt) ∧ ((x4.toInt + 3) ≤ 39)) (hp3 : ((0 : Int) ≤ (i 6019).toInt) ∧ (((i 6019).toInt + 4) ≤ 900)) : km 11 14 [.ref 94, .int x1, .int 3, .int x3, .int x4] (ks i a q r) (kVI w14_94_l13_K2 i a q r (fun v i1 a1 q1 r1 => (i1 6019).toInt = ((i 6019).toInt + 4))) := by
  have hG := kG_self w14_94_l13_K2 hI hr
  refine km_ofI (q := (mi_h14, mi_c14)) rfl (by decide) (Nat.le_of_ble_eq_true rfl) ?_
  intro P hP
  have r1 : ((0 : Int) ≤ ((a 95).getD x1.toNatClampNeg 0).toInt) ∧ (((a 95).getD x1.toNatClampNeg 0).toInt ≤ 7) := hG.I.2.2.1 95 (x1.toNatClampNeg)
  have fi_6019 : ((0 : Int) ≤ (i 6019).toInt) ∧ ((i 6019).toInt ≤ 1000) := hG.I.1 6019
  first | refine fo_goL mi_k14 fz14_0_3_5 [(0, .ref 94), (1, .int x1), (2, .int 3), (3, .int x3), (4, .int x4)] [.int x1, .ref 95] (by rfl) ?_ | refine ft_go mi_k14 3 5 [(0, .ref 94), (1, .int x1), (2, .int 3), (3, .int x3), (4, .int x4)] [.int x1, .ref 95] i a q r (by rfl) ?_
  refine ko_iald3 mi_k14.1 (n := 50) (c := 50) (ax := (0, 0, 0, 0, 0)) (mi_k14.2 _ _ (by rfl)) (by rfl) (ksG95 _ _ _ _) (hG.I.2.1 95) rfl (oz3 hp0.1) (oz1336 hp0.2) ?_
  refine ko_top (kj_eq (oz1411 hp1) (by decide) : ((a 95).getD x1.toNatClampNeg 0) = 2) ?_
  first | refine ft_goL mi_k14 9 66 [(5, .int 2), (0, .ref 94), (1, .int x1), (2, .int 3), (3, .int x3), (4, .int x4)] [.int x4, .int x3, .int 1, .int 2, .int x1, .ref 94] (by rfl) ?_ | refine ft_go mi_k14 9 66 [(5, .int 2), (0, .ref 94), (1, .int x1), (2, .int 3), (3, .int x3), (4, .int x4)] [.int x4, .int x3, .int 1, .int 2, .int x1, .ref 94] i a q r (by rfl) ?_
  refine ko_callI mi_k14.1 (pc := 66) (ls := [(5, .int 2), (0, .ref 94), (1, .int x1), (2, .int 3), (3, .int x3), (4, .int x4)]) (st := [.int x4, .int x3, .int 1, .int 2, .int x1, .ref 94]) (h := ks i a q r) (i := (.invokevirtual 35, 3, 13, 0, 9, 0, 297)) (mi_k14.2 _ _ (by rfl)) (ft_invS mi_pq13 (by rfl)) (cy := mi_c13) mi_pq13 rfl (kc13_94_l12_l21_K2 hG.I hG.R x1 x3 x4 (oz1339 hp0.1 hp0.2) (oz1411 hp1) (oz1396 hp2.1 hp2.2) (oz1397 fi_6019.1 hp3.2)) (by decide) ?_
  intro vg2 ig2 ag2 qg2 rg2 kg2 hg2
  have hGg2 := kG_call hG kg2 (by decide +kernel)
  have fig2_6019 : ((0 : Int) ≤ (ig2 6019).toInt) ∧ ((ig2 6019).toInt ≤ 1000) := hGg2.I.1 6019
  have z3 : (ig2 6019).toInt = ((i 6019).toInt + 3) := hg2
  first | refine fo_goL mi_k14 fz14_69_8_81 [(6, .int vg2), (5, .int 2), (0, .ref 94), (1, .int x1), (2, .int 3), (3, .int x3), (4, .int x4)] [.int x4, .int 1, .int 2, .int 2, .int x1, .ref 94, .int vg2] (by rfl) ?_ | refine ft_go mi_k14 8 81 [(6, .int vg2), (5, .int 2), (0, .ref 94), (1, .int x1), (2, .int 3), (3, .int x3), (4, .int x4)] [.int x4, .int 1, .int 2, .int 2, .int x1, .ref 94, .int vg2] ig2 ag2 qg2 rg2 (by rfl) ?_
  have r4 : ((0 : Int) ≤ ((ag2 95).getD x1.toNatClampNeg 0).toInt) ∧ (((ag2 95).getD x1.toNatClampNeg 0).toInt ≤ 7) := hGg2.I.2.2.1 95 (x1.toNatClampNeg)
  have u5 : ((ag2 95).getD x1.toNatClampNeg 0).toInt = ((a 95).getD x1.toNatClampNeg 0).toInt := congrArg (fun z : List Int32 => (z.getD x1.toNatClampNeg 0).toInt) (kg2.fa 95 rfl)
  refine ko_callI mi_k14.1 (pc := 81) (ls := [(6, .int vg2), (5, .int 2), (0, .ref 94), (1, .int x1), (2, .int 3), (3, .int x3), (4, .int x4)]) (st := [.int x4, .int 1, .int 2, .int 2, .int x1, .ref 94, .int vg2]) (h := ks ig2 ag2 qg2 rg2) (i := (.invokevirtual 35, 3, 13, 0, 9, 0, 297)) (mi_k14.2 _ _ (by rfl)) (ft_invS mi_pq13 (by rfl)) (cy := mi_c13) mi_pq13 rfl (kc13_94_l12_l22_K2 hGg2.I hGg2.R x1 1 x4 (oz1339 hp0.1 hp0.2) (oz1412 hp1 u5) (oz1398 hp2.1 hp2.2) (oz1399 fig2_6019.1 hp3.2 z3)) (by decide) ?_
  intro vg6 ig6 ag6 qg6 rg6 kg6 hg6
  have hGg6 := kG_call hGg2 kg6 (by decide +kernel)
  have z7 : (ig6 6019).toInt = ((ig2 6019).toInt + 1) := hg6
  have b8 : ((-2147483648 : Int) ≤ vg2.toInt) ∧ (vg2.toInt ≤ 2147483647) := kd_bd vg2
  have b9 : ((-2147483648 : Int) ≤ vg6.toInt) ∧ (vg6.toInt ≤ 2147483647) := kd_bd vg6
  first | refine fo_goS mi_k14 fz14_84_1_85 [.int (vg2 - vg6)] (by rfl) ?_ | refine ft_go mi_k14 1 85 [(6, .int vg2), (5, .int 2), (0, .ref 94), (1, .int x1), (2, .int 3), (3, .int x3), (4, .int x4)] [.int (vg2 - vg6)] ig6 ag6 qg6 rg6 (by rfl) ?_
  exact ft_ret mi_k14 (by rfl) (hP (vg2 - vg6) _ _ _ _ hGg6 (oz1400 z3 z7))
def w13_94_l12_l23_K2 : kW := ([6019], [96], [], [])
set_option maxRecDepth 100000 in
theorem kc13_94_l12_l23_K2 {i : Nat → Int32} {a : Nat → List Int32} {q : Nat → List Int64} {r : Nat → Nat} (hI : kI i a q) (hr : kr r) (x1 : Int32) (x4 : Int32) (x5 : Int32) (hp0 : ((0 : Int) ≤ x1.toInt) ∧ (x1.toInt ≤ 49)) (hp1 : ((a 95).getD x1.toNatClampNeg 0).toInt = 2) (hp2 : ((0 : Int) ≤ x5.toInt) ∧ ((x5.toInt + 4) ≤ 39)) (hp3 : ((0 : Int) ≤ (i 6019).toInt) ∧ (((i 6019).toInt + 5) ≤ 900)) : km 13 13 [.ref 94, .int x1, .int 2, .int 3, .int x4, .int x5] (ks i a q r) (kVI w13_94_l12_l23_K2 i a q r (fun v i1 a1 q1 r1 => (i1 6019).toInt = ((i 6019).toInt + 5))) := by
  have hG := kG_self w13_94_l12_l23_K2 hI hr
  refine km_ofI (q := (mi_h13, mi_c13)) rfl (by decide) (Nat.le_of_ble_eq_true rfl) ?_
  intro P hP
  have r1 : ((0 : Int) ≤ ((a 95).getD x1.toNatClampNeg 0).toInt) ∧ (((a 95).getD x1.toNatClampNeg 0).toInt ≤ 7) := hG.I.2.2.1 95 (x1.toNatClampNeg)
  have fi_6019 : ((0 : Int) ≤ (i 6019).toInt) ∧ ((i 6019).toInt ≤ 1000) := hG.I.1 6019
  first | refine fo_goL mi_k13 fz13_0_2_4 [(0, .ref 94), (1, .int x1), (2, .int 2), (3, .int 3), (4, .int x4), (5, .int x5)] [.int 40, .int x5] (by rfl) ?_ | refine ft_go mi_k13 2 4 [(0, .ref 94), (1, .int x1), (2, .int 2), (3, .int 3), (4, .int x4), (5, .int x5)] [.int 40, .int x5] i a q r (by rfl) ?_
  refine ft_ifS mi_k13 (decide (x5 < 40)) 9 7 [] (by rfl) (fun c => ?_) (fun c => ?_)
  ·
    have c2 : x5.toInt < (40 : Int32).toInt := kd_lt c; clear c
    first | refine fo_goS mi_k13 fz13_9_2_11 [.int 3, .int 2] (by rfl) ?_ | refine ft_go mi_k13 2 11 [(0, .ref 94), (1, .int x1), (2, .int 2), (3, .int 3), (4, .int x4), (5, .int x5)] [.int 3, .int 2] i a q r (by rfl) ?_
    refine ko_callPI mi_k13.1 (pc := 11) (ls := [(0, .ref 94), (1, .int x1), (2, .int 2), (3, .int 3), (4, .int x4), (5, .int x5)]) (st := [.int 3, .int 2]) (h := ks i a q r) (i := (.invokestatic 39, 3, 11, 0, 9, 0, 298)) (mi_k13.2 _ _ (by rfl)) (ft_invS mi_pq11 (by rfl)) (cy := mi_c11) mi_pq11 rfl (kc11_l02_l13 hG.I hG.R ) (by decide) ?_
    intro vg3 hg3
    have z4 : vg3.toInt = 0 := hg3
    have evvg3 := kj_eq (oz236 z4) (by decide : (0 : Int32).toInt = 0)
    subst evvg3
    first | refine ft_goL mi_k13 5 23 [(6, .int 0), (0, .ref 94), (1, .int x1), (2, .int 2), (3, .int 3), (4, .int x4), (5, .int x5)] [.int (0 * 4), .ref (mi_RO + 3)] (by rfl) ?_ | refine ft_go mi_k13 5 23 [(6, .int 0), (0, .ref 94), (1, .int x1), (2, .int 2), (3, .int 3), (4, .int x4), (5, .int x5)] [.int (0 * 4), .ref (mi_RO + 3)] i a q r (by rfl) ?_
    refine ko_top (by decide : (0 * 4 : Int32) = 0) ?_
    first | refine fo_goS mi_k13 fz13_23_2_25 [.int (0 + 3), .ref (mi_RO + 3)] (by rfl) ?_ | refine ft_go mi_k13 2 25 [(6, .int 0), (0, .ref 94), (1, .int x1), (2, .int 2), (3, .int 3), (4, .int x4), (5, .int x5)] [.int (0 + 3), .ref (mi_RO + 3)] i a q r (by rfl) ?_
    refine ko_top (by decide : (0 + 3 : Int32) = 3) ?_
    refine ft_ro mi_k13 (w := 2) (by decide +kernel) (by decide +kernel) ?_
    first | refine fo_goL mi_k13 fz13_26_4_34 [(7, .int 2), (6, .int 0), (0, .ref 94), (1, .int x1), (2, .int 2), (3, .int 3), (4, .int x4), (5, .int x5)] [.int 24, .int (i 6019)] (by rfl) ?_ | refine ft_go mi_k13 4 34 [(7, .int 2), (6, .int 0), (0, .ref 94), (1, .int x1), (2, .int 2), (3, .int 3), (4, .int x4), (5, .int x5)] [.int 24, .int (i 6019)] i a q r (by rfl) ?_
    refine ft_ifS mi_k13 (decide (24 ≤ (i 6019))) 48 37 [] (by rfl) (fun c => ?_) (fun c => ?_)
    ·
      have c6 : (24 : Int32).toInt ≤ (i 6019).toInt := kd_le c; clear c
      have s7 : ((i 6019) + 1).toInt = (i 6019).toInt + (1 : Int32).toInt := kd_add (oz1332 c6 kn24 kn1) (oz951 fi_6019.2 kn1)
      have hJ8 := kG_i hG 6019 rfl (v := ((i 6019) + 1)) ⟨(oz1333 c6 s7 kn24 kn1), (oz1394 hp3.2 s7 kn1)⟩
      have s9 : (x5 + 1).toInt = x5.toInt + (1 : Int32).toInt := kd_add (oz12 hp2.1 kn1) (oz1395 hp2.2 kn1)
      first | refine fo_goI mi_k13 fz13_48_15_72 [.int (x5 + 1), .int x4, .int 3, .int x1, .ref 94] (ku i 6019 ((i 6019) + 1)) (by rfl) ?_ | refine ft_go mi_k13 15 72 [(7, .int 2), (6, .int 0), (0, .ref 94), (1, .int x1), (2, .int 2), (3, .int 3), (4, .int x4), (5, .int x5)] [.int (x5 + 1), .int x4, .int 3, .int x1, .ref 94] (ku i 6019 ((i 6019) + 1)) a q r (by rfl) ?_
      refine ko_callI mi_k13.1 (pc := 72) (ls := [(7, .int 2), (6, .int 0), (0, .ref 94), (1, .int x1), (2, .int 2), (3, .int 3), (4, .int x4), (5, .int x5)]) (st := [.int (x5 + 1), .int x4, .int 3, .int x1, .ref 94]) (h := ks (ku i 6019 ((i 6019) + 1)) a q r) (i := (.invokevirtual 43, 3, 14, 0, 9, 0, 301)) (mi_k13.2 _ _ (by rfl)) (ft_invS mi_pq14 (by rfl)) (cy := mi_c14) mi_pq14 rfl (kc14_94_l13_K2 hJ8.I hJ8.R x1 x4 (x5 + 1) (oz1339 hp0.1 hp0.2) (oz1411 hp1) (oz1401 hp2.1 hp2.2 s9 kn1) (oz1402 c6 hp3.2 s7 kn24 kn1)) (by decide) ?_
      intro vg10 ig10 ag10 qg10 rg10 kg10 hg10
      have hGg10 := kG_call hJ8 kg10 (by decide +kernel)
      have z11 : (ig10 6019).toInt = (((i 6019) + 1).toInt + 4) := hg10
      exact ft_ret mi_k13 (by rfl) (hP vg10 _ _ _ _ hGg10 (oz1403 s7 z11 kn1))
    ·
      have c12 : (i 6019).toInt < (24 : Int32).toInt := kd_leF c; clear c
      first | refine fo_goS mi_k13 fz13_37_5_47 [.int 2, .int (i 6019), .ref 96] (by rfl) ?_ | refine ft_go mi_k13 5 47 [(7, .int 2), (6, .int 0), (0, .ref 94), (1, .int x1), (2, .int 2), (3, .int 3), (4, .int x4), (5, .int x5)] [.int 2, .int (i 6019), .ref 96] i a q r (by rfl) ?_
      refine ko_iast3 mi_k13.1 (n := 24) (c := 24) (ax := (0, 0, 0, 0, 0)) (mi_k13.2 _ _ (by rfl)) (by rfl) (ksG96 _ _ _ _) (ksA96 _ _ _ _) (hG.I.2.1 96) rfl (oz3 fi_6019.1) (oz1343 c12 kn24) ?_
      intro a13 ea13 fa13
      have hJ13 := kG_a3 hG 96 rfl ea13 fa13 (kd_bd _)
      have s14 : ((i 6019) + 1).toInt = (i 6019).toInt + (1 : Int32).toInt := kd_add (oz12 fi_6019.1 kn1) (oz951 fi_6019.2 kn1)
      have hJ15 := kG_i hJ13 6019 rfl (v := ((i 6019) + 1)) ⟨(oz14 fi_6019.1 s14 kn1), (oz1394 hp3.2 s14 kn1)⟩
      have s16 : (x5 + 1).toInt = x5.toInt + (1 : Int32).toInt := kd_add (oz12 hp2.1 kn1) (oz1395 hp2.2 kn1)
      first | refine fo_goI mi_k13 fz13_48_15_72 [.int (x5 + 1), .int x4, .int 3, .int x1, .ref 94] (ku i 6019 ((i 6019) + 1)) (by rfl) ?_ | refine ft_go mi_k13 15 72 [(7, .int 2), (6, .int 0), (0, .ref 94), (1, .int x1), (2, .int 2), (3, .int 3), (4, .int x4), (5, .int x5)] [.int (x5 + 1), .int x4, .int 3, .int x1, .ref 94] (ku i 6019 ((i 6019) + 1)) a13 q r (by rfl) ?_
      have r17 : ((0 : Int) ≤ ((a13 95).getD x1.toNatClampNeg 0).toInt) ∧ (((a13 95).getD x1.toNatClampNeg 0).toInt ≤ 7) := hJ15.I.2.2.1 95 (x1.toNatClampNeg)
      have u18 : ((a13 95).getD x1.toNatClampNeg 0).toInt = ((a 95).getD x1.toNatClampNeg 0).toInt := congrArg (fun z : List Int32 => (z.getD x1.toNatClampNeg 0).toInt) (fa13 95 (by decide))
      refine ko_callI mi_k13.1 (pc := 72) (ls := [(7, .int 2), (6, .int 0), (0, .ref 94), (1, .int x1), (2, .int 2), (3, .int 3), (4, .int x4), (5, .int x5)]) (st := [.int (x5 + 1), .int x4, .int 3, .int x1, .ref 94]) (h := ks (ku i 6019 ((i 6019) + 1)) a13 q r) (i := (.invokevirtual 43, 3, 14, 0, 9, 0, 301)) (mi_k13.2 _ _ (by rfl)) (ft_invS mi_pq14 (by rfl)) (cy := mi_c14) mi_pq14 rfl (kc14_94_l13_K2 hJ15.I hJ15.R x1 x4 (x5 + 1) (oz1339 hp0.1 hp0.2) (oz1412 hp1 u18) (oz1401 hp2.1 hp2.2 s16 kn1) (oz1404 fi_6019.1 hp3.2 s14 kn1)) (by decide) ?_
      intro vg19 ig19 ag19 qg19 rg19 kg19 hg19
      have hGg19 := kG_call hJ15 kg19 (by decide +kernel)
      have z20 : (ig19 6019).toInt = (((i 6019) + 1).toInt + 4) := hg19
      exact ft_ret mi_k13 (by rfl) (hP vg19 _ _ _ _ hGg19 (oz1403 s14 z20 kn1))
  ·
    have c21 : (40 : Int32).toInt ≤ x5.toInt := kd_ltF c; clear c
    exact (oz1405 c21 hp2.2 kn40).elim
set_option maxRecDepth 100000 in
theorem kc11_l03_l10 {i : Nat → Int32} {a : Nat → List Int32} {q : Nat → List Int64} {r : Nat → Nat} (hI : kI i a q) (hr : kr r)  : km 1 11 [.int 3, .int 0] (ks i a q r) (kPI (ks i a q r) (fun v => v.toInt = 0)) := by
  have hG := kG_self kW0 hI hr
  refine km_ofPI (q := (mi_h11, mi_c11)) rfl (by decide) (Nat.le_of_ble_eq_true rfl) ?_
  intro P hP
  first | refine ft_goL mi_k11 16 26 [(3, .int 0), (2, .int 3), (0, .int 3), (1, .int 0)] [.int (3 * 4), .ref (mi_RO + 3)] (by rfl) ?_ | refine ft_go mi_k11 16 26 [(3, .int 0), (2, .int 3), (0, .int 3), (1, .int 0)] [.int (3 * 4), .ref (mi_RO + 3)] i a q r (by rfl) ?_
  refine ko_top (by decide : (3 * 4 : Int32) = 12) ?_
  first | refine fo_goS mi_k11 fz11_26_2_28 [.int (12 + 0), .ref (mi_RO + 3)] (by rfl) ?_ | refine ft_go mi_k11 2 28 [(3, .int 0), (2, .int 3), (0, .int 3), (1, .int 0)] [.int (12 + 0), .ref (mi_RO + 3)] i a q r (by rfl) ?_
  refine ko_top (by decide : (12 + 0 : Int32) = 12) ?_
  refine ft_ro mi_k11 (w := 0) (by decide +kernel) (by decide +kernel) ?_
  first | refine ft_goS mi_k11 3 38 [.int 3, .ref (mi_RO + 4)] (by rfl) ?_ | refine ft_go mi_k11 3 38 [(3, .int 0), (2, .int 3), (0, .int 3), (1, .int 0)] [.int 3, .ref (mi_RO + 4)] i a q r (by rfl) ?_
  refine ft_ro mi_k11 (w := 2) (by decide +kernel) (by decide +kernel) ?_
  first | refine fo_goL mi_k11 fz11_39_2_43 [(3, .int (0 + 1)), (2, .int 2), (0, .int 3), (1, .int 0)] [] (by rfl) ?_ | refine ft_go mi_k11 2 43 [(3, .int (0 + 1)), (2, .int 2), (0, .int 3), (1, .int 0)] [] i a q r (by rfl) ?_
  refine ko_loc (by decide : (0 + 1 : Int32) = 1) ?_
  first | refine ft_goL mi_k11 13 26 [(3, .int 1), (2, .int 2), (0, .int 3), (1, .int 0)] [.int (2 * 4), .ref (mi_RO + 3)] (by rfl) ?_ | refine ft_goS mi_k11 13 26 [.int (2 * 4), .ref (mi_RO + 3)] (by rfl) ?_ | refine ft_go mi_k11 13 26 [(3, .int 1), (2, .int 2), (0, .int 3), (1, .int 0)] [.int (2 * 4), .ref (mi_RO + 3)] i a q r (by rfl) ?_
  refine ko_top (by decide : (2 * 4 : Int32) = 8) ?_
  first | refine fo_goS mi_k11 fz11_26_2_28 [.int (8 + 0), .ref (mi_RO + 3)] (by rfl) ?_ | refine ft_go mi_k11 2 28 [(3, .int 1), (2, .int 2), (0, .int 3), (1, .int 0)] [.int (8 + 0), .ref (mi_RO + 3)] i a q r (by rfl) ?_
  refine ko_top (by decide : (8 + 0 : Int32) = 8) ?_
  refine ft_ro mi_k11 (w := 0) (by decide +kernel) (by decide +kernel) ?_
  first | refine ft_goS mi_k11 3 38 [.int 2, .ref (mi_RO + 4)] (by rfl) ?_ | refine ft_go mi_k11 3 38 [(3, .int 1), (2, .int 2), (0, .int 3), (1, .int 0)] [.int 2, .ref (mi_RO + 4)] i a q r (by rfl) ?_
  refine ft_ro mi_k11 (w := 0) (by decide +kernel) (by decide +kernel) ?_
  first | refine fo_goL mi_k11 fz11_39_2_43 [(3, .int (1 + 1)), (2, .int 0), (0, .int 3), (1, .int 0)] [] (by rfl) ?_ | refine ft_go mi_k11 2 43 [(3, .int (1 + 1)), (2, .int 0), (0, .int 3), (1, .int 0)] [] i a q r (by rfl) ?_
  refine ko_loc (by decide : (1 + 1 : Int32) = 2) ?_
  first | refine ft_goL mi_k11 7 47 [(3, .int 2), (2, .int 0), (0, .int 3), (1, .int 0)] [.int 0] (by rfl) ?_ | refine ft_goS mi_k11 7 47 [.int 0] (by rfl) ?_ | refine ft_go mi_k11 7 47 [(3, .int 2), (2, .int 0), (0, .int 3), (1, .int 0)] [.int 0] i a q r (by rfl) ?_
  exact ft_ret mi_k11 (by rfl) (hP 0 (oz236 kn0))
def w14_94_l10_K3 : kW := ([], [], [], [])
set_option maxRecDepth 100000 in
theorem kc14_94_l10_K3 {i : Nat → Int32} {a : Nat → List Int32} {q : Nat → List Int64} {r : Nat → Nat} (hI : kI i a q) (hr : kr r) (x1 : Int32) (x3 : Int32) (x4 : Int32) (hp0 : ((0 : Int) ≤ x1.toInt) ∧ (x1.toInt ≤ 49)) (hp1 : ((a 95).getD x1.toNatClampNeg 0).toInt = 3) (hp2 : ((0 : Int) ≤ x4.toInt) ∧ ((x4.toInt + 0) ≤ 39)) (hp3 : ((0 : Int) ≤ (i 6019).toInt) ∧ (((i 6019).toInt + 0) ≤ 900)) : km 1 14 [.ref 94, .int x1, .int 0, .int x3, .int x4] (ks i a q r) (kVI w14_94_l10_K3 i a q r (fun v i1 a1 q1 r1 => (i1 6019).toInt = ((i 6019).toInt + 0))) := by
  have hG := kG_self w14_94_l10_K3 hI hr
  refine km_ofI (q := (mi_h14, mi_c14)) rfl (by decide) (Nat.le_of_ble_eq_true rfl) ?_
  intro P hP
  have r1 : ((0 : Int) ≤ ((a 95).getD x1.toNatClampNeg 0).toInt) ∧ (((a 95).getD x1.toNatClampNeg 0).toInt ≤ 7) := hG.I.2.2.1 95 (x1.toNatClampNeg)
  first | refine fo_goL mi_k14 fz14_0_3_5 [(0, .ref 94), (1, .int x1), (2, .int 0), (3, .int x3), (4, .int x4)] [.int x1, .ref 95] (by rfl) ?_ | refine ft_go mi_k14 3 5 [(0, .ref 94), (1, .int x1), (2, .int 0), (3, .int x3), (4, .int x4)] [.int x1, .ref 95] i a q r (by rfl) ?_
  refine ko_iald3 mi_k14.1 (n := 50) (c := 50) (ax := (0, 0, 0, 0, 0)) (mi_k14.2 _ _ (by rfl)) (by rfl) (ksG95 _ _ _ _) (hG.I.2.1 95) rfl (oz3 hp0.1) (oz1336 hp0.2) ?_
  refine ko_top (kj_eq (oz1421 hp1) (by decide) : ((a 95).getD x1.toNatClampNeg 0) = 3) ?_
  have b2 : ((-2147483648 : Int) ≤ x3.toInt) ∧ (x3.toInt ≤ 2147483647) := kd_bd x3
  have b3 : ((-2147483648 : Int) ≤ x1.toInt) ∧ (x1.toInt ≤ 2147483647) := kd_bd x1
  first | refine ft_goL mi_k14 6 39 [(5, .int 3), (0, .ref 94), (1, .int x1), (2, .int 0), (3, .int x3), (4, .int x4)] [.int (x3 + x1)] (by rfl) ?_ | refine ft_go mi_k14 6 39 [(5, .int 3), (0, .ref 94), (1, .int x1), (2, .int 0), (3, .int x3), (4, .int x4)] [.int (x3 + x1)] i a q r (by rfl) ?_
  exact ft_ret mi_k14 (by rfl) (hP (x3 + x1) _ _ _ _ hG oz1338)
def w13_94_l13_l20_K3 : kW := ([6019], [96], [], [])
set_option maxRecDepth 100000 in
theorem kc13_94_l13_l20_K3 {i : Nat → Int32} {a : Nat → List Int32} {q : Nat → List Int64} {r : Nat → Nat} (hI : kI i a q) (hr : kr r) (x1 : Int32) (x4 : Int32) (x5 : Int32) (hp0 : ((0 : Int) ≤ x1.toInt) ∧ (x1.toInt ≤ 49)) (hp1 : ((a 95).getD x1.toNatClampNeg 0).toInt = 3) (hp2 : ((0 : Int) ≤ x5.toInt) ∧ ((x5.toInt + 1) ≤ 39)) (hp3 : ((0 : Int) ≤ (i 6019).toInt) ∧ (((i 6019).toInt + 1) ≤ 900)) : km 3 13 [.ref 94, .int x1, .int 3, .int 0, .int x4, .int x5] (ks i a q r) (kVI w13_94_l13_l20_K3 i a q r (fun v i1 a1 q1 r1 => (i1 6019).toInt = ((i 6019).toInt + 1))) := by
  have hG := kG_self w13_94_l13_l20_K3 hI hr
  refine km_ofI (q := (mi_h13, mi_c13)) rfl (by decide) (Nat.le_of_ble_eq_true rfl) ?_
  intro P hP
  have r1 : ((0 : Int) ≤ ((a 95).getD x1.toNatClampNeg 0).toInt) ∧ (((a 95).getD x1.toNatClampNeg 0).toInt ≤ 7) := hG.I.2.2.1 95 (x1.toNatClampNeg)
  have fi_6019 : ((0 : Int) ≤ (i 6019).toInt) ∧ ((i 6019).toInt ≤ 1000) := hG.I.1 6019
  first | refine fo_goL mi_k13 fz13_0_2_4 [(0, .ref 94), (1, .int x1), (2, .int 3), (3, .int 0), (4, .int x4), (5, .int x5)] [.int 40, .int x5] (by rfl) ?_ | refine ft_go mi_k13 2 4 [(0, .ref 94), (1, .int x1), (2, .int 3), (3, .int 0), (4, .int x4), (5, .int x5)] [.int 40, .int x5] i a q r (by rfl) ?_
  refine ft_ifS mi_k13 (decide (x5 < 40)) 9 7 [] (by rfl) (fun c => ?_) (fun c => ?_)
  ·
    have c2 : x5.toInt < (40 : Int32).toInt := kd_lt c; clear c
    first | refine fo_goS mi_k13 fz13_9_2_11 [.int 0, .int 3] (by rfl) ?_ | refine ft_go mi_k13 2 11 [(0, .ref 94), (1, .int x1), (2, .int 3), (3, .int 0), (4, .int x4), (5, .int x5)] [.int 0, .int 3] i a q r (by rfl) ?_
    refine ko_callPI mi_k13.1 (pc := 11) (ls := [(0, .ref 94), (1, .int x1), (2, .int 3), (3, .int 0), (4, .int x4), (5, .int x5)]) (st := [.int 0, .int 3]) (h := ks i a q r) (i := (.invokestatic 39, 3, 11, 0, 9, 0, 298)) (mi_k13.2 _ _ (by rfl)) (ft_invS mi_pq11 (by rfl)) (cy := mi_c11) mi_pq11 rfl (kc11_l03_l10 hG.I hG.R ) (by decide) ?_
    intro vg3 hg3
    have z4 : vg3.toInt = 0 := hg3
    have evvg3 := kj_eq (oz236 z4) (by decide : (0 : Int32).toInt = 0)
    subst evvg3
    first | refine ft_goL mi_k13 5 23 [(6, .int 0), (0, .ref 94), (1, .int x1), (2, .int 3), (3, .int 0), (4, .int x4), (5, .int x5)] [.int (0 * 4), .ref (mi_RO + 3)] (by rfl) ?_ | refine ft_go mi_k13 5 23 [(6, .int 0), (0, .ref 94), (1, .int x1), (2, .int 3), (3, .int 0), (4, .int x4), (5, .int x5)] [.int (0 * 4), .ref (mi_RO + 3)] i a q r (by rfl) ?_
    refine ko_top (by decide : (0 * 4 : Int32) = 0) ?_
    first | refine fo_goS mi_k13 fz13_23_2_25 [.int (0 + 0), .ref (mi_RO + 3)] (by rfl) ?_ | refine ft_go mi_k13 2 25 [(6, .int 0), (0, .ref 94), (1, .int x1), (2, .int 3), (3, .int 0), (4, .int x4), (5, .int x5)] [.int (0 + 0), .ref (mi_RO + 3)] i a q r (by rfl) ?_
    refine ko_top (by decide : (0 + 0 : Int32) = 0) ?_
    refine ft_ro mi_k13 (w := 1) (by decide +kernel) (by decide +kernel) ?_
    first | refine fo_goL mi_k13 fz13_26_4_34 [(7, .int 1), (6, .int 0), (0, .ref 94), (1, .int x1), (2, .int 3), (3, .int 0), (4, .int x4), (5, .int x5)] [.int 24, .int (i 6019)] (by rfl) ?_ | refine ft_go mi_k13 4 34 [(7, .int 1), (6, .int 0), (0, .ref 94), (1, .int x1), (2, .int 3), (3, .int 0), (4, .int x4), (5, .int x5)] [.int 24, .int (i 6019)] i a q r (by rfl) ?_
    refine ft_ifS mi_k13 (decide (24 ≤ (i 6019))) 48 37 [] (by rfl) (fun c => ?_) (fun c => ?_)
    ·
      have c6 : (24 : Int32).toInt ≤ (i 6019).toInt := kd_le c; clear c
      have s7 : ((i 6019) + 1).toInt = (i 6019).toInt + (1 : Int32).toInt := kd_add (oz1332 c6 kn24 kn1) (oz951 fi_6019.2 kn1)
      have hJ8 := kG_i hG 6019 rfl (v := ((i 6019) + 1)) ⟨(oz1333 c6 s7 kn24 kn1), (oz1334 hp3.2 s7 kn1)⟩
      have s9 : (x5 + 1).toInt = x5.toInt + (1 : Int32).toInt := kd_add (oz12 hp2.1 kn1) (oz1335 hp2.2 kn1)
      first | refine fo_goI mi_k13 fz13_48_15_72 [.int (x5 + 1), .int x4, .int 0, .int x1, .ref 94] (ku i 6019 ((i 6019) + 1)) (by rfl) ?_ | refine ft_go mi_k13 15 72 [(7, .int 1), (6, .int 0), (0, .ref 94), (1, .int x1), (2, .int 3), (3, .int 0), (4, .int x4), (5, .int x5)] [.int (x5 + 1), .int x4, .int 0, .int x1, .ref 94] (ku i 6019 ((i 6019) + 1)) a q r (by rfl) ?_
      refine ko_callI mi_k13.1 (pc := 72) (ls := [(7, .int 1), (6, .int 0), (0, .ref 94), (1, .int x1), (2, .int 3), (3, .int 0), (4, .int x4), (5, .int x5)]) (st := [.int (x5 + 1), .int x4, .int 0, .int x1, .ref 94]) (h := ks (ku i 6019 ((i 6019) + 1)) a q r) (i := (.invokevirtual 43, 3, 14, 0, 9, 0, 301)) (mi_k13.2 _ _ (by rfl)) (ft_invS mi_pq14 (by rfl)) (cy := mi_c14) mi_pq14 rfl (kc14_94_l10_K3 hJ8.I hJ8.R x1 x4 (x5 + 1) (oz1339 hp0.1 hp0.2) (oz1421 hp1) (oz1340 hp2.1 hp2.2 s9 kn1) (oz1341 c6 hp3.2 s7 kn24 kn1)) (by decide) ?_
      intro vg10 ig10 ag10 qg10 rg10 kg10 hg10
      have hGg10 := kG_call hJ8 kg10 (by decide +kernel)
      have efig10_6019 : (ig10 6019).toInt = ((i 6019) + 1).toInt := kg10.ti 6019 rfl
      exact ft_ret mi_k13 (by rfl) (hP vg10 _ _ _ _ hGg10 (oz1342 efig10_6019 s7 kn1))
    ·
      have c12 : (i 6019).toInt < (24 : Int32).toInt := kd_leF c; clear c
      first | refine fo_goS mi_k13 fz13_37_5_47 [.int 1, .int (i 6019), .ref 96] (by rfl) ?_ | refine ft_go mi_k13 5 47 [(7, .int 1), (6, .int 0), (0, .ref 94), (1, .int x1), (2, .int 3), (3, .int 0), (4, .int x4), (5, .int x5)] [.int 1, .int (i 6019), .ref 96] i a q r (by rfl) ?_
      refine ko_iast3 mi_k13.1 (n := 24) (c := 24) (ax := (0, 0, 0, 0, 0)) (mi_k13.2 _ _ (by rfl)) (by rfl) (ksG96 _ _ _ _) (ksA96 _ _ _ _) (hG.I.2.1 96) rfl (oz3 fi_6019.1) (oz1343 c12 kn24) ?_
      intro a13 ea13 fa13
      have hJ13 := kG_a3 hG 96 rfl ea13 fa13 (kd_bd _)
      have s14 : ((i 6019) + 1).toInt = (i 6019).toInt + (1 : Int32).toInt := kd_add (oz12 fi_6019.1 kn1) (oz951 fi_6019.2 kn1)
      have hJ15 := kG_i hJ13 6019 rfl (v := ((i 6019) + 1)) ⟨(oz14 fi_6019.1 s14 kn1), (oz1334 hp3.2 s14 kn1)⟩
      have s16 : (x5 + 1).toInt = x5.toInt + (1 : Int32).toInt := kd_add (oz12 hp2.1 kn1) (oz1335 hp2.2 kn1)
      first | refine fo_goI mi_k13 fz13_48_15_72 [.int (x5 + 1), .int x4, .int 0, .int x1, .ref 94] (ku i 6019 ((i 6019) + 1)) (by rfl) ?_ | refine ft_go mi_k13 15 72 [(7, .int 1), (6, .int 0), (0, .ref 94), (1, .int x1), (2, .int 3), (3, .int 0), (4, .int x4), (5, .int x5)] [.int (x5 + 1), .int x4, .int 0, .int x1, .ref 94] (ku i 6019 ((i 6019) + 1)) a13 q r (by rfl) ?_
      have r17 : ((0 : Int) ≤ ((a13 95).getD x1.toNatClampNeg 0).toInt) ∧ (((a13 95).getD x1.toNatClampNeg 0).toInt ≤ 7) := hJ15.I.2.2.1 95 (x1.toNatClampNeg)
      have u18 : ((a13 95).getD x1.toNatClampNeg 0).toInt = ((a 95).getD x1.toNatClampNeg 0).toInt := congrArg (fun z : List Int32 => (z.getD x1.toNatClampNeg 0).toInt) (fa13 95 (by decide))
      refine ko_callI mi_k13.1 (pc := 72) (ls := [(7, .int 1), (6, .int 0), (0, .ref 94), (1, .int x1), (2, .int 3), (3, .int 0), (4, .int x4), (5, .int x5)]) (st := [.int (x5 + 1), .int x4, .int 0, .int x1, .ref 94]) (h := ks (ku i 6019 ((i 6019) + 1)) a13 q r) (i := (.invokevirtual 43, 3, 14, 0, 9, 0, 301)) (mi_k13.2 _ _ (by rfl)) (ft_invS mi_pq14 (by rfl)) (cy := mi_c14) mi_pq14 rfl (kc14_94_l10_K3 hJ15.I hJ15.R x1 x4 (x5 + 1) (oz1339 hp0.1 hp0.2) (oz1422 hp1 u18) (oz1340 hp2.1 hp2.2 s16 kn1) (oz1345 fi_6019.1 hp3.2 s14 kn1)) (by decide) ?_
      intro vg19 ig19 ag19 qg19 rg19 kg19 hg19
      have hGg19 := kG_call hJ15 kg19 (by decide +kernel)
      have efig19_6019 : (ig19 6019).toInt = ((i 6019) + 1).toInt := kg19.ti 6019 rfl
      exact ft_ret mi_k13 (by rfl) (hP vg19 _ _ _ _ hGg19 (oz1342 efig19_6019 s14 kn1))
  ·
    have c21 : (40 : Int32).toInt ≤ x5.toInt := kd_ltF c; clear c
    exact (oz1346 c21 hp2.2 kn40).elim
set_option maxRecDepth 100000 in
theorem kc11_l03_l11 {i : Nat → Int32} {a : Nat → List Int32} {q : Nat → List Int64} {r : Nat → Nat} (hI : kI i a q) (hr : kr r)  : km 1 11 [.int 3, .int 1] (ks i a q r) (kPI (ks i a q r) (fun v => v.toInt = 3)) := by
  have hG := kG_self kW0 hI hr
  refine km_ofPI (q := (mi_h11, mi_c11)) rfl (by decide) (Nat.le_of_ble_eq_true rfl) ?_
  intro P hP
  first | refine ft_goL mi_k11 16 26 [(3, .int 0), (2, .int 3), (0, .int 3), (1, .int 1)] [.int (3 * 4), .ref (mi_RO + 3)] (by rfl) ?_ | refine ft_go mi_k11 16 26 [(3, .int 0), (2, .int 3), (0, .int 3), (1, .int 1)] [.int (3 * 4), .ref (mi_RO + 3)] i a q r (by rfl) ?_
  refine ko_top (by decide : (3 * 4 : Int32) = 12) ?_
  first | refine fo_goS mi_k11 fz11_26_2_28 [.int (12 + 1), .ref (mi_RO + 3)] (by rfl) ?_ | refine ft_go mi_k11 2 28 [(3, .int 0), (2, .int 3), (0, .int 3), (1, .int 1)] [.int (12 + 1), .ref (mi_RO + 3)] i a q r (by rfl) ?_
  refine ko_top (by decide : (12 + 1 : Int32) = 13) ?_
  refine ft_ro mi_k11 (w := 41) (by decide +kernel) (by decide +kernel) ?_
  first | refine fo_goS mi_k11 fz11_29_2_33 [.int 3] (by rfl) ?_ | refine ft_go mi_k11 2 33 [(3, .int 0), (2, .int 3), (0, .int 3), (1, .int 1)] [.int 3] i a q r (by rfl) ?_
  exact ft_ret mi_k11 (by rfl) (hP 3 (oz1421 kn3))
def w14_94_l11_K3 : kW := ([6019], [96], [], [])
set_option maxRecDepth 100000 in
theorem kc14_94_l11_K3 {i : Nat → Int32} {a : Nat → List Int32} {q : Nat → List Int64} {r : Nat → Nat} (hI : kI i a q) (hr : kr r) (x1 : Int32) (x3 : Int32) (x4 : Int32) (hp0 : ((0 : Int) ≤ x1.toInt) ∧ (x1.toInt ≤ 49)) (hp1 : ((a 95).getD x1.toNatClampNeg 0).toInt = 3) (hp2 : ((0 : Int) ≤ x4.toInt) ∧ ((x4.toInt + 1) ≤ 39)) (hp3 : ((0 : Int) ≤ (i 6019).toInt) ∧ (((i 6019).toInt + 1) ≤ 900)) : km 5 14 [.ref 94, .int x1, .int 1, .int x3, .int x4] (ks i a q r) (kVI w14_94_l11_K3 i a q r (fun v i1 a1 q1 r1 => (i1 6019).toInt = ((i 6019).toInt + 1))) := by
  have hG := kG_self w14_94_l11_K3 hI hr
  refine km_ofI (q := (mi_h14, mi_c14)) rfl (by decide) (Nat.le_of_ble_eq_true rfl) ?_
  intro P hP
  have r1 : ((0 : Int) ≤ ((a 95).getD x1.toNatClampNeg 0).toInt) ∧ (((a 95).getD x1.toNatClampNeg 0).toInt ≤ 7) := hG.I.2.2.1 95 (x1.toNatClampNeg)
  have fi_6019 : ((0 : Int) ≤ (i 6019).toInt) ∧ ((i 6019).toInt ≤ 1000) := hG.I.1 6019
  first | refine fo_goL mi_k14 fz14_0_3_5 [(0, .ref 94), (1, .int x1), (2, .int 1), (3, .int x3), (4, .int x4)] [.int x1, .ref 95] (by rfl) ?_ | refine ft_go mi_k14 3 5 [(0, .ref 94), (1, .int x1), (2, .int 1), (3, .int x3), (4, .int x4)] [.int x1, .ref 95] i a q r (by rfl) ?_
  refine ko_iald3 mi_k14.1 (n := 50) (c := 50) (ax := (0, 0, 0, 0, 0)) (mi_k14.2 _ _ (by rfl)) (by rfl) (ksG95 _ _ _ _) (hG.I.2.1 95) rfl (oz3 hp0.1) (oz1336 hp0.2) ?_
  refine ko_top (kj_eq (oz1421 hp1) (by decide) : ((a 95).getD x1.toNatClampNeg 0) = 3) ?_
  first | refine ft_goL mi_k14 9 48 [(5, .int 3), (0, .ref 94), (1, .int x1), (2, .int 1), (3, .int x3), (4, .int x4)] [.int x4, .int x3, .int 0, .int 3, .int x1, .ref 94] (by rfl) ?_ | refine ft_go mi_k14 9 48 [(5, .int 3), (0, .ref 94), (1, .int x1), (2, .int 1), (3, .int x3), (4, .int x4)] [.int x4, .int x3, .int 0, .int 3, .int x1, .ref 94] i a q r (by rfl) ?_
  refine ko_callI mi_k14.1 (pc := 48) (ls := [(5, .int 3), (0, .ref 94), (1, .int x1), (2, .int 1), (3, .int x3), (4, .int x4)]) (st := [.int x4, .int x3, .int 0, .int 3, .int x1, .ref 94]) (h := ks i a q r) (i := (.invokevirtual 35, 3, 13, 0, 9, 0, 297)) (mi_k14.2 _ _ (by rfl)) (ft_invS mi_pq13 (by rfl)) (cy := mi_c13) mi_pq13 rfl (kc13_94_l13_l20_K3 hG.I hG.R x1 x3 x4 (oz1339 hp0.1 hp0.2) (oz1421 hp1) (oz1353 hp2.1 hp2.2) (oz1354 fi_6019.1 hp3.2)) (by decide) ?_
  intro vg2 ig2 ag2 qg2 rg2 kg2 hg2
  have hGg2 := kG_call hG kg2 (by decide +kernel)
  have z3 : (ig2 6019).toInt = ((i 6019).toInt + 1) := hg2
  have b4 : ((-2147483648 : Int) ≤ vg2.toInt) ∧ (vg2.toInt ≤ 2147483647) := kd_bd vg2
  first | refine fo_goS mi_k14 fz14_51_2_53 [.int (vg2 * 2)] (by rfl) ?_ | refine ft_go mi_k14 2 53 [(5, .int 3), (0, .ref 94), (1, .int x1), (2, .int 1), (3, .int x3), (4, .int x4)] [.int (vg2 * 2)] ig2 ag2 qg2 rg2 (by rfl) ?_
  exact ft_ret mi_k14 (by rfl) (hP (vg2 * 2) _ _ _ _ hGg2 (oz1355 z3))
def w13_94_l10_l21_K3 : kW := ([6019], [96], [], [])
set_option maxRecDepth 100000 in
theorem kc13_94_l10_l21_K3 {i : Nat → Int32} {a : Nat → List Int32} {q : Nat → List Int64} {r : Nat → Nat} (hI : kI i a q) (hr : kr r) (x1 : Int32) (x4 : Int32) (x5 : Int32) (hp0 : ((0 : Int) ≤ x1.toInt) ∧ (x1.toInt ≤ 49)) (hp1 : ((a 95).getD x1.toNatClampNeg 0).toInt = 3) (hp2 : ((0 : Int) ≤ x5.toInt) ∧ ((x5.toInt + 2) ≤ 39)) (hp3 : ((0 : Int) ≤ (i 6019).toInt) ∧ (((i 6019).toInt + 2) ≤ 900)) : km 7 13 [.ref 94, .int x1, .int 0, .int 1, .int x4, .int x5] (ks i a q r) (kVI w13_94_l10_l21_K3 i a q r (fun v i1 a1 q1 r1 => (i1 6019).toInt = ((i 6019).toInt + 2))) := by
  have hG := kG_self w13_94_l10_l21_K3 hI hr
  refine km_ofI (q := (mi_h13, mi_c13)) rfl (by decide) (Nat.le_of_ble_eq_true rfl) ?_
  intro P hP
  have r1 : ((0 : Int) ≤ ((a 95).getD x1.toNatClampNeg 0).toInt) ∧ (((a 95).getD x1.toNatClampNeg 0).toInt ≤ 7) := hG.I.2.2.1 95 (x1.toNatClampNeg)
  have fi_6019 : ((0 : Int) ≤ (i 6019).toInt) ∧ ((i 6019).toInt ≤ 1000) := hG.I.1 6019
  first | refine fo_goL mi_k13 fz13_0_2_4 [(0, .ref 94), (1, .int x1), (2, .int 0), (3, .int 1), (4, .int x4), (5, .int x5)] [.int 40, .int x5] (by rfl) ?_ | refine ft_go mi_k13 2 4 [(0, .ref 94), (1, .int x1), (2, .int 0), (3, .int 1), (4, .int x4), (5, .int x5)] [.int 40, .int x5] i a q r (by rfl) ?_
  refine ft_ifS mi_k13 (decide (x5 < 40)) 9 7 [] (by rfl) (fun c => ?_) (fun c => ?_)
  ·
    have c2 : x5.toInt < (40 : Int32).toInt := kd_lt c; clear c
    first | refine fo_goS mi_k13 fz13_9_2_11 [.int 1, .int 0] (by rfl) ?_ | refine ft_go mi_k13 2 11 [(0, .ref 94), (1, .int x1), (2, .int 0), (3, .int 1), (4, .int x4), (5, .int x5)] [.int 1, .int 0] i a q r (by rfl) ?_
    refine ko_callPI mi_k13.1 (pc := 11) (ls := [(0, .ref 94), (1, .int x1), (2, .int 0), (3, .int 1), (4, .int x4), (5, .int x5)]) (st := [.int 1, .int 0]) (h := ks i a q r) (i := (.invokestatic 39, 3, 11, 0, 9, 0, 298)) (mi_k13.2 _ _ (by rfl)) (ft_invS mi_pq11 (by rfl)) (cy := mi_c11) mi_pq11 rfl (kc11_l00_l11 hG.I hG.R ) (by decide) ?_
    intro vg3 hg3
    have z4 : vg3.toInt = 0 := hg3
    have evvg3 := kj_eq (oz236 z4) (by decide : (0 : Int32).toInt = 0)
    subst evvg3
    first | refine ft_goL mi_k13 5 23 [(6, .int 0), (0, .ref 94), (1, .int x1), (2, .int 0), (3, .int 1), (4, .int x4), (5, .int x5)] [.int (0 * 4), .ref (mi_RO + 3)] (by rfl) ?_ | refine ft_go mi_k13 5 23 [(6, .int 0), (0, .ref 94), (1, .int x1), (2, .int 0), (3, .int 1), (4, .int x4), (5, .int x5)] [.int (0 * 4), .ref (mi_RO + 3)] i a q r (by rfl) ?_
    refine ko_top (by decide : (0 * 4 : Int32) = 0) ?_
    first | refine fo_goS mi_k13 fz13_23_2_25 [.int (0 + 1), .ref (mi_RO + 3)] (by rfl) ?_ | refine ft_go mi_k13 2 25 [(6, .int 0), (0, .ref 94), (1, .int x1), (2, .int 0), (3, .int 1), (4, .int x4), (5, .int x5)] [.int (0 + 1), .ref (mi_RO + 3)] i a q r (by rfl) ?_
    refine ko_top (by decide : (0 + 1 : Int32) = 1) ?_
    refine ft_ro mi_k13 (w := 10) (by decide +kernel) (by decide +kernel) ?_
    first | refine fo_goL mi_k13 fz13_26_4_34 [(7, .int 10), (6, .int 0), (0, .ref 94), (1, .int x1), (2, .int 0), (3, .int 1), (4, .int x4), (5, .int x5)] [.int 24, .int (i 6019)] (by rfl) ?_ | refine ft_go mi_k13 4 34 [(7, .int 10), (6, .int 0), (0, .ref 94), (1, .int x1), (2, .int 0), (3, .int 1), (4, .int x4), (5, .int x5)] [.int 24, .int (i 6019)] i a q r (by rfl) ?_
    refine ft_ifS mi_k13 (decide (24 ≤ (i 6019))) 48 37 [] (by rfl) (fun c => ?_) (fun c => ?_)
    ·
      have c6 : (24 : Int32).toInt ≤ (i 6019).toInt := kd_le c; clear c
      have s7 : ((i 6019) + 1).toInt = (i 6019).toInt + (1 : Int32).toInt := kd_add (oz1332 c6 kn24 kn1) (oz951 fi_6019.2 kn1)
      have hJ8 := kG_i hG 6019 rfl (v := ((i 6019) + 1)) ⟨(oz1333 c6 s7 kn24 kn1), (oz1351 hp3.2 s7 kn1)⟩
      have s9 : (x5 + 1).toInt = x5.toInt + (1 : Int32).toInt := kd_add (oz12 hp2.1 kn1) (oz1352 hp2.2 kn1)
      first | refine fo_goI mi_k13 fz13_48_15_72 [.int (x5 + 1), .int x4, .int 1, .int x1, .ref 94] (ku i 6019 ((i 6019) + 1)) (by rfl) ?_ | refine ft_go mi_k13 15 72 [(7, .int 10), (6, .int 0), (0, .ref 94), (1, .int x1), (2, .int 0), (3, .int 1), (4, .int x4), (5, .int x5)] [.int (x5 + 1), .int x4, .int 1, .int x1, .ref 94] (ku i 6019 ((i 6019) + 1)) a q r (by rfl) ?_
      refine ko_callI mi_k13.1 (pc := 72) (ls := [(7, .int 10), (6, .int 0), (0, .ref 94), (1, .int x1), (2, .int 0), (3, .int 1), (4, .int x4), (5, .int x5)]) (st := [.int (x5 + 1), .int x4, .int 1, .int x1, .ref 94]) (h := ks (ku i 6019 ((i 6019) + 1)) a q r) (i := (.invokevirtual 43, 3, 14, 0, 9, 0, 301)) (mi_k13.2 _ _ (by rfl)) (ft_invS mi_pq14 (by rfl)) (cy := mi_c14) mi_pq14 rfl (kc14_94_l11_K3 hJ8.I hJ8.R x1 x4 (x5 + 1) (oz1339 hp0.1 hp0.2) (oz1421 hp1) (oz1356 hp2.1 hp2.2 s9 kn1) (oz1357 c6 hp3.2 s7 kn24 kn1)) (by decide) ?_
      intro vg10 ig10 ag10 qg10 rg10 kg10 hg10
      have hGg10 := kG_call hJ8 kg10 (by decide +kernel)
      have z11 : (ig10 6019).toInt = (((i 6019) + 1).toInt + 1) := hg10
      exact ft_ret mi_k13 (by rfl) (hP vg10 _ _ _ _ hGg10 (oz1358 s7 z11 kn1))
    ·
      have c12 : (i 6019).toInt < (24 : Int32).toInt := kd_leF c; clear c
      first | refine fo_goS mi_k13 fz13_37_5_47 [.int 10, .int (i 6019), .ref 96] (by rfl) ?_ | refine ft_go mi_k13 5 47 [(7, .int 10), (6, .int 0), (0, .ref 94), (1, .int x1), (2, .int 0), (3, .int 1), (4, .int x4), (5, .int x5)] [.int 10, .int (i 6019), .ref 96] i a q r (by rfl) ?_
      refine ko_iast3 mi_k13.1 (n := 24) (c := 24) (ax := (0, 0, 0, 0, 0)) (mi_k13.2 _ _ (by rfl)) (by rfl) (ksG96 _ _ _ _) (ksA96 _ _ _ _) (hG.I.2.1 96) rfl (oz3 fi_6019.1) (oz1343 c12 kn24) ?_
      intro a13 ea13 fa13
      have hJ13 := kG_a3 hG 96 rfl ea13 fa13 (kd_bd _)
      have s14 : ((i 6019) + 1).toInt = (i 6019).toInt + (1 : Int32).toInt := kd_add (oz12 fi_6019.1 kn1) (oz951 fi_6019.2 kn1)
      have hJ15 := kG_i hJ13 6019 rfl (v := ((i 6019) + 1)) ⟨(oz14 fi_6019.1 s14 kn1), (oz1351 hp3.2 s14 kn1)⟩
      have s16 : (x5 + 1).toInt = x5.toInt + (1 : Int32).toInt := kd_add (oz12 hp2.1 kn1) (oz1352 hp2.2 kn1)
      first | refine fo_goI mi_k13 fz13_48_15_72 [.int (x5 + 1), .int x4, .int 1, .int x1, .ref 94] (ku i 6019 ((i 6019) + 1)) (by rfl) ?_ | refine ft_go mi_k13 15 72 [(7, .int 10), (6, .int 0), (0, .ref 94), (1, .int x1), (2, .int 0), (3, .int 1), (4, .int x4), (5, .int x5)] [.int (x5 + 1), .int x4, .int 1, .int x1, .ref 94] (ku i 6019 ((i 6019) + 1)) a13 q r (by rfl) ?_
      have r17 : ((0 : Int) ≤ ((a13 95).getD x1.toNatClampNeg 0).toInt) ∧ (((a13 95).getD x1.toNatClampNeg 0).toInt ≤ 7) := hJ15.I.2.2.1 95 (x1.toNatClampNeg)
      have u18 : ((a13 95).getD x1.toNatClampNeg 0).toInt = ((a 95).getD x1.toNatClampNeg 0).toInt := congrArg (fun z : List Int32 => (z.getD x1.toNatClampNeg 0).toInt) (fa13 95 (by decide))
      refine ko_callI mi_k13.1 (pc := 72) (ls := [(7, .int 10), (6, .int 0), (0, .ref 94), (1, .int x1), (2, .int 0), (3, .int 1), (4, .int x4), (5, .int x5)]) (st := [.int (x5 + 1), .int x4, .int 1, .int x1, .ref 94]) (h := ks (ku i 6019 ((i 6019) + 1)) a13 q r) (i := (.invokevirtual 43, 3, 14, 0, 9, 0, 301)) (mi_k13.2 _ _ (by rfl)) (ft_invS mi_pq14 (by rfl)) (cy := mi_c14) mi_pq14 rfl (kc14_94_l11_K3 hJ15.I hJ15.R x1 x4 (x5 + 1) (oz1339 hp0.1 hp0.2) (oz1422 hp1 u18) (oz1356 hp2.1 hp2.2 s16 kn1) (oz1359 fi_6019.1 hp3.2 s14 kn1)) (by decide) ?_
      intro vg19 ig19 ag19 qg19 rg19 kg19 hg19
      have hGg19 := kG_call hJ15 kg19 (by decide +kernel)
      have z20 : (ig19 6019).toInt = (((i 6019) + 1).toInt + 1) := hg19
      exact ft_ret mi_k13 (by rfl) (hP vg19 _ _ _ _ hGg19 (oz1358 s14 z20 kn1))
  ·
    have c21 : (40 : Int32).toInt ≤ x5.toInt := kd_ltF c; clear c
    exact (oz1360 c21 hp2.2 kn40).elim
def w13_94_l12_l21_K3 : kW := ([6019], [96], [], [])
set_option maxRecDepth 100000 in
theorem kc13_94_l12_l21_K3 {i : Nat → Int32} {a : Nat → List Int32} {q : Nat → List Int64} {r : Nat → Nat} (hI : kI i a q) (hr : kr r) (x1 : Int32) (x4 : Int32) (x5 : Int32) (hp0 : ((0 : Int) ≤ x1.toInt) ∧ (x1.toInt ≤ 49)) (hp1 : ((a 95).getD x1.toNatClampNeg 0).toInt = 3) (hp2 : ((0 : Int) ≤ x5.toInt) ∧ ((x5.toInt + 3) ≤ 39)) (hp3 : ((0 : Int) ≤ (i 6019).toInt) ∧ (((i 6019).toInt + 3) ≤ 900)) : km 9 13 [.ref 94, .int x1, .int 2, .int 1, .int x4, .int x5] (ks i a q r) (kVI w13_94_l12_l21_K3 i a q r (fun v i1 a1 q1 r1 => (i1 6019).toInt = ((i 6019).toInt + 3))) := by
  have hG := kG_self w13_94_l12_l21_K3 hI hr
  refine km_ofI (q := (mi_h13, mi_c13)) rfl (by decide) (Nat.le_of_ble_eq_true rfl) ?_
  intro P hP
  have r1 : ((0 : Int) ≤ ((a 95).getD x1.toNatClampNeg 0).toInt) ∧ (((a 95).getD x1.toNatClampNeg 0).toInt ≤ 7) := hG.I.2.2.1 95 (x1.toNatClampNeg)
  have fi_6019 : ((0 : Int) ≤ (i 6019).toInt) ∧ ((i 6019).toInt ≤ 1000) := hG.I.1 6019
  first | refine fo_goL mi_k13 fz13_0_2_4 [(0, .ref 94), (1, .int x1), (2, .int 2), (3, .int 1), (4, .int x4), (5, .int x5)] [.int 40, .int x5] (by rfl) ?_ | refine ft_go mi_k13 2 4 [(0, .ref 94), (1, .int x1), (2, .int 2), (3, .int 1), (4, .int x4), (5, .int x5)] [.int 40, .int x5] i a q r (by rfl) ?_
  refine ft_ifS mi_k13 (decide (x5 < 40)) 9 7 [] (by rfl) (fun c => ?_) (fun c => ?_)
  ·
    have c2 : x5.toInt < (40 : Int32).toInt := kd_lt c; clear c
    first | refine fo_goS mi_k13 fz13_9_2_11 [.int 1, .int 2] (by rfl) ?_ | refine ft_go mi_k13 2 11 [(0, .ref 94), (1, .int x1), (2, .int 2), (3, .int 1), (4, .int x4), (5, .int x5)] [.int 1, .int 2] i a q r (by rfl) ?_
    refine ko_callPI mi_k13.1 (pc := 11) (ls := [(0, .ref 94), (1, .int x1), (2, .int 2), (3, .int 1), (4, .int x4), (5, .int x5)]) (st := [.int 1, .int 2]) (h := ks i a q r) (i := (.invokestatic 39, 3, 11, 0, 9, 0, 298)) (mi_k13.2 _ _ (by rfl)) (ft_invS mi_pq11 (by rfl)) (cy := mi_c11) mi_pq11 rfl (kc11_l02_l11 hG.I hG.R ) (by decide) ?_
    intro vg3 hg3
    have z4 : vg3.toInt = 2 := hg3
    have evvg3 := kj_eq (oz1411 z4) (by decide : (2 : Int32).toInt = 2)
    subst evvg3
    first | refine ft_goL mi_k13 5 23 [(6, .int 2), (0, .ref 94), (1, .int x1), (2, .int 2), (3, .int 1), (4, .int x4), (5, .int x5)] [.int (2 * 4), .ref (mi_RO + 3)] (by rfl) ?_ | refine ft_go mi_k13 5 23 [(6, .int 2), (0, .ref 94), (1, .int x1), (2, .int 2), (3, .int 1), (4, .int x4), (5, .int x5)] [.int (2 * 4), .ref (mi_RO + 3)] i a q r (by rfl) ?_
    refine ko_top (by decide : (2 * 4 : Int32) = 8) ?_
    first | refine fo_goS mi_k13 fz13_23_2_25 [.int (8 + 1), .ref (mi_RO + 3)] (by rfl) ?_ | refine ft_go mi_k13 2 25 [(6, .int 2), (0, .ref 94), (1, .int x1), (2, .int 2), (3, .int 1), (4, .int x4), (5, .int x5)] [.int (8 + 1), .ref (mi_RO + 3)] i a q r (by rfl) ?_
    refine ko_top (by decide : (8 + 1 : Int32) = 9) ?_
    refine ft_ro mi_k13 (w := 30) (by decide +kernel) (by decide +kernel) ?_
    first | refine fo_goL mi_k13 fz13_26_4_34 [(7, .int 30), (6, .int 2), (0, .ref 94), (1, .int x1), (2, .int 2), (3, .int 1), (4, .int x4), (5, .int x5)] [.int 24, .int (i 6019)] (by rfl) ?_ | refine ft_go mi_k13 4 34 [(7, .int 30), (6, .int 2), (0, .ref 94), (1, .int x1), (2, .int 2), (3, .int 1), (4, .int x4), (5, .int x5)] [.int 24, .int (i 6019)] i a q r (by rfl) ?_
    refine ft_ifS mi_k13 (decide (24 ≤ (i 6019))) 48 37 [] (by rfl) (fun c => ?_) (fun c => ?_)
    ·
      have c6 : (24 : Int32).toInt ≤ (i 6019).toInt := kd_le c; clear c
      have s7 : ((i 6019) + 1).toInt = (i 6019).toInt + (1 : Int32).toInt := kd_add (oz1332 c6 kn24 kn1) (oz951 fi_6019.2 kn1)
      have hJ8 := kG_i hG 6019 rfl (v := ((i 6019) + 1)) ⟨(oz1333 c6 s7 kn24 kn1), (oz1385 hp3.2 s7 kn1)⟩
      first | refine ft_goI mi_k13 12 83 [.int 2, .ref (mi_RO + 4), .int x1, .ref 94] (ku i 6019 ((i 6019) + 1)) (by rfl) ?_ | refine ft_go mi_k13 12 83 [(7, .int 30), (6, .int 2), (0, .ref 94), (1, .int x1), (2, .int 2), (3, .int 1), (4, .int x4), (5, .int x5)] [.int 2, .ref (mi_RO + 4), .int x1, .ref 94] (ku i 6019 ((i 6019) + 1)) a q r (by rfl) ?_
      refine ft_ro mi_k13 (w := 0) (by decide +kernel) (by decide +kernel) ?_
      have s10 : (x5 + 1).toInt = x5.toInt + (1 : Int32).toInt := kd_add (oz12 hp2.1 kn1) (oz1366 hp2.2 kn1)
      first | refine ft_goS mi_k13 8 105 [.int (x5 + 1), .int x4, .int 1, .int 0, .int x1, .ref 94] (by rfl) ?_ | refine ft_go mi_k13 8 105 [(7, .int 30), (6, .int 2), (0, .ref 94), (1, .int x1), (2, .int 2), (3, .int 1), (4, .int x4), (5, .int x5)] [.int (x5 + 1), .int x4, .int 1, .int 0, .int x1, .ref 94] (ku i 6019 ((i 6019) + 1)) a q r (by rfl) ?_
      refine ko_callI mi_k13.1 (pc := 105) (ls := [(7, .int 30), (6, .int 2), (0, .ref 94), (1, .int x1), (2, .int 2), (3, .int 1), (4, .int x4), (5, .int x5)]) (st := [.int (x5 + 1), .int x4, .int 1, .int 0, .int x1, .ref 94]) (h := ks (ku i 6019 ((i 6019) + 1)) a q r) (i := (.invokevirtual 35, 3, 13, 0, 9, 0, 297)) (mi_k13.2 _ _ (by rfl)) (ft_invS mi_pq13 (by rfl)) (cy := mi_c13) mi_pq13 rfl (kc13_94_l10_l21_K3 hJ8.I hJ8.R x1 x4 (x5 + 1) (oz1339 hp0.1 hp0.2) (oz1421 hp1) (oz1372 hp2.1 hp2.2 s10 kn1) (oz1388 c6 hp3.2 s7 kn24 kn1)) (by decide) ?_
      intro vg11 ig11 ag11 qg11 rg11 kg11 hg11
      have hGg11 := kG_call hJ8 kg11 (by decide +kernel)
      have z12 : (ig11 6019).toInt = (((i 6019) + 1).toInt + 2) := hg11
      first | refine ft_goL mi_k13 5 196 [(8, .int vg11), (7, .int 30), (6, .int 2), (0, .ref 94), (1, .int x1), (2, .int 2), (3, .int 1), (4, .int x4), (5, .int x5)] [.int (-vg11)] (by rfl) ?_ | refine ft_go mi_k13 5 196 [(8, .int vg11), (7, .int 30), (6, .int 2), (0, .ref 94), (1, .int x1), (2, .int 2), (3, .int 1), (4, .int x4), (5, .int x5)] [.int (-vg11)] ig11 ag11 qg11 rg11 (by rfl) ?_
      exact ft_ret mi_k13 (by rfl) (hP (-vg11) _ _ _ _ hGg11 (oz1389 s7 z12 kn1))
    ·
      have c13 : (i 6019).toInt < (24 : Int32).toInt := kd_leF c; clear c
      first | refine fo_goS mi_k13 fz13_37_5_47 [.int 30, .int (i 6019), .ref 96] (by rfl) ?_ | refine ft_go mi_k13 5 47 [(7, .int 30), (6, .int 2), (0, .ref 94), (1, .int x1), (2, .int 2), (3, .int 1), (4, .int x4), (5, .int x5)] [.int 30, .int (i 6019), .ref 96] i a q r (by rfl) ?_
      refine ko_iast3 mi_k13.1 (n := 24) (c := 24) (ax := (0, 0, 0, 0, 0)) (mi_k13.2 _ _ (by rfl)) (by rfl) (ksG96 _ _ _ _) (ksA96 _ _ _ _) (hG.I.2.1 96) rfl (oz3 fi_6019.1) (oz1343 c13 kn24) ?_
      intro a14 ea14 fa14
      have hJ14 := kG_a3 hG 96 rfl ea14 fa14 (kd_bd _)
      have s15 : ((i 6019) + 1).toInt = (i 6019).toInt + (1 : Int32).toInt := kd_add (oz12 fi_6019.1 kn1) (oz951 fi_6019.2 kn1)
      have hJ16 := kG_i hJ14 6019 rfl (v := ((i 6019) + 1)) ⟨(oz14 fi_6019.1 s15 kn1), (oz1385 hp3.2 s15 kn1)⟩
      first | refine ft_goI mi_k13 12 83 [.int 2, .ref (mi_RO + 4), .int x1, .ref 94] (ku i 6019 ((i 6019) + 1)) (by rfl) ?_ | refine ft_go mi_k13 12 83 [(7, .int 30), (6, .int 2), (0, .ref 94), (1, .int x1), (2, .int 2), (3, .int 1), (4, .int x4), (5, .int x5)] [.int 2, .ref (mi_RO + 4), .int x1, .ref 94] (ku i 6019 ((i 6019) + 1)) a14 q r (by rfl) ?_
      refine ft_ro mi_k13 (w := 0) (by decide +kernel) (by decide +kernel) ?_
      have s18 : (x5 + 1).toInt = x5.toInt + (1 : Int32).toInt := kd_add (oz12 hp2.1 kn1) (oz1366 hp2.2 kn1)
      first | refine ft_goS mi_k13 8 105 [.int (x5 + 1), .int x4, .int 1, .int 0, .int x1, .ref 94] (by rfl) ?_ | refine ft_go mi_k13 8 105 [(7, .int 30), (6, .int 2), (0, .ref 94), (1, .int x1), (2, .int 2), (3, .int 1), (4, .int x4), (5, .int x5)] [.int (x5 + 1), .int x4, .int 1, .int 0, .int x1, .ref 94] (ku i 6019 ((i 6019) + 1)) a14 q r (by rfl) ?_
      have r19 : ((0 : Int) ≤ ((a14 95).getD x1.toNatClampNeg 0).toInt) ∧ (((a14 95).getD x1.toNatClampNeg 0).toInt ≤ 7) := hJ16.I.2.2.1 95 (x1.toNatClampNeg)
      have u20 : ((a14 95).getD x1.toNatClampNeg 0).toInt = ((a 95).getD x1.toNatClampNeg 0).toInt := congrArg (fun z : List Int32 => (z.getD x1.toNatClampNeg 0).toInt) (fa14 95 (by decide))
      refine ko_callI mi_k13.1 (pc := 105) (ls := [(7, .int 30), (6, .int 2), (0, .ref 94), (1, .int x1), (2, .int 2), (3, .int 1), (4, .int x4), (5, .int x5)]) (st := [.int (x5 + 1), .int x4, .int 1, .int 0, .int x1, .ref 94]) (h := ks (ku i 6019 ((i 6019) + 1)) a14 q r) (i := (.invokevirtual 35, 3, 13, 0, 9, 0, 297)) (mi_k13.2 _ _ (by rfl)) (ft_invS mi_pq13 (by rfl)) (cy := mi_c13) mi_pq13 rfl (kc13_94_l10_l21_K3 hJ16.I hJ16.R x1 x4 (x5 + 1) (oz1339 hp0.1 hp0.2) (oz1422 hp1 u20) (oz1372 hp2.1 hp2.2 s18 kn1) (oz1390 fi_6019.1 hp3.2 s15 kn1)) (by decide) ?_
      intro vg21 ig21 ag21 qg21 rg21 kg21 hg21
      have hGg21 := kG_call hJ16 kg21 (by decide +kernel)
      have z22 : (ig21 6019).toInt = (((i 6019) + 1).toInt + 2) := hg21
      first | refine ft_goL mi_k13 5 196 [(8, .int vg21), (7, .int 30), (6, .int 2), (0, .ref 94), (1, .int x1), (2, .int 2), (3, .int 1), (4, .int x4), (5, .int x5)] [.int (-vg21)] (by rfl) ?_ | refine ft_go mi_k13 5 196 [(8, .int vg21), (7, .int 30), (6, .int 2), (0, .ref 94), (1, .int x1), (2, .int 2), (3, .int 1), (4, .int x4), (5, .int x5)] [.int (-vg21)] ig21 ag21 qg21 rg21 (by rfl) ?_
      exact ft_ret mi_k13 (by rfl) (hP (-vg21) _ _ _ _ hGg21 (oz1389 s15 z22 kn1))
  ·
    have c23 : (40 : Int32).toInt ≤ x5.toInt := kd_ltF c; clear c
    exact (oz1376 c23 hp2.2 kn40).elim
def w13_94_l13_l21_K3 : kW := ([6019], [96], [], [])
set_option maxRecDepth 100000 in
theorem kc13_94_l13_l21_K3 {i : Nat → Int32} {a : Nat → List Int32} {q : Nat → List Int64} {r : Nat → Nat} (hI : kI i a q) (hr : kr r) (x1 : Int32) (x4 : Int32) (x5 : Int32) (hp0 : ((0 : Int) ≤ x1.toInt) ∧ (x1.toInt ≤ 49)) (hp1 : ((a 95).getD x1.toNatClampNeg 0).toInt = 3) (hp2 : ((0 : Int) ≤ x5.toInt) ∧ ((x5.toInt + 4) ≤ 39)) (hp3 : ((0 : Int) ≤ (i 6019).toInt) ∧ (((i 6019).toInt + 4) ≤ 900)) : km 11 13 [.ref 94, .int x1, .int 3, .int 1, .int x4, .int x5] (ks i a q r) (kVI w13_94_l13_l21_K3 i a q r (fun v i1 a1 q1 r1 => (i1 6019).toInt = ((i 6019).toInt + 4))) := by
  have hG := kG_self w13_94_l13_l21_K3 hI hr
  refine km_ofI (q := (mi_h13, mi_c13)) rfl (by decide) (Nat.le_of_ble_eq_true rfl) ?_
  intro P hP
  have r1 : ((0 : Int) ≤ ((a 95).getD x1.toNatClampNeg 0).toInt) ∧ (((a 95).getD x1.toNatClampNeg 0).toInt ≤ 7) := hG.I.2.2.1 95 (x1.toNatClampNeg)
  have fi_6019 : ((0 : Int) ≤ (i 6019).toInt) ∧ ((i 6019).toInt ≤ 1000) := hG.I.1 6019
  first | refine fo_goL mi_k13 fz13_0_2_4 [(0, .ref 94), (1, .int x1), (2, .int 3), (3, .int 1), (4, .int x4), (5, .int x5)] [.int 40, .int x5] (by rfl) ?_ | refine ft_go mi_k13 2 4 [(0, .ref 94), (1, .int x1), (2, .int 3), (3, .int 1), (4, .int x4), (5, .int x5)] [.int 40, .int x5] i a q r (by rfl) ?_
  refine ft_ifS mi_k13 (decide (x5 < 40)) 9 7 [] (by rfl) (fun c => ?_) (fun c => ?_)
  ·
    have c2 : x5.toInt < (40 : Int32).toInt := kd_lt c; clear c
    first | refine fo_goS mi_k13 fz13_9_2_11 [.int 1, .int 3] (by rfl) ?_ | refine ft_go mi_k13 2 11 [(0, .ref 94), (1, .int x1), (2, .int 3), (3, .int 1), (4, .int x4), (5, .int x5)] [.int 1, .int 3] i a q r (by rfl) ?_
    refine ko_callPI mi_k13.1 (pc := 11) (ls := [(0, .ref 94), (1, .int x1), (2, .int 3), (3, .int 1), (4, .int x4), (5, .int x5)]) (st := [.int 1, .int 3]) (h := ks i a q r) (i := (.invokestatic 39, 3, 11, 0, 9, 0, 298)) (mi_k13.2 _ _ (by rfl)) (ft_invS mi_pq11 (by rfl)) (cy := mi_c11) mi_pq11 rfl (kc11_l03_l11 hG.I hG.R ) (by decide) ?_
    intro vg3 hg3
    have z4 : vg3.toInt = 3 := hg3
    have evvg3 := kj_eq (oz1421 z4) (by decide : (3 : Int32).toInt = 3)
    subst evvg3
    first | refine ft_goL mi_k13 5 23 [(6, .int 3), (0, .ref 94), (1, .int x1), (2, .int 3), (3, .int 1), (4, .int x4), (5, .int x5)] [.int (3 * 4), .ref (mi_RO + 3)] (by rfl) ?_ | refine ft_go mi_k13 5 23 [(6, .int 3), (0, .ref 94), (1, .int x1), (2, .int 3), (3, .int 1), (4, .int x4), (5, .int x5)] [.int (3 * 4), .ref (mi_RO + 3)] i a q r (by rfl) ?_
    refine ko_top (by decide : (3 * 4 : Int32) = 12) ?_
    first | refine fo_goS mi_k13 fz13_23_2_25 [.int (12 + 1), .ref (mi_RO + 3)] (by rfl) ?_ | refine ft_go mi_k13 2 25 [(6, .int 3), (0, .ref 94), (1, .int x1), (2, .int 3), (3, .int 1), (4, .int x4), (5, .int x5)] [.int (12 + 1), .ref (mi_RO + 3)] i a q r (by rfl) ?_
    refine ko_top (by decide : (12 + 1 : Int32) = 13) ?_
    refine ft_ro mi_k13 (w := 41) (by decide +kernel) (by decide +kernel) ?_
    first | refine fo_goL mi_k13 fz13_26_4_34 [(7, .int 41), (6, .int 3), (0, .ref 94), (1, .int x1), (2, .int 3), (3, .int 1), (4, .int x4), (5, .int x5)] [.int 24, .int (i 6019)] (by rfl) ?_ | refine ft_go mi_k13 4 34 [(7, .int 41), (6, .int 3), (0, .ref 94), (1, .int x1), (2, .int 3), (3, .int 1), (4, .int x4), (5, .int x5)] [.int 24, .int (i 6019)] i a q r (by rfl) ?_
    refine ft_ifS mi_k13 (decide (24 ≤ (i 6019))) 48 37 [] (by rfl) (fun c => ?_) (fun c => ?_)
    ·
      have c6 : (24 : Int32).toInt ≤ (i 6019).toInt := kd_le c; clear c
      have s7 : ((i 6019) + 1).toInt = (i 6019).toInt + (1 : Int32).toInt := kd_add (oz1332 c6 kn24 kn1) (oz951 fi_6019.2 kn1)
      have hJ8 := kG_i hG 6019 rfl (v := ((i 6019) + 1)) ⟨(oz1333 c6 s7 kn24 kn1), (oz1365 hp3.2 s7 kn1)⟩
      first | refine ft_goI mi_k13 12 83 [.int 3, .ref (mi_RO + 4), .int x1, .ref 94] (ku i 6019 ((i 6019) + 1)) (by rfl) ?_ | refine ft_go mi_k13 12 83 [(7, .int 41), (6, .int 3), (0, .ref 94), (1, .int x1), (2, .int 3), (3, .int 1), (4, .int x4), (5, .int x5)] [.int 3, .ref (mi_RO + 4), .int x1, .ref 94] (ku i 6019 ((i 6019) + 1)) a q r (by rfl) ?_
      refine ft_ro mi_k13 (w := 2) (by decide +kernel) (by decide +kernel) ?_
      have b10 : ((-2147483648 : Int) ≤ x4.toInt) ∧ (x4.toInt ≤ 2147483647) := kd_bd x4
      have s11 : (x5 + 1).toInt = x5.toInt + (1 : Int32).toInt := kd_add (oz12 hp2.1 kn1) (oz1395 hp2.2 kn1)
      first | refine ft_goS mi_k13 11 105 [.int (x5 + 1), .int (x4 + 1), .int 1, .int 2, .int x1, .ref 94] (by rfl) ?_ | refine ft_go mi_k13 11 105 [(7, .int 41), (6, .int 3), (0, .ref 94), (1, .int x1), (2, .int 3), (3, .int 1), (4, .int x4), (5, .int x5)] [.int (x5 + 1), .int (x4 + 1), .int 1, .int 2, .int x1, .ref 94] (ku i 6019 ((i 6019) + 1)) a q r (by rfl) ?_
      refine ko_callI mi_k13.1 (pc := 105) (ls := [(7, .int 41), (6, .int 3), (0, .ref 94), (1, .int x1), (2, .int 3), (3, .int 1), (4, .int x4), (5, .int x5)]) (st := [.int (x5 + 1), .int (x4 + 1), .int 1, .int 2, .int x1, .ref 94]) (h := ks (ku i 6019 ((i 6019) + 1)) a q r) (i := (.invokevirtual 35, 3, 13, 0, 9, 0, 297)) (mi_k13.2 _ _ (by rfl)) (ft_invS mi_pq13 (by rfl)) (cy := mi_c13) mi_pq13 rfl (kc13_94_l12_l21_K3 hJ8.I hJ8.R x1 (x4 + 1) (x5 + 1) (oz1339 hp0.1 hp0.2) (oz1421 hp1) (oz1401 hp2.1 hp2.2 s11 kn1) (oz1373 c6 hp3.2 s7 kn24 kn1)) (by decide) ?_
      intro vg12 ig12 ag12 qg12 rg12 kg12 hg12
      have hGg12 := kG_call hJ8 kg12 (by decide +kernel)
      have z13 : (ig12 6019).toInt = (((i 6019) + 1).toInt + 3) := hg12
      first | refine ft_goL mi_k13 4 261 [(8, .int vg12), (7, .int 41), (6, .int 3), (0, .ref 94), (1, .int x1), (2, .int 3), (3, .int 1), (4, .int x4), (5, .int x5)] [.int vg12] (by rfl) ?_ | refine ft_go mi_k13 4 261 [(8, .int vg12), (7, .int 41), (6, .int 3), (0, .ref 94), (1, .int x1), (2, .int 3), (3, .int 1), (4, .int x4), (5, .int x5)] [.int vg12] ig12 ag12 qg12 rg12 (by rfl) ?_
      exact ft_ret mi_k13 (by rfl) (hP vg12 _ _ _ _ hGg12 (oz1374 s7 z13 kn1))
    ·
      have c14 : (i 6019).toInt < (24 : Int32).toInt := kd_leF c; clear c
      first | refine fo_goS mi_k13 fz13_37_5_47 [.int 41, .int (i 6019), .ref 96] (by rfl) ?_ | refine ft_go mi_k13 5 47 [(7, .int 41), (6, .int 3), (0, .ref 94), (1, .int x1), (2, .int 3), (3, .int 1), (4, .int x4), (5, .int x5)] [.int 41, .int (i 6019), .ref 96] i a q r (by rfl) ?_
      refine ko_iast3 mi_k13.1 (n := 24) (c := 24) (ax := (0, 0, 0, 0, 0)) (mi_k13.2 _ _ (by rfl)) (by rfl) (ksG96 _ _ _ _) (ksA96 _ _ _ _) (hG.I.2.1 96) rfl (oz3 fi_6019.1) (oz1343 c14 kn24) ?_
      intro a15 ea15 fa15
      have hJ15 := kG_a3 hG 96 rfl ea15 fa15 (kd_bd _)
      have s16 : ((i 6019) + 1).toInt = (i 6019).toInt + (1 : Int32).toInt := kd_add (oz12 fi_6019.1 kn1) (oz951 fi_6019.2 kn1)
      have hJ17 := kG_i hJ15 6019 rfl (v := ((i 6019) + 1)) ⟨(oz14 fi_6019.1 s16 kn1), (oz1365 hp3.2 s16 kn1)⟩
      first | refine ft_goI mi_k13 12 83 [.int 3, .ref (mi_RO + 4), .int x1, .ref 94] (ku i 6019 ((i 6019) + 1)) (by rfl) ?_ | refine ft_go mi_k13 12 83 [(7, .int 41), (6, .int 3), (0, .ref 94), (1, .int x1), (2, .int 3), (3, .int 1), (4, .int x4), (5, .int x5)] [.int 3, .ref (mi_RO + 4), .int x1, .ref 94] (ku i 6019 ((i 6019) + 1)) a15 q r (by rfl) ?_
      refine ft_ro mi_k13 (w := 2) (by decide +kernel) (by decide +kernel) ?_
      have b19 : ((-2147483648 : Int) ≤ x4.toInt) ∧ (x4.toInt ≤ 2147483647) := kd_bd x4
      have s20 : (x5 + 1).toInt = x5.toInt + (1 : Int32).toInt := kd_add (oz12 hp2.1 kn1) (oz1395 hp2.2 kn1)
      first | refine ft_goS mi_k13 11 105 [.int (x5 + 1), .int (x4 + 1), .int 1, .int 2, .int x1, .ref 94] (by rfl) ?_ | refine ft_go mi_k13 11 105 [(7, .int 41), (6, .int 3), (0, .ref 94), (1, .int x1), (2, .int 3), (3, .int 1), (4, .int x4), (5, .int x5)] [.int (x5 + 1), .int (x4 + 1), .int 1, .int 2, .int x1, .ref 94] (ku i 6019 ((i 6019) + 1)) a15 q r (by rfl) ?_
      have r21 : ((0 : Int) ≤ ((a15 95).getD x1.toNatClampNeg 0).toInt) ∧ (((a15 95).getD x1.toNatClampNeg 0).toInt ≤ 7) := hJ17.I.2.2.1 95 (x1.toNatClampNeg)
      have u22 : ((a15 95).getD x1.toNatClampNeg 0).toInt = ((a 95).getD x1.toNatClampNeg 0).toInt := congrArg (fun z : List Int32 => (z.getD x1.toNatClampNeg 0).toInt) (fa15 95 (by decide))
      refine ko_callI mi_k13.1 (pc := 105) (ls := [(7, .int 41), (6, .int 3), (0, .ref 94), (1, .int x1), (2, .int 3), (3, .int 1), (4, .int x4), (5, .int x5)]) (st := [.int (x5 + 1), .int (x4 + 1), .int 1, .int 2, .int x1, .ref 94]) (h := ks (ku i 6019 ((i 6019) + 1)) a15 q r) (i := (.invokevirtual 35, 3, 13, 0, 9, 0, 297)) (mi_k13.2 _ _ (by rfl)) (ft_invS mi_pq13 (by rfl)) (cy := mi_c13) mi_pq13 rfl (kc13_94_l12_l21_K3 hJ17.I hJ17.R x1 (x4 + 1) (x5 + 1) (oz1339 hp0.1 hp0.2) (oz1422 hp1 u22) (oz1401 hp2.1 hp2.2 s20 kn1) (oz1375 fi_6019.1 hp3.2 s16 kn1)) (by decide) ?_
      intro vg23 ig23 ag23 qg23 rg23 kg23 hg23
      have hGg23 := kG_call hJ17 kg23 (by decide +kernel)
      have z24 : (ig23 6019).toInt = (((i 6019) + 1).toInt + 3) := hg23
      first | refine ft_goL mi_k13 4 261 [(8, .int vg23), (7, .int 41), (6, .int 3), (0, .ref 94), (1, .int x1), (2, .int 3), (3, .int 1), (4, .int x4), (5, .int x5)] [.int vg23] (by rfl) ?_ | refine ft_go mi_k13 4 261 [(8, .int vg23), (7, .int 41), (6, .int 3), (0, .ref 94), (1, .int x1), (2, .int 3), (3, .int 1), (4, .int x4), (5, .int x5)] [.int vg23] ig23 ag23 qg23 rg23 (by rfl) ?_
      exact ft_ret mi_k13 (by rfl) (hP vg23 _ _ _ _ hGg23 (oz1374 s16 z24 kn1))
  ·
    have c25 : (40 : Int32).toInt ≤ x5.toInt := kd_ltF c; clear c
    exact (oz1405 c25 hp2.2 kn40).elim
set_option maxRecDepth 100000 in
theorem kc11_l03_l12 {i : Nat → Int32} {a : Nat → List Int32} {q : Nat → List Int64} {r : Nat → Nat} (hI : kI i a q) (hr : kr r)  : km 1 11 [.int 3, .int 2] (ks i a q r) (kPI (ks i a q r) (fun v => v.toInt = 3)) := by
  have hG := kG_self kW0 hI hr
  refine km_ofPI (q := (mi_h11, mi_c11)) rfl (by decide) (Nat.le_of_ble_eq_true rfl) ?_
  intro P hP
  first | refine ft_goL mi_k11 16 26 [(3, .int 0), (2, .int 3), (0, .int 3), (1, .int 2)] [.int (3 * 4), .ref (mi_RO + 3)] (by rfl) ?_ | refine ft_go mi_k11 16 26 [(3, .int 0), (2, .int 3), (0, .int 3), (1, .int 2)] [.int (3 * 4), .ref (mi_RO + 3)] i a q r (by rfl) ?_
  refine ko_top (by decide : (3 * 4 : Int32) = 12) ?_
  first | refine fo_goS mi_k11 fz11_26_2_28 [.int (12 + 2), .ref (mi_RO + 3)] (by rfl) ?_ | refine ft_go mi_k11 2 28 [(3, .int 0), (2, .int 3), (0, .int 3), (1, .int 2)] [.int (12 + 2), .ref (mi_RO + 3)] i a q r (by rfl) ?_
  refine ko_top (by decide : (12 + 2 : Int32) = 14) ?_
  refine ft_ro mi_k11 (w := 40) (by decide +kernel) (by decide +kernel) ?_
  first | refine fo_goS mi_k11 fz11_29_2_33 [.int 3] (by rfl) ?_ | refine ft_go mi_k11 2 33 [(3, .int 0), (2, .int 3), (0, .int 3), (1, .int 2)] [.int 3] i a q r (by rfl) ?_
  exact ft_ret mi_k11 (by rfl) (hP 3 (oz1421 kn3))
def w14_94_l12_K3 : kW := ([], [], [], [])
set_option maxRecDepth 100000 in
theorem kc14_94_l12_K3 {i : Nat → Int32} {a : Nat → List Int32} {q : Nat → List Int64} {r : Nat → Nat} (hI : kI i a q) (hr : kr r) (x1 : Int32) (x3 : Int32) (x4 : Int32) (hp0 : ((0 : Int) ≤ x1.toInt) ∧ (x1.toInt ≤ 49)) (hp1 : ((a 95).getD x1.toNatClampNeg 0).toInt = 3) (hp2 : ((0 : Int) ≤ x4.toInt) ∧ ((x4.toInt + 0) ≤ 39)) (hp3 : ((0 : Int) ≤ (i 6019).toInt) ∧ (((i 6019).toInt + 0) ≤ 900)) : km 1 14 [.ref 94, .int x1, .int 2, .int x3, .int x4] (ks i a q r) (kVI w14_94_l12_K3 i a q r (fun v i1 a1 q1 r1 => (i1 6019).toInt = ((i 6019).toInt + 0))) := by
  have hG := kG_self w14_94_l12_K3 hI hr
  refine km_ofI (q := (mi_h14, mi_c14)) rfl (by decide) (Nat.le_of_ble_eq_true rfl) ?_
  intro P hP
  have r1 : ((0 : Int) ≤ ((a 95).getD x1.toNatClampNeg 0).toInt) ∧ (((a 95).getD x1.toNatClampNeg 0).toInt ≤ 7) := hG.I.2.2.1 95 (x1.toNatClampNeg)
  first | refine fo_goL mi_k14 fz14_0_3_5 [(0, .ref 94), (1, .int x1), (2, .int 2), (3, .int x3), (4, .int x4)] [.int x1, .ref 95] (by rfl) ?_ | refine ft_go mi_k14 3 5 [(0, .ref 94), (1, .int x1), (2, .int 2), (3, .int x3), (4, .int x4)] [.int x1, .ref 95] i a q r (by rfl) ?_
  refine ko_iald3 mi_k14.1 (n := 50) (c := 50) (ax := (0, 0, 0, 0, 0)) (mi_k14.2 _ _ (by rfl)) (by rfl) (ksG95 _ _ _ _) (hG.I.2.1 95) rfl (oz3 hp0.1) (oz1336 hp0.2) ?_
  refine ko_top (kj_eq (oz1421 hp1) (by decide) : ((a 95).getD x1.toNatClampNeg 0) = 3) ?_
  first | refine ft_goL mi_k14 6 57 [(5, .int 3), (0, .ref 94), (1, .int x1), (2, .int 2), (3, .int x3), (4, .int x4)] [.int (x3 ^^^ x1)] (by rfl) ?_ | refine ft_go mi_k14 6 57 [(5, .int 3), (0, .ref 94), (1, .int x1), (2, .int 2), (3, .int x3), (4, .int x4)] [.int (x3 ^^^ x1)] i a q r (by rfl) ?_
  exact ft_ret mi_k14 (by rfl) (hP (x3 ^^^ x1) _ _ _ _ hG oz1338)
def w13_94_l12_l22_K3 : kW := ([6019], [96], [], [])
set_option maxRecDepth 100000 in
theorem kc13_94_l12_l22_K3 {i : Nat → Int32} {a : Nat → List Int32} {q : Nat → List Int64} {r : Nat → Nat} (hI : kI i a q) (hr : kr r) (x1 : Int32) (x4 : Int32) (x5 : Int32) (hp0 : ((0 : Int) ≤ x1.toInt) ∧ (x1.toInt ≤ 49)) (hp1 : ((a 95).getD x1.toNatClampNeg 0).toInt = 3) (hp2 : ((0 : Int) ≤ x5.toInt) ∧ ((x5.toInt + 1) ≤ 39)) (hp3 : ((0 : Int) ≤ (i 6019).toInt) ∧ (((i 6019).toInt + 1) ≤ 900)) : km 3 13 [.ref 94, .int x1, .int 2, .int 2, .int x4, .int x5] (ks i a q r) (kVI w13_94_l12_l22_K3 i a q r (fun v i1 a1 q1 r1 => (i1 6019).toInt = ((i 6019).toInt + 1))) := by
  have hG := kG_self w13_94_l12_l22_K3 hI hr
  refine km_ofI (q := (mi_h13, mi_c13)) rfl (by decide) (Nat.le_of_ble_eq_true rfl) ?_
  intro P hP
  have r1 : ((0 : Int) ≤ ((a 95).getD x1.toNatClampNeg 0).toInt) ∧ (((a 95).getD x1.toNatClampNeg 0).toInt ≤ 7) := hG.I.2.2.1 95 (x1.toNatClampNeg)
  have fi_6019 : ((0 : Int) ≤ (i 6019).toInt) ∧ ((i 6019).toInt ≤ 1000) := hG.I.1 6019
  first | refine fo_goL mi_k13 fz13_0_2_4 [(0, .ref 94), (1, .int x1), (2, .int 2), (3, .int 2), (4, .int x4), (5, .int x5)] [.int 40, .int x5] (by rfl) ?_ | refine ft_go mi_k13 2 4 [(0, .ref 94), (1, .int x1), (2, .int 2), (3, .int 2), (4, .int x4), (5, .int x5)] [.int 40, .int x5] i a q r (by rfl) ?_
  refine ft_ifS mi_k13 (decide (x5 < 40)) 9 7 [] (by rfl) (fun c => ?_) (fun c => ?_)
  ·
    have c2 : x5.toInt < (40 : Int32).toInt := kd_lt c; clear c
    first | refine fo_goS mi_k13 fz13_9_2_11 [.int 2, .int 2] (by rfl) ?_ | refine ft_go mi_k13 2 11 [(0, .ref 94), (1, .int x1), (2, .int 2), (3, .int 2), (4, .int x4), (5, .int x5)] [.int 2, .int 2] i a q r (by rfl) ?_
    refine ko_callPI mi_k13.1 (pc := 11) (ls := [(0, .ref 94), (1, .int x1), (2, .int 2), (3, .int 2), (4, .int x4), (5, .int x5)]) (st := [.int 2, .int 2]) (h := ks i a q r) (i := (.invokestatic 39, 3, 11, 0, 9, 0, 298)) (mi_k13.2 _ _ (by rfl)) (ft_invS mi_pq11 (by rfl)) (cy := mi_c11) mi_pq11 rfl (kc11_l02_l12 hG.I hG.R ) (by decide) ?_
    intro vg3 hg3
    have z4 : vg3.toInt = 0 := hg3
    have evvg3 := kj_eq (oz236 z4) (by decide : (0 : Int32).toInt = 0)
    subst evvg3
    first | refine ft_goL mi_k13 5 23 [(6, .int 0), (0, .ref 94), (1, .int x1), (2, .int 2), (3, .int 2), (4, .int x4), (5, .int x5)] [.int (0 * 4), .ref (mi_RO + 3)] (by rfl) ?_ | refine ft_go mi_k13 5 23 [(6, .int 0), (0, .ref 94), (1, .int x1), (2, .int 2), (3, .int 2), (4, .int x4), (5, .int x5)] [.int (0 * 4), .ref (mi_RO + 3)] i a q r (by rfl) ?_
    refine ko_top (by decide : (0 * 4 : Int32) = 0) ?_
    first | refine fo_goS mi_k13 fz13_23_2_25 [.int (0 + 2), .ref (mi_RO + 3)] (by rfl) ?_ | refine ft_go mi_k13 2 25 [(6, .int 0), (0, .ref 94), (1, .int x1), (2, .int 2), (3, .int 2), (4, .int x4), (5, .int x5)] [.int (0 + 2), .ref (mi_RO + 3)] i a q r (by rfl) ?_
    refine ko_top (by decide : (0 + 2 : Int32) = 2) ?_
    refine ft_ro mi_k13 (w := 11) (by decide +kernel) (by decide +kernel) ?_
    first | refine fo_goL mi_k13 fz13_26_4_34 [(7, .int 11), (6, .int 0), (0, .ref 94), (1, .int x1), (2, .int 2), (3, .int 2), (4, .int x4), (5, .int x5)] [.int 24, .int (i 6019)] (by rfl) ?_ | refine ft_go mi_k13 4 34 [(7, .int 11), (6, .int 0), (0, .ref 94), (1, .int x1), (2, .int 2), (3, .int 2), (4, .int x4), (5, .int x5)] [.int 24, .int (i 6019)] i a q r (by rfl) ?_
    refine ft_ifS mi_k13 (decide (24 ≤ (i 6019))) 48 37 [] (by rfl) (fun c => ?_) (fun c => ?_)
    ·
      have c6 : (24 : Int32).toInt ≤ (i 6019).toInt := kd_le c; clear c
      have s7 : ((i 6019) + 1).toInt = (i 6019).toInt + (1 : Int32).toInt := kd_add (oz1332 c6 kn24 kn1) (oz951 fi_6019.2 kn1)
      have hJ8 := kG_i hG 6019 rfl (v := ((i 6019) + 1)) ⟨(oz1333 c6 s7 kn24 kn1), (oz1334 hp3.2 s7 kn1)⟩
      have s9 : (x5 + 1).toInt = x5.toInt + (1 : Int32).toInt := kd_add (oz12 hp2.1 kn1) (oz1335 hp2.2 kn1)
      first | refine fo_goI mi_k13 fz13_48_15_72 [.int (x5 + 1), .int x4, .int 2, .int x1, .ref 94] (ku i 6019 ((i 6019) + 1)) (by rfl) ?_ | refine ft_go mi_k13 15 72 [(7, .int 11), (6, .int 0), (0, .ref 94), (1, .int x1), (2, .int 2), (3, .int 2), (4, .int x4), (5, .int x5)] [.int (x5 + 1), .int x4, .int 2, .int x1, .ref 94] (ku i 6019 ((i 6019) + 1)) a q r (by rfl) ?_
      refine ko_callI mi_k13.1 (pc := 72) (ls := [(7, .int 11), (6, .int 0), (0, .ref 94), (1, .int x1), (2, .int 2), (3, .int 2), (4, .int x4), (5, .int x5)]) (st := [.int (x5 + 1), .int x4, .int 2, .int x1, .ref 94]) (h := ks (ku i 6019 ((i 6019) + 1)) a q r) (i := (.invokevirtual 43, 3, 14, 0, 9, 0, 301)) (mi_k13.2 _ _ (by rfl)) (ft_invS mi_pq14 (by rfl)) (cy := mi_c14) mi_pq14 rfl (kc14_94_l12_K3 hJ8.I hJ8.R x1 x4 (x5 + 1) (oz1339 hp0.1 hp0.2) (oz1421 hp1) (oz1340 hp2.1 hp2.2 s9 kn1) (oz1341 c6 hp3.2 s7 kn24 kn1)) (by decide) ?_
      intro vg10 ig10 ag10 qg10 rg10 kg10 hg10
      have hGg10 := kG_call hJ8 kg10 (by decide +kernel)
      have efig10_6019 : (ig10 6019).toInt = ((i 6019) + 1).toInt := kg10.ti 6019 rfl
      exact ft_ret mi_k13 (by rfl) (hP vg10 _ _ _ _ hGg10 (oz1342 efig10_6019 s7 kn1))
    ·
      have c12 : (i 6019).toInt < (24 : Int32).toInt := kd_leF c; clear c
      first | refine fo_goS mi_k13 fz13_37_5_47 [.int 11, .int (i 6019), .ref 96] (by rfl) ?_ | refine ft_go mi_k13 5 47 [(7, .int 11), (6, .int 0), (0, .ref 94), (1, .int x1), (2, .int 2), (3, .int 2), (4, .int x4), (5, .int x5)] [.int 11, .int (i 6019), .ref 96] i a q r (by rfl) ?_
      refine ko_iast3 mi_k13.1 (n := 24) (c := 24) (ax := (0, 0, 0, 0, 0)) (mi_k13.2 _ _ (by rfl)) (by rfl) (ksG96 _ _ _ _) (ksA96 _ _ _ _) (hG.I.2.1 96) rfl (oz3 fi_6019.1) (oz1343 c12 kn24) ?_
      intro a13 ea13 fa13
      have hJ13 := kG_a3 hG 96 rfl ea13 fa13 (kd_bd _)
      have s14 : ((i 6019) + 1).toInt = (i 6019).toInt + (1 : Int32).toInt := kd_add (oz12 fi_6019.1 kn1) (oz951 fi_6019.2 kn1)
      have hJ15 := kG_i hJ13 6019 rfl (v := ((i 6019) + 1)) ⟨(oz14 fi_6019.1 s14 kn1), (oz1334 hp3.2 s14 kn1)⟩
      have s16 : (x5 + 1).toInt = x5.toInt + (1 : Int32).toInt := kd_add (oz12 hp2.1 kn1) (oz1335 hp2.2 kn1)
      first | refine fo_goI mi_k13 fz13_48_15_72 [.int (x5 + 1), .int x4, .int 2, .int x1, .ref 94] (ku i 6019 ((i 6019) + 1)) (by rfl) ?_ | refine ft_go mi_k13 15 72 [(7, .int 11), (6, .int 0), (0, .ref 94), (1, .int x1), (2, .int 2), (3, .int 2), (4, .int x4), (5, .int x5)] [.int (x5 + 1), .int x4, .int 2, .int x1, .ref 94] (ku i 6019 ((i 6019) + 1)) a13 q r (by rfl) ?_
      have r17 : ((0 : Int) ≤ ((a13 95).getD x1.toNatClampNeg 0).toInt) ∧ (((a13 95).getD x1.toNatClampNeg 0).toInt ≤ 7) := hJ15.I.2.2.1 95 (x1.toNatClampNeg)
      have u18 : ((a13 95).getD x1.toNatClampNeg 0).toInt = ((a 95).getD x1.toNatClampNeg 0).toInt := congrArg (fun z : List Int32 => (z.getD x1.toNatClampNeg 0).toInt) (fa13 95 (by decide))
      refine ko_callI mi_k13.1 (pc := 72) (ls := [(7, .int 11), (6, .int 0), (0, .ref 94), (1, .int x1), (2, .int 2), (3, .int 2), (4, .int x4), (5, .int x5)]) (st := [.int (x5 + 1), .int x4, .int 2, .int x1, .ref 94]) (h := ks (ku i 6019 ((i 6019) + 1)) a13 q r) (i := (.invokevirtual 43, 3, 14, 0, 9, 0, 301)) (mi_k13.2 _ _ (by rfl)) (ft_invS mi_pq14 (by rfl)) (cy := mi_c14) mi_pq14 rfl (kc14_94_l12_K3 hJ15.I hJ15.R x1 x4 (x5 + 1) (oz1339 hp0.1 hp0.2) (oz1422 hp1 u18) (oz1340 hp2.1 hp2.2 s16 kn1) (oz1345 fi_6019.1 hp3.2 s14 kn1)) (by decide) ?_
      intro vg19 ig19 ag19 qg19 rg19 kg19 hg19
      have hGg19 := kG_call hJ15 kg19 (by decide +kernel)
      have efig19_6019 : (ig19 6019).toInt = ((i 6019) + 1).toInt := kg19.ti 6019 rfl
      exact ft_ret mi_k13 (by rfl) (hP vg19 _ _ _ _ hGg19 (oz1342 efig19_6019 s14 kn1))
  ·
    have c21 : (40 : Int32).toInt ≤ x5.toInt := kd_ltF c; clear c
    exact (oz1346 c21 hp2.2 kn40).elim
def w13_94_l13_l22_K3 : kW := ([6019], [96], [], [])
set_option maxRecDepth 100000 in
theorem kc13_94_l13_l22_K3 {i : Nat → Int32} {a : Nat → List Int32} {q : Nat → List Int64} {r : Nat → Nat} (hI : kI i a q) (hr : kr r) (x1 : Int32) (x4 : Int32) (x5 : Int32) (hp0 : ((0 : Int) ≤ x1.toInt) ∧ (x1.toInt ≤ 49)) (hp1 : ((a 95).getD x1.toNatClampNeg 0).toInt = 3) (hp2 : ((0 : Int) ≤ x5.toInt) ∧ ((x5.toInt + 2) ≤ 39)) (hp3 : ((0 : Int) ≤ (i 6019).toInt) ∧ (((i 6019).toInt + 2) ≤ 900)) : km 5 13 [.ref 94, .int x1, .int 3, .int 2, .int x4, .int x5] (ks i a q r) (kVI w13_94_l13_l22_K3 i a q r (fun v i1 a1 q1 r1 => (i1 6019).toInt = ((i 6019).toInt + 2))) := by
  have hG := kG_self w13_94_l13_l22_K3 hI hr
  refine km_ofI (q := (mi_h13, mi_c13)) rfl (by decide) (Nat.le_of_ble_eq_true rfl) ?_
  intro P hP
  have r1 : ((0 : Int) ≤ ((a 95).getD x1.toNatClampNeg 0).toInt) ∧ (((a 95).getD x1.toNatClampNeg 0).toInt ≤ 7) := hG.I.2.2.1 95 (x1.toNatClampNeg)
  have fi_6019 : ((0 : Int) ≤ (i 6019).toInt) ∧ ((i 6019).toInt ≤ 1000) := hG.I.1 6019
  first | refine fo_goL mi_k13 fz13_0_2_4 [(0, .ref 94), (1, .int x1), (2, .int 3), (3, .int 2), (4, .int x4), (5, .int x5)] [.int 40, .int x5] (by rfl) ?_ | refine ft_go mi_k13 2 4 [(0, .ref 94), (1, .int x1), (2, .int 3), (3, .int 2), (4, .int x4), (5, .int x5)] [.int 40, .int x5] i a q r (by rfl) ?_
  refine ft_ifS mi_k13 (decide (x5 < 40)) 9 7 [] (by rfl) (fun c => ?_) (fun c => ?_)
  ·
    have c2 : x5.toInt < (40 : Int32).toInt := kd_lt c; clear c
    first | refine fo_goS mi_k13 fz13_9_2_11 [.int 2, .int 3] (by rfl) ?_ | refine ft_go mi_k13 2 11 [(0, .ref 94), (1, .int x1), (2, .int 3), (3, .int 2), (4, .int x4), (5, .int x5)] [.int 2, .int 3] i a q r (by rfl) ?_
    refine ko_callPI mi_k13.1 (pc := 11) (ls := [(0, .ref 94), (1, .int x1), (2, .int 3), (3, .int 2), (4, .int x4), (5, .int x5)]) (st := [.int 2, .int 3]) (h := ks i a q r) (i := (.invokestatic 39, 3, 11, 0, 9, 0, 298)) (mi_k13.2 _ _ (by rfl)) (ft_invS mi_pq11 (by rfl)) (cy := mi_c11) mi_pq11 rfl (kc11_l03_l12 hG.I hG.R ) (by decide) ?_
    intro vg3 hg3
    have z4 : vg3.toInt = 3 := hg3
    have evvg3 := kj_eq (oz1421 z4) (by decide : (3 : Int32).toInt = 3)
    subst evvg3
    first | refine ft_goL mi_k13 5 23 [(6, .int 3), (0, .ref 94), (1, .int x1), (2, .int 3), (3, .int 2), (4, .int x4), (5, .int x5)] [.int (3 * 4), .ref (mi_RO + 3)] (by rfl) ?_ | refine ft_go mi_k13 5 23 [(6, .int 3), (0, .ref 94), (1, .int x1), (2, .int 3), (3, .int 2), (4, .int x4), (5, .int x5)] [.int (3 * 4), .ref (mi_RO + 3)] i a q r (by rfl) ?_
    refine ko_top (by decide : (3 * 4 : Int32) = 12) ?_
    first | refine fo_goS mi_k13 fz13_23_2_25 [.int (12 + 2), .ref (mi_RO + 3)] (by rfl) ?_ | refine ft_go mi_k13 2 25 [(6, .int 3), (0, .ref 94), (1, .int x1), (2, .int 3), (3, .int 2), (4, .int x4), (5, .int x5)] [.int (12 + 2), .ref (mi_RO + 3)] i a q r (by rfl) ?_
    refine ko_top (by decide : (12 + 2 : Int32) = 14) ?_
    refine ft_ro mi_k13 (w := 40) (by decide +kernel) (by decide +kernel) ?_
    first | refine fo_goL mi_k13 fz13_26_4_34 [(7, .int 40), (6, .int 3), (0, .ref 94), (1, .int x1), (2, .int 3), (3, .int 2), (4, .int x4), (5, .int x5)] [.int 24, .int (i 6019)] (by rfl) ?_ | refine ft_go mi_k13 4 34 [(7, .int 40), (6, .int 3), (0, .ref 94), (1, .int x1), (2, .int 3), (3, .int 2), (4, .int x4), (5, .int x5)] [.int 24, .int (i 6019)] i a q r (by rfl) ?_
    refine ft_ifS mi_k13 (decide (24 ≤ (i 6019))) 48 37 [] (by rfl) (fun c => ?_) (fun c => ?_)
    ·
      have c6 : (24 : Int32).toInt ≤ (i 6019).toInt := kd_le c; clear c
      have s7 : ((i 6019) + 1).toInt = (i 6019).toInt + (1 : Int32).toInt := kd_add (oz1332 c6 kn24 kn1) (oz951 fi_6019.2 kn1)
      have hJ8 := kG_i hG 6019 rfl (v := ((i 6019) + 1)) ⟨(oz1333 c6 s7 kn24 kn1), (oz1351 hp3.2 s7 kn1)⟩
      first | refine ft_goI mi_k13 12 83 [.int 3, .ref (mi_RO + 4), .int x1, .ref 94] (ku i 6019 ((i 6019) + 1)) (by rfl) ?_ | refine ft_go mi_k13 12 83 [(7, .int 40), (6, .int 3), (0, .ref 94), (1, .int x1), (2, .int 3), (3, .int 2), (4, .int x4), (5, .int x5)] [.int 3, .ref (mi_RO + 4), .int x1, .ref 94] (ku i 6019 ((i 6019) + 1)) a q r (by rfl) ?_
      refine ft_ro mi_k13 (w := 2) (by decide +kernel) (by decide +kernel) ?_
      have s10 : (x5 + 1).toInt = x5.toInt + (1 : Int32).toInt := kd_add (oz12 hp2.1 kn1) (oz1352 hp2.2 kn1)
      first | refine ft_goS mi_k13 8 105 [.int (x5 + 1), .int x4, .int 2, .int 2, .int x1, .ref 94] (by rfl) ?_ | refine ft_go mi_k13 8 105 [(7, .int 40), (6, .int 3), (0, .ref 94), (1, .int x1), (2, .int 3), (3, .int 2), (4, .int x4), (5, .int x5)] [.int (x5 + 1), .int x4, .int 2, .int 2, .int x1, .ref 94] (ku i 6019 ((i 6019) + 1)) a q r (by rfl) ?_
      refine ko_callI mi_k13.1 (pc := 105) (ls := [(7, .int 40), (6, .int 3), (0, .ref 94), (1, .int x1), (2, .int 3), (3, .int 2), (4, .int x4), (5, .int x5)]) (st := [.int (x5 + 1), .int x4, .int 2, .int 2, .int x1, .ref 94]) (h := ks (ku i 6019 ((i 6019) + 1)) a q r) (i := (.invokevirtual 35, 3, 13, 0, 9, 0, 297)) (mi_k13.2 _ _ (by rfl)) (ft_invS mi_pq13 (by rfl)) (cy := mi_c13) mi_pq13 rfl (kc13_94_l12_l22_K3 hJ8.I hJ8.R x1 x4 (x5 + 1) (oz1339 hp0.1 hp0.2) (oz1421 hp1) (oz1356 hp2.1 hp2.2 s10 kn1) (oz1357 c6 hp3.2 s7 kn24 kn1)) (by decide) ?_
      intro vg11 ig11 ag11 qg11 rg11 kg11 hg11
      have hGg11 := kG_call hJ8 kg11 (by decide +kernel)
      have z12 : (ig11 6019).toInt = (((i 6019) + 1).toInt + 1) := hg11
      have b13 : ((-2147483648 : Int) ≤ vg11.toInt) ∧ (vg11.toInt ≤ 2147483647) := kd_bd vg11
      first | refine ft_goL mi_k13 6 201 [(8, .int vg11), (7, .int 40), (6, .int 3), (0, .ref 94), (1, .int x1), (2, .int 3), (3, .int 2), (4, .int x4), (5, .int x5)] [.int (vg11 * 3)] (by rfl) ?_ | refine ft_go mi_k13 6 201 [(8, .int vg11), (7, .int 40), (6, .int 3), (0, .ref 94), (1, .int x1), (2, .int 3), (3, .int 2), (4, .int x4), (5, .int x5)] [.int (vg11 * 3)] ig11 ag11 qg11 rg11 (by rfl) ?_
      exact ft_ret mi_k13 (by rfl) (hP (vg11 * 3) _ _ _ _ hGg11 (oz1358 s7 z12 kn1))
    ·
      have c14 : (i 6019).toInt < (24 : Int32).toInt := kd_leF c; clear c
      first | refine fo_goS mi_k13 fz13_37_5_47 [.int 40, .int (i 6019), .ref 96] (by rfl) ?_ | refine ft_go mi_k13 5 47 [(7, .int 40), (6, .int 3), (0, .ref 94), (1, .int x1), (2, .int 3), (3, .int 2), (4, .int x4), (5, .int x5)] [.int 40, .int (i 6019), .ref 96] i a q r (by rfl) ?_
      refine ko_iast3 mi_k13.1 (n := 24) (c := 24) (ax := (0, 0, 0, 0, 0)) (mi_k13.2 _ _ (by rfl)) (by rfl) (ksG96 _ _ _ _) (ksA96 _ _ _ _) (hG.I.2.1 96) rfl (oz3 fi_6019.1) (oz1343 c14 kn24) ?_
      intro a15 ea15 fa15
      have hJ15 := kG_a3 hG 96 rfl ea15 fa15 (kd_bd _)
      have s16 : ((i 6019) + 1).toInt = (i 6019).toInt + (1 : Int32).toInt := kd_add (oz12 fi_6019.1 kn1) (oz951 fi_6019.2 kn1)
      have hJ17 := kG_i hJ15 6019 rfl (v := ((i 6019) + 1)) ⟨(oz14 fi_6019.1 s16 kn1), (oz1351 hp3.2 s16 kn1)⟩
      first | refine ft_goI mi_k13 12 83 [.int 3, .ref (mi_RO + 4), .int x1, .ref 94] (ku i 6019 ((i 6019) + 1)) (by rfl) ?_ | refine ft_go mi_k13 12 83 [(7, .int 40), (6, .int 3), (0, .ref 94), (1, .int x1), (2, .int 3), (3, .int 2), (4, .int x4), (5, .int x5)] [.int 3, .ref (mi_RO + 4), .int x1, .ref 94] (ku i 6019 ((i 6019) + 1)) a15 q r (by rfl) ?_
      refine ft_ro mi_k13 (w := 2) (by decide +kernel) (by decide +kernel) ?_
      have s19 : (x5 + 1).toInt = x5.toInt + (1 : Int32).toInt := kd_add (oz12 hp2.1 kn1) (oz1352 hp2.2 kn1)
      first | refine ft_goS mi_k13 8 105 [.int (x5 + 1), .int x4, .int 2, .int 2, .int x1, .ref 94] (by rfl) ?_ | refine ft_go mi_k13 8 105 [(7, .int 40), (6, .int 3), (0, .ref 94), (1, .int x1), (2, .int 3), (3, .int 2), (4, .int x4), (5, .int x5)] [.int (x5 + 1), .int x4, .int 2, .int 2, .int x1, .ref 94] (ku i 6019 ((i 6019) + 1)) a15 q r (by rfl) ?_
      have r20 : ((0 : Int) ≤ ((a15 95).getD x1.toNatClampNeg 0).toInt) ∧ (((a15 95).getD x1.toNatClampNeg 0).toInt ≤ 7) := hJ17.I.2.2.1 95 (x1.toNatClampNeg)
      have u21 : ((a15 95).getD x1.toNatClampNeg 0).toInt = ((a 95).getD x1.toNatClampNeg 0).toInt := congrArg (fun z : List Int32 => (z.getD x1.toNatClampNeg 0).toInt) (fa15 95 (by decide))
      refine ko_callI mi_k13.1 (pc := 105) (ls := [(7, .int 40), (6, .int 3), (0, .ref 94), (1, .int x1), (2, .int 3), (3, .int 2), (4, .int x4), (5, .int x5)]) (st := [.int (x5 + 1), .int x4, .int 2, .int 2, .int x1, .ref 94]) (h := ks (ku i 6019 ((i 6019) + 1)) a15 q r) (i := (.invokevirtual 35, 3, 13, 0, 9, 0, 297)) (mi_k13.2 _ _ (by rfl)) (ft_invS mi_pq13 (by rfl)) (cy := mi_c13) mi_pq13 rfl (kc13_94_l12_l22_K3 hJ17.I hJ17.R x1 x4 (x5 + 1) (oz1339 hp0.1 hp0.2) (oz1422 hp1 u21) (oz1356 hp2.1 hp2.2 s19 kn1) (oz1359 fi_6019.1 hp3.2 s16 kn1)) (by decide) ?_
      intro vg22 ig22 ag22 qg22 rg22 kg22 hg22
      have hGg22 := kG_call hJ17 kg22 (by decide +kernel)
      have z23 : (ig22 6019).toInt = (((i 6019) + 1).toInt + 1) := hg22
      have b24 : ((-2147483648 : Int) ≤ vg22.toInt) ∧ (vg22.toInt ≤ 2147483647) := kd_bd vg22
      first | refine ft_goL mi_k13 6 201 [(8, .int vg22), (7, .int 40), (6, .int 3), (0, .ref 94), (1, .int x1), (2, .int 3), (3, .int 2), (4, .int x4), (5, .int x5)] [.int (vg22 * 3)] (by rfl) ?_ | refine ft_go mi_k13 6 201 [(8, .int vg22), (7, .int 40), (6, .int 3), (0, .ref 94), (1, .int x1), (2, .int 3), (3, .int 2), (4, .int x4), (5, .int x5)] [.int (vg22 * 3)] ig22 ag22 qg22 rg22 (by rfl) ?_
      exact ft_ret mi_k13 (by rfl) (hP (vg22 * 3) _ _ _ _ hGg22 (oz1358 s16 z23 kn1))
  ·
    have c25 : (40 : Int32).toInt ≤ x5.toInt := kd_ltF c; clear c
    exact (oz1360 c25 hp2.2 kn40).elim
set_option maxRecDepth 100000 in
theorem kc11_l03_l13 {i : Nat → Int32} {a : Nat → List Int32} {q : Nat → List Int64} {r : Nat → Nat} (hI : kI i a q) (hr : kr r)  : km 1 11 [.int 3, .int 3] (ks i a q r) (kPI (ks i a q r) (fun v => v.toInt = 0)) := by
  have hG := kG_self kW0 hI hr
  refine km_ofPI (q := (mi_h11, mi_c11)) rfl (by decide) (Nat.le_of_ble_eq_true rfl) ?_
  intro P hP
  first | refine ft_goL mi_k11 16 26 [(3, .int 0), (2, .int 3), (0, .int 3), (1, .int 3)] [.int (3 * 4), .ref (mi_RO + 3)] (by rfl) ?_ | refine ft_go mi_k11 16 26 [(3, .int 0), (2, .int 3), (0, .int 3), (1, .int 3)] [.int (3 * 4), .ref (mi_RO + 3)] i a q r (by rfl) ?_
  refine ko_top (by decide : (3 * 4 : Int32) = 12) ?_
  first | refine fo_goS mi_k11 fz11_26_2_28 [.int (12 + 3), .ref (mi_RO + 3)] (by rfl) ?_ | refine ft_go mi_k11 2 28 [(3, .int 0), (2, .int 3), (0, .int 3), (1, .int 3)] [.int (12 + 3), .ref (mi_RO + 3)] i a q r (by rfl) ?_
  refine ko_top (by decide : (12 + 3 : Int32) = 15) ?_
  refine ft_ro mi_k11 (w := 0) (by decide +kernel) (by decide +kernel) ?_
  first | refine ft_goS mi_k11 3 38 [.int 3, .ref (mi_RO + 4)] (by rfl) ?_ | refine ft_go mi_k11 3 38 [(3, .int 0), (2, .int 3), (0, .int 3), (1, .int 3)] [.int 3, .ref (mi_RO + 4)] i a q r (by rfl) ?_
  refine ft_ro mi_k11 (w := 2) (by decide +kernel) (by decide +kernel) ?_
  first | refine fo_goL mi_k11 fz11_39_2_43 [(3, .int (0 + 1)), (2, .int 2), (0, .int 3), (1, .int 3)] [] (by rfl) ?_ | refine ft_go mi_k11 2 43 [(3, .int (0 + 1)), (2, .int 2), (0, .int 3), (1, .int 3)] [] i a q r (by rfl) ?_
  refine ko_loc (by decide : (0 + 1 : Int32) = 1) ?_
  first | refine ft_goL mi_k11 13 26 [(3, .int 1), (2, .int 2), (0, .int 3), (1, .int 3)] [.int (2 * 4), .ref (mi_RO + 3)] (by rfl) ?_ | refine ft_goS mi_k11 13 26 [.int (2 * 4), .ref (mi_RO + 3)] (by rfl) ?_ | refine ft_go mi_k11 13 26 [(3, .int 1), (2, .int 2), (0, .int 3), (1, .int 3)] [.int (2 * 4), .ref (mi_RO + 3)] i a q r (by rfl) ?_
  refine ko_top (by decide : (2 * 4 : Int32) = 8) ?_
  first | refine fo_goS mi_k11 fz11_26_2_28 [.int (8 + 3), .ref (mi_RO + 3)] (by rfl) ?_ | refine ft_go mi_k11 2 28 [(3, .int 1), (2, .int 2), (0, .int 3), (1, .int 3)] [.int (8 + 3), .ref (mi_RO + 3)] i a q r (by rfl) ?_
  refine ko_top (by decide : (8 + 3 : Int32) = 11) ?_
  refine ft_ro mi_k11 (w := 0) (by decide +kernel) (by decide +kernel) ?_
  first | refine ft_goS mi_k11 3 38 [.int 2, .ref (mi_RO + 4)] (by rfl) ?_ | refine ft_go mi_k11 3 38 [(3, .int 1), (2, .int 2), (0, .int 3), (1, .int 3)] [.int 2, .ref (mi_RO + 4)] i a q r (by rfl) ?_
  refine ft_ro mi_k11 (w := 0) (by decide +kernel) (by decide +kernel) ?_
  first | refine fo_goL mi_k11 fz11_39_2_43 [(3, .int (1 + 1)), (2, .int 0), (0, .int 3), (1, .int 3)] [] (by rfl) ?_ | refine ft_go mi_k11 2 43 [(3, .int (1 + 1)), (2, .int 0), (0, .int 3), (1, .int 3)] [] i a q r (by rfl) ?_
  refine ko_loc (by decide : (1 + 1 : Int32) = 2) ?_
  first | refine ft_goL mi_k11 7 47 [(3, .int 2), (2, .int 0), (0, .int 3), (1, .int 3)] [.int 0] (by rfl) ?_ | refine ft_goS mi_k11 7 47 [.int 0] (by rfl) ?_ | refine ft_go mi_k11 7 47 [(3, .int 2), (2, .int 0), (0, .int 3), (1, .int 3)] [.int 0] i a q r (by rfl) ?_
  exact ft_ret mi_k11 (by rfl) (hP 0 (oz236 kn0))
def w14_94_l13_K3 : kW := ([6019], [96], [], [])
set_option maxRecDepth 100000 in
theorem kc14_94_l13_K3 {i : Nat → Int32} {a : Nat → List Int32} {q : Nat → List Int64} {r : Nat → Nat} (hI : kI i a q) (hr : kr r) (x1 : Int32) (x3 : Int32) (x4 : Int32) (hp0 : ((0 : Int) ≤ x1.toInt) ∧ (x1.toInt ≤ 49)) (hp1 : ((a 95).getD x1.toNatClampNeg 0).toInt = 3) (hp2 : ((0 : Int) ≤ x4.toInt) ∧ ((x4.toInt + 4) ≤ 39)) (hp3 : ((0 : Int) ≤ (i 6019).toInt) ∧ (((i 6019).toInt + 6) ≤ 900)) : km 13 14 [.ref 94, .int x1, .int 3, .int x3, .int x4] (ks i a q r) (kVI w14_94_l13_K3 i a q r (fun v i1 a1 q1 r1 => (i1 6019).toInt = ((i 6019).toInt + 6))) := by
  have hG := kG_self w14_94_l13_K3 hI hr
  refine km_ofI (q := (mi_h14, mi_c14)) rfl (by decide) (Nat.le_of_ble_eq_true rfl) ?_
  intro P hP
  have r1 : ((0 : Int) ≤ ((a 95).getD x1.toNatClampNeg 0).toInt) ∧ (((a 95).getD x1.toNatClampNeg 0).toInt ≤ 7) := hG.I.2.2.1 95 (x1.toNatClampNeg)
  have fi_6019 : ((0 : Int) ≤ (i 6019).toInt) ∧ ((i 6019).toInt ≤ 1000) := hG.I.1 6019
  first | refine fo_goL mi_k14 fz14_0_3_5 [(0, .ref 94), (1, .int x1), (2, .int 3), (3, .int x3), (4, .int x4)] [.int x1, .ref 95] (by rfl) ?_ | refine ft_go mi_k14 3 5 [(0, .ref 94), (1, .int x1), (2, .int 3), (3, .int x3), (4, .int x4)] [.int x1, .ref 95] i a q r (by rfl) ?_
  refine ko_iald3 mi_k14.1 (n := 50) (c := 50) (ax := (0, 0, 0, 0, 0)) (mi_k14.2 _ _ (by rfl)) (by rfl) (ksG95 _ _ _ _) (hG.I.2.1 95) rfl (oz3 hp0.1) (oz1336 hp0.2) ?_
  refine ko_top (kj_eq (oz1421 hp1) (by decide) : ((a 95).getD x1.toNatClampNeg 0) = 3) ?_
  first | refine ft_goL mi_k14 9 66 [(5, .int 3), (0, .ref 94), (1, .int x1), (2, .int 3), (3, .int x3), (4, .int x4)] [.int x4, .int x3, .int 1, .int 3, .int x1, .ref 94] (by rfl) ?_ | refine ft_go mi_k14 9 66 [(5, .int 3), (0, .ref 94), (1, .int x1), (2, .int 3), (3, .int x3), (4, .int x4)] [.int x4, .int x3, .int 1, .int 3, .int x1, .ref 94] i a q r (by rfl) ?_
  refine ko_callI mi_k14.1 (pc := 66) (ls := [(5, .int 3), (0, .ref 94), (1, .int x1), (2, .int 3), (3, .int x3), (4, .int x4)]) (st := [.int x4, .int x3, .int 1, .int 3, .int x1, .ref 94]) (h := ks i a q r) (i := (.invokevirtual 35, 3, 13, 0, 9, 0, 297)) (mi_k14.2 _ _ (by rfl)) (ft_invS mi_pq13 (by rfl)) (cy := mi_c13) mi_pq13 rfl (kc13_94_l13_l21_K3 hG.I hG.R x1 x3 x4 (oz1339 hp0.1 hp0.2) (oz1421 hp1) (oz1431 hp2.1 hp2.2) (oz1432 fi_6019.1 hp3.2)) (by decide) ?_
  intro vg2 ig2 ag2 qg2 rg2 kg2 hg2
  have hGg2 := kG_call hG kg2 (by decide +kernel)
  have fig2_6019 : ((0 : Int) ≤ (ig2 6019).toInt) ∧ ((ig2 6019).toInt ≤ 1000) := hGg2.I.1 6019
  have z3 : (ig2 6019).toInt = ((i 6019).toInt + 4) := hg2
  first | refine fo_goL mi_k14 fz14_69_8_81 [(6, .int vg2), (5, .int 3), (0, .ref 94), (1, .int x1), (2, .int 3), (3, .int x3), (4, .int x4)] [.int x4, .int 1, .int 2, .int 3, .int x1, .ref 94, .int vg2] (by rfl) ?_ | refine ft_go mi_k14 8 81 [(6, .int vg2), (5, .int 3), (0, .ref 94), (1, .int x1), (2, .int 3), (3, .int x3), (4, .int x4)] [.int x4, .int 1, .int 2, .int 3, .int x1, .ref 94, .int vg2] ig2 ag2 qg2 rg2 (by rfl) ?_
  have r4 : ((0 : Int) ≤ ((ag2 95).getD x1.toNatClampNeg 0).toInt) ∧ (((ag2 95).getD x1.toNatClampNeg 0).toInt ≤ 7) := hGg2.I.2.2.1 95 (x1.toNatClampNeg)
  have u5 : ((ag2 95).getD x1.toNatClampNeg 0).toInt = ((a 95).getD x1.toNatClampNeg 0).toInt := congrArg (fun z : List Int32 => (z.getD x1.toNatClampNeg 0).toInt) (kg2.fa 95 rfl)
  refine ko_callI mi_k14.1 (pc := 81) (ls := [(6, .int vg2), (5, .int 3), (0, .ref 94), (1, .int x1), (2, .int 3), (3, .int x3), (4, .int x4)]) (st := [.int x4, .int 1, .int 2, .int 3, .int x1, .ref 94, .int vg2]) (h := ks ig2 ag2 qg2 rg2) (i := (.invokevirtual 35, 3, 13, 0, 9, 0, 297)) (mi_k14.2 _ _ (by rfl)) (ft_invS mi_pq13 (by rfl)) (cy := mi_c13) mi_pq13 rfl (kc13_94_l13_l22_K3 hGg2.I hGg2.R x1 1 x4 (oz1339 hp0.1 hp0.2) (oz1422 hp1 u5) (oz1433 hp2.1 hp2.2) (oz1434 fig2_6019.1 hp3.2 z3)) (by decide) ?_
  intro vg6 ig6 ag6 qg6 rg6 kg6 hg6
  have hGg6 := kG_call hGg2 kg6 (by decide +kernel)
  have z7 : (ig6 6019).toInt = ((ig2 6019).toInt + 2) := hg6
  have b8 : ((-2147483648 : Int) ≤ vg2.toInt) ∧ (vg2.toInt ≤ 2147483647) := kd_bd vg2
  have b9 : ((-2147483648 : Int) ≤ vg6.toInt) ∧ (vg6.toInt ≤ 2147483647) := kd_bd vg6
  first | refine fo_goS mi_k14 fz14_84_1_85 [.int (vg2 - vg6)] (by rfl) ?_ | refine ft_go mi_k14 1 85 [(6, .int vg2), (5, .int 3), (0, .ref 94), (1, .int x1), (2, .int 3), (3, .int x3), (4, .int x4)] [.int (vg2 - vg6)] ig6 ag6 qg6 rg6 (by rfl) ?_
  exact ft_ret mi_k14 (by rfl) (hP (vg2 - vg6) _ _ _ _ hGg6 (oz1435 z3 z7))
def w13_94_l13_l23_K3 : kW := ([6019], [96], [], [])
set_option maxRecDepth 100000 in
theorem kc13_94_l13_l23_K3 {i : Nat → Int32} {a : Nat → List Int32} {q : Nat → List Int64} {r : Nat → Nat} (hI : kI i a q) (hr : kr r) (x1 : Int32) (x4 : Int32) (x5 : Int32) (hp0 : ((0 : Int) ≤ x1.toInt) ∧ (x1.toInt ≤ 49)) (hp1 : ((a 95).getD x1.toNatClampNeg 0).toInt = 3) (hp2 : ((0 : Int) ≤ x5.toInt) ∧ ((x5.toInt + 5) ≤ 39)) (hp3 : ((0 : Int) ≤ (i 6019).toInt) ∧ (((i 6019).toInt + 7) ≤ 900)) : km 15 13 [.ref 94, .int x1, .int 3, .int 3, .int x4, .int x5] (ks i a q r) (kVI w13_94_l13_l23_K3 i a q r (fun v i1 a1 q1 r1 => (i1 6019).toInt = ((i 6019).toInt + 7))) := by
  have hG := kG_self w13_94_l13_l23_K3 hI hr
  refine km_ofI (q := (mi_h13, mi_c13)) rfl (by decide) (Nat.le_of_ble_eq_true rfl) ?_
  intro P hP
  have r1 : ((0 : Int) ≤ ((a 95).getD x1.toNatClampNeg 0).toInt) ∧ (((a 95).getD x1.toNatClampNeg 0).toInt ≤ 7) := hG.I.2.2.1 95 (x1.toNatClampNeg)
  have fi_6019 : ((0 : Int) ≤ (i 6019).toInt) ∧ ((i 6019).toInt ≤ 1000) := hG.I.1 6019
  first | refine fo_goL mi_k13 fz13_0_2_4 [(0, .ref 94), (1, .int x1), (2, .int 3), (3, .int 3), (4, .int x4), (5, .int x5)] [.int 40, .int x5] (by rfl) ?_ | refine ft_go mi_k13 2 4 [(0, .ref 94), (1, .int x1), (2, .int 3), (3, .int 3), (4, .int x4), (5, .int x5)] [.int 40, .int x5] i a q r (by rfl) ?_
  refine ft_ifS mi_k13 (decide (x5 < 40)) 9 7 [] (by rfl) (fun c => ?_) (fun c => ?_)
  ·
    have c2 : x5.toInt < (40 : Int32).toInt := kd_lt c; clear c
    first | refine fo_goS mi_k13 fz13_9_2_11 [.int 3, .int 3] (by rfl) ?_ | refine ft_go mi_k13 2 11 [(0, .ref 94), (1, .int x1), (2, .int 3), (3, .int 3), (4, .int x4), (5, .int x5)] [.int 3, .int 3] i a q r (by rfl) ?_
    refine ko_callPI mi_k13.1 (pc := 11) (ls := [(0, .ref 94), (1, .int x1), (2, .int 3), (3, .int 3), (4, .int x4), (5, .int x5)]) (st := [.int 3, .int 3]) (h := ks i a q r) (i := (.invokestatic 39, 3, 11, 0, 9, 0, 298)) (mi_k13.2 _ _ (by rfl)) (ft_invS mi_pq11 (by rfl)) (cy := mi_c11) mi_pq11 rfl (kc11_l03_l13 hG.I hG.R ) (by decide) ?_
    intro vg3 hg3
    have z4 : vg3.toInt = 0 := hg3
    have evvg3 := kj_eq (oz236 z4) (by decide : (0 : Int32).toInt = 0)
    subst evvg3
    first | refine ft_goL mi_k13 5 23 [(6, .int 0), (0, .ref 94), (1, .int x1), (2, .int 3), (3, .int 3), (4, .int x4), (5, .int x5)] [.int (0 * 4), .ref (mi_RO + 3)] (by rfl) ?_ | refine ft_go mi_k13 5 23 [(6, .int 0), (0, .ref 94), (1, .int x1), (2, .int 3), (3, .int 3), (4, .int x4), (5, .int x5)] [.int (0 * 4), .ref (mi_RO + 3)] i a q r (by rfl) ?_
    refine ko_top (by decide : (0 * 4 : Int32) = 0) ?_
    first | refine fo_goS mi_k13 fz13_23_2_25 [.int (0 + 3), .ref (mi_RO + 3)] (by rfl) ?_ | refine ft_go mi_k13 2 25 [(6, .int 0), (0, .ref 94), (1, .int x1), (2, .int 3), (3, .int 3), (4, .int x4), (5, .int x5)] [.int (0 + 3), .ref (mi_RO + 3)] i a q r (by rfl) ?_
    refine ko_top (by decide : (0 + 3 : Int32) = 3) ?_
    refine ft_ro mi_k13 (w := 2) (by decide +kernel) (by decide +kernel) ?_
    first | refine fo_goL mi_k13 fz13_26_4_34 [(7, .int 2), (6, .int 0), (0, .ref 94), (1, .int x1), (2, .int 3), (3, .int 3), (4, .int x4), (5, .int x5)] [.int 24, .int (i 6019)] (by rfl) ?_ | refine ft_go mi_k13 4 34 [(7, .int 2), (6, .int 0), (0, .ref 94), (1, .int x1), (2, .int 3), (3, .int 3), (4, .int x4), (5, .int x5)] [.int 24, .int (i 6019)] i a q r (by rfl) ?_
    refine ft_ifS mi_k13 (decide (24 ≤ (i 6019))) 48 37 [] (by rfl) (fun c => ?_) (fun c => ?_)
    ·
      have c6 : (24 : Int32).toInt ≤ (i 6019).toInt := kd_le c; clear c
      have s7 : ((i 6019) + 1).toInt = (i 6019).toInt + (1 : Int32).toInt := kd_add (oz1332 c6 kn24 kn1) (oz951 fi_6019.2 kn1)
      have hJ8 := kG_i hG 6019 rfl (v := ((i 6019) + 1)) ⟨(oz1333 c6 s7 kn24 kn1), (oz1429 hp3.2 s7 kn1)⟩
      have s9 : (x5 + 1).toInt = x5.toInt + (1 : Int32).toInt := kd_add (oz12 hp2.1 kn1) (oz1430 hp2.2 kn1)
      first | refine fo_goI mi_k13 fz13_48_15_72 [.int (x5 + 1), .int x4, .int 3, .int x1, .ref 94] (ku i 6019 ((i 6019) + 1)) (by rfl) ?_ | refine ft_go mi_k13 15 72 [(7, .int 2), (6, .int 0), (0, .ref 94), (1, .int x1), (2, .int 3), (3, .int 3), (4, .int x4), (5, .int x5)] [.int (x5 + 1), .int x4, .int 3, .int x1, .ref 94] (ku i 6019 ((i 6019) + 1)) a q r (by rfl) ?_
      refine ko_callI mi_k13.1 (pc := 72) (ls := [(7, .int 2), (6, .int 0), (0, .ref 94), (1, .int x1), (2, .int 3), (3, .int 3), (4, .int x4), (5, .int x5)]) (st := [.int (x5 + 1), .int x4, .int 3, .int x1, .ref 94]) (h := ks (ku i 6019 ((i 6019) + 1)) a q r) (i := (.invokevirtual 43, 3, 14, 0, 9, 0, 301)) (mi_k13.2 _ _ (by rfl)) (ft_invS mi_pq14 (by rfl)) (cy := mi_c14) mi_pq14 rfl (kc14_94_l13_K3 hJ8.I hJ8.R x1 x4 (x5 + 1) (oz1339 hp0.1 hp0.2) (oz1421 hp1) (oz1436 hp2.1 hp2.2 s9 kn1) (oz1437 c6 hp3.2 s7 kn24 kn1)) (by decide) ?_
      intro vg10 ig10 ag10 qg10 rg10 kg10 hg10
      have hGg10 := kG_call hJ8 kg10 (by decide +kernel)
      have z11 : (ig10 6019).toInt = (((i 6019) + 1).toInt + 6) := hg10
      exact ft_ret mi_k13 (by rfl) (hP vg10 _ _ _ _ hGg10 (oz1438 s7 z11 kn1))
    ·
      have c12 : (i 6019).toInt < (24 : Int32).toInt := kd_leF c; clear c
      first | refine fo_goS mi_k13 fz13_37_5_47 [.int 2, .int (i 6019), .ref 96] (by rfl) ?_ | refine ft_go mi_k13 5 47 [(7, .int 2), (6, .int 0), (0, .ref 94), (1, .int x1), (2, .int 3), (3, .int 3), (4, .int x4), (5, .int x5)] [.int 2, .int (i 6019), .ref 96] i a q r (by rfl) ?_
      refine ko_iast3 mi_k13.1 (n := 24) (c := 24) (ax := (0, 0, 0, 0, 0)) (mi_k13.2 _ _ (by rfl)) (by rfl) (ksG96 _ _ _ _) (ksA96 _ _ _ _) (hG.I.2.1 96) rfl (oz3 fi_6019.1) (oz1343 c12 kn24) ?_
      intro a13 ea13 fa13
      have hJ13 := kG_a3 hG 96 rfl ea13 fa13 (kd_bd _)
      have s14 : ((i 6019) + 1).toInt = (i 6019).toInt + (1 : Int32).toInt := kd_add (oz12 fi_6019.1 kn1) (oz951 fi_6019.2 kn1)
      have hJ15 := kG_i hJ13 6019 rfl (v := ((i 6019) + 1)) ⟨(oz14 fi_6019.1 s14 kn1), (oz1429 hp3.2 s14 kn1)⟩
      have s16 : (x5 + 1).toInt = x5.toInt + (1 : Int32).toInt := kd_add (oz12 hp2.1 kn1) (oz1430 hp2.2 kn1)
      first | refine fo_goI mi_k13 fz13_48_15_72 [.int (x5 + 1), .int x4, .int 3, .int x1, .ref 94] (ku i 6019 ((i 6019) + 1)) (by rfl) ?_ | refine ft_go mi_k13 15 72 [(7, .int 2), (6, .int 0), (0, .ref 94), (1, .int x1), (2, .int 3), (3, .int 3), (4, .int x4), (5, .int x5)] [.int (x5 + 1), .int x4, .int 3, .int x1, .ref 94] (ku i 6019 ((i 6019) + 1)) a13 q r (by rfl) ?_
      have r17 : ((0 : Int) ≤ ((a13 95).getD x1.toNatClampNeg 0).toInt) ∧ (((a13 95).getD x1.toNatClampNeg 0).toInt ≤ 7) := hJ15.I.2.2.1 95 (x1.toNatClampNeg)
      have u18 : ((a13 95).getD x1.toNatClampNeg 0).toInt = ((a 95).getD x1.toNatClampNeg 0).toInt := congrArg (fun z : List Int32 => (z.getD x1.toNatClampNeg 0).toInt) (fa13 95 (by decide))
      refine ko_callI mi_k13.1 (pc := 72) (ls := [(7, .int 2), (6, .int 0), (0, .ref 94), (1, .int x1), (2, .int 3), (3, .int 3), (4, .int x4), (5, .int x5)]) (st := [.int (x5 + 1), .int x4, .int 3, .int x1, .ref 94]) (h := ks (ku i 6019 ((i 6019) + 1)) a13 q r) (i := (.invokevirtual 43, 3, 14, 0, 9, 0, 301)) (mi_k13.2 _ _ (by rfl)) (ft_invS mi_pq14 (by rfl)) (cy := mi_c14) mi_pq14 rfl (kc14_94_l13_K3 hJ15.I hJ15.R x1 x4 (x5 + 1) (oz1339 hp0.1 hp0.2) (oz1422 hp1 u18) (oz1436 hp2.1 hp2.2 s16 kn1) (oz1439 fi_6019.1 hp3.2 s14 kn1)) (by decide) ?_
      intro vg19 ig19 ag19 qg19 rg19 kg19 hg19
      have hGg19 := kG_call hJ15 kg19 (by decide +kernel)
      have z20 : (ig19 6019).toInt = (((i 6019) + 1).toInt + 6) := hg19
      exact ft_ret mi_k13 (by rfl) (hP vg19 _ _ _ _ hGg19 (oz1438 s14 z20 kn1))
  ·
    have c21 : (40 : Int32).toInt ≤ x5.toInt := kd_ltF c; clear c
    exact (oz1440 c21 hp2.2 kn40).elim
set_option maxRecDepth 100000 in
theorem kc11_l04_l10 {i : Nat → Int32} {a : Nat → List Int32} {q : Nat → List Int64} {r : Nat → Nat} (hI : kI i a q) (hr : kr r)  : km 1 11 [.int 4, .int 0] (ks i a q r) (kPI (ks i a q r) (fun v => v.toInt = 1)) := by
  have hG := kG_self kW0 hI hr
  refine km_ofPI (q := (mi_h11, mi_c11)) rfl (by decide) (Nat.le_of_ble_eq_true rfl) ?_
  intro P hP
  first | refine ft_goL mi_k11 16 26 [(3, .int 0), (2, .int 4), (0, .int 4), (1, .int 0)] [.int (4 * 4), .ref (mi_RO + 3)] (by rfl) ?_ | refine ft_go mi_k11 16 26 [(3, .int 0), (2, .int 4), (0, .int 4), (1, .int 0)] [.int (4 * 4), .ref (mi_RO + 3)] i a q r (by rfl) ?_
  refine ko_top (by decide : (4 * 4 : Int32) = 16) ?_
  first | refine fo_goS mi_k11 fz11_26_2_28 [.int (16 + 0), .ref (mi_RO + 3)] (by rfl) ?_ | refine ft_go mi_k11 2 28 [(3, .int 0), (2, .int 4), (0, .int 4), (1, .int 0)] [.int (16 + 0), .ref (mi_RO + 3)] i a q r (by rfl) ?_
  refine ko_top (by decide : (16 + 0 : Int32) = 16) ?_
  refine ft_ro mi_k11 (w := 0) (by decide +kernel) (by decide +kernel) ?_
  first | refine ft_goS mi_k11 3 38 [.int 4, .ref (mi_RO + 4)] (by rfl) ?_ | refine ft_go mi_k11 3 38 [(3, .int 0), (2, .int 4), (0, .int 4), (1, .int 0)] [.int 4, .ref (mi_RO + 4)] i a q r (by rfl) ?_
  refine ft_ro mi_k11 (w := 1) (by decide +kernel) (by decide +kernel) ?_
  first | refine fo_goL mi_k11 fz11_39_2_43 [(3, .int (0 + 1)), (2, .int 1), (0, .int 4), (1, .int 0)] [] (by rfl) ?_ | refine ft_go mi_k11 2 43 [(3, .int (0 + 1)), (2, .int 1), (0, .int 4), (1, .int 0)] [] i a q r (by rfl) ?_
  refine ko_loc (by decide : (0 + 1 : Int32) = 1) ?_
  first | refine ft_goL mi_k11 13 26 [(3, .int 1), (2, .int 1), (0, .int 4), (1, .int 0)] [.int (1 * 4), .ref (mi_RO + 3)] (by rfl) ?_ | refine ft_goS mi_k11 13 26 [.int (1 * 4), .ref (mi_RO + 3)] (by rfl) ?_ | refine ft_go mi_k11 13 26 [(3, .int 1), (2, .int 1), (0, .int 4), (1, .int 0)] [.int (1 * 4), .ref (mi_RO + 3)] i a q r (by rfl) ?_
  refine ko_top (by decide : (1 * 4 : Int32) = 4) ?_
  first | refine fo_goS mi_k11 fz11_26_2_28 [.int (4 + 0), .ref (mi_RO + 3)] (by rfl) ?_ | refine ft_go mi_k11 2 28 [(3, .int 1), (2, .int 1), (0, .int 4), (1, .int 0)] [.int (4 + 0), .ref (mi_RO + 3)] i a q r (by rfl) ?_
  refine ko_top (by decide : (4 + 0 : Int32) = 4) ?_
  refine ft_ro mi_k11 (w := 20) (by decide +kernel) (by decide +kernel) ?_
  first | refine fo_goS mi_k11 fz11_29_2_33 [.int 1] (by rfl) ?_ | refine ft_go mi_k11 2 33 [(3, .int 1), (2, .int 1), (0, .int 4), (1, .int 0)] [.int 1] i a q r (by rfl) ?_
  exact ft_ret mi_k11 (by rfl) (hP 1 (oz1381 kn1))
def w14_94_l10_K4 : kW := ([], [], [], [])
set_option maxRecDepth 100000 in
theorem kc14_94_l10_K4 {i : Nat → Int32} {a : Nat → List Int32} {q : Nat → List Int64} {r : Nat → Nat} (hI : kI i a q) (hr : kr r) (x1 : Int32) (x3 : Int32) (x4 : Int32) (hp0 : ((0 : Int) ≤ x1.toInt) ∧ (x1.toInt ≤ 49)) (hp1 : ((a 95).getD x1.toNatClampNeg 0).toInt = 4) (hp2 : ((0 : Int) ≤ x4.toInt) ∧ ((x4.toInt + 0) ≤ 39)) (hp3 : ((0 : Int) ≤ (i 6019).toInt) ∧ (((i 6019).toInt + 0) ≤ 900)) : km 1 14 [.ref 94, .int x1, .int 0, .int x3, .int x4] (ks i a q r) (kVI w14_94_l10_K4 i a q r (fun v i1 a1 q1 r1 => (i1 6019).toInt = ((i 6019).toInt + 0))) := by
  have hG := kG_self w14_94_l10_K4 hI hr
  refine km_ofI (q := (mi_h14, mi_c14)) rfl (by decide) (Nat.le_of_ble_eq_true rfl) ?_
  intro P hP
  have r1 : ((0 : Int) ≤ ((a 95).getD x1.toNatClampNeg 0).toInt) ∧ (((a 95).getD x1.toNatClampNeg 0).toInt ≤ 7) := hG.I.2.2.1 95 (x1.toNatClampNeg)
  first | refine fo_goL mi_k14 fz14_0_3_5 [(0, .ref 94), (1, .int x1), (2, .int 0), (3, .int x3), (4, .int x4)] [.int x1, .ref 95] (by rfl) ?_ | refine ft_go mi_k14 3 5 [(0, .ref 94), (1, .int x1), (2, .int 0), (3, .int x3), (4, .int x4)] [.int x1, .ref 95] i a q r (by rfl) ?_
  refine ko_iald3 mi_k14.1 (n := 50) (c := 50) (ax := (0, 0, 0, 0, 0)) (mi_k14.2 _ _ (by rfl)) (by rfl) (ksG95 _ _ _ _) (hG.I.2.1 95) rfl (oz3 hp0.1) (oz1336 hp0.2) ?_
  refine ko_top (kj_eq (oz1446 hp1) (by decide) : ((a 95).getD x1.toNatClampNeg 0) = 4) ?_
  have b2 : ((-2147483648 : Int) ≤ x3.toInt) ∧ (x3.toInt ≤ 2147483647) := kd_bd x3
  have b3 : ((-2147483648 : Int) ≤ x1.toInt) ∧ (x1.toInt ≤ 2147483647) := kd_bd x1
  first | refine ft_goL mi_k14 6 39 [(5, .int 4), (0, .ref 94), (1, .int x1), (2, .int 0), (3, .int x3), (4, .int x4)] [.int (x3 + x1)] (by rfl) ?_ | refine ft_go mi_k14 6 39 [(5, .int 4), (0, .ref 94), (1, .int x1), (2, .int 0), (3, .int x3), (4, .int x4)] [.int (x3 + x1)] i a q r (by rfl) ?_
  exact ft_ret mi_k14 (by rfl) (hP (x3 + x1) _ _ _ _ hG oz1338)
def w13_94_l10_l20_K4 : kW := ([6019], [96], [], [])
set_option maxRecDepth 100000 in
theorem kc13_94_l10_l20_K4 {i : Nat → Int32} {a : Nat → List Int32} {q : Nat → List Int64} {r : Nat → Nat} (hI : kI i a q) (hr : kr r) (x1 : Int32) (x4 : Int32) (x5 : Int32) (hp0 : ((0 : Int) ≤ x1.toInt) ∧ (x1.toInt ≤ 49)) (hp1 : ((a 95).getD x1.toNatClampNeg 0).toInt = 4) (hp2 : ((0 : Int) ≤ x5.toInt) ∧ ((x5.toInt + 1) ≤ 39)) (hp3 : ((0 : Int) ≤ (i 6019).toInt) ∧ (((i 6019).toInt + 1) ≤ 900)) : km 3 13 [.ref 94, .int x1, .int 0, .int 0, .int x4, .int x5] (ks i a q r) (kVI w13_94_l10_l20_K4 i a q r (fun v i1 a1 q1 r1 => (i1 6019).toInt = ((i 6019).toInt + 1))) := by
  have hG := kG_self w13_94_l10_l20_K4 hI hr
  refine km_ofI (q := (mi_h13, mi_c13)) rfl (by decide) (Nat.le_of_ble_eq_true rfl) ?_
  intro P hP
  have r1 : ((0 : Int) ≤ ((a 95).getD x1.toNatClampNeg 0).toInt) ∧ (((a 95).getD x1.toNatClampNeg 0).toInt ≤ 7) := hG.I.2.2.1 95 (x1.toNatClampNeg)
  have fi_6019 : ((0 : Int) ≤ (i 6019).toInt) ∧ ((i 6019).toInt ≤ 1000) := hG.I.1 6019
  first | refine fo_goL mi_k13 fz13_0_2_4 [(0, .ref 94), (1, .int x1), (2, .int 0), (3, .int 0), (4, .int x4), (5, .int x5)] [.int 40, .int x5] (by rfl) ?_ | refine ft_go mi_k13 2 4 [(0, .ref 94), (1, .int x1), (2, .int 0), (3, .int 0), (4, .int x4), (5, .int x5)] [.int 40, .int x5] i a q r (by rfl) ?_
  refine ft_ifS mi_k13 (decide (x5 < 40)) 9 7 [] (by rfl) (fun c => ?_) (fun c => ?_)
  ·
    have c2 : x5.toInt < (40 : Int32).toInt := kd_lt c; clear c
    first | refine fo_goS mi_k13 fz13_9_2_11 [.int 0, .int 0] (by rfl) ?_ | refine ft_go mi_k13 2 11 [(0, .ref 94), (1, .int x1), (2, .int 0), (3, .int 0), (4, .int x4), (5, .int x5)] [.int 0, .int 0] i a q r (by rfl) ?_
    refine ko_callPI mi_k13.1 (pc := 11) (ls := [(0, .ref 94), (1, .int x1), (2, .int 0), (3, .int 0), (4, .int x4), (5, .int x5)]) (st := [.int 0, .int 0]) (h := ks i a q r) (i := (.invokestatic 39, 3, 11, 0, 9, 0, 298)) (mi_k13.2 _ _ (by rfl)) (ft_invS mi_pq11 (by rfl)) (cy := mi_c11) mi_pq11 rfl (kc11_l00_l10 hG.I hG.R ) (by decide) ?_
    intro vg3 hg3
    have z4 : vg3.toInt = 0 := hg3
    have evvg3 := kj_eq (oz236 z4) (by decide : (0 : Int32).toInt = 0)
    subst evvg3
    first | refine ft_goL mi_k13 5 23 [(6, .int 0), (0, .ref 94), (1, .int x1), (2, .int 0), (3, .int 0), (4, .int x4), (5, .int x5)] [.int (0 * 4), .ref (mi_RO + 3)] (by rfl) ?_ | refine ft_go mi_k13 5 23 [(6, .int 0), (0, .ref 94), (1, .int x1), (2, .int 0), (3, .int 0), (4, .int x4), (5, .int x5)] [.int (0 * 4), .ref (mi_RO + 3)] i a q r (by rfl) ?_
    refine ko_top (by decide : (0 * 4 : Int32) = 0) ?_
    first | refine fo_goS mi_k13 fz13_23_2_25 [.int (0 + 0), .ref (mi_RO + 3)] (by rfl) ?_ | refine ft_go mi_k13 2 25 [(6, .int 0), (0, .ref 94), (1, .int x1), (2, .int 0), (3, .int 0), (4, .int x4), (5, .int x5)] [.int (0 + 0), .ref (mi_RO + 3)] i a q r (by rfl) ?_
    refine ko_top (by decide : (0 + 0 : Int32) = 0) ?_
    refine ft_ro mi_k13 (w := 1) (by decide +kernel) (by decide +kernel) ?_
    first | refine fo_goL mi_k13 fz13_26_4_34 [(7, .int 1), (6, .int 0), (0, .ref 94), (1, .int x1), (2, .int 0), (3, .int 0), (4, .int x4), (5, .int x5)] [.int 24, .int (i 6019)] (by rfl) ?_ | refine ft_go mi_k13 4 34 [(7, .int 1), (6, .int 0), (0, .ref 94), (1, .int x1), (2, .int 0), (3, .int 0), (4, .int x4), (5, .int x5)] [.int 24, .int (i 6019)] i a q r (by rfl) ?_
    refine ft_ifS mi_k13 (decide (24 ≤ (i 6019))) 48 37 [] (by rfl) (fun c => ?_) (fun c => ?_)
    ·
      have c6 : (24 : Int32).toInt ≤ (i 6019).toInt := kd_le c; clear c
      have s7 : ((i 6019) + 1).toInt = (i 6019).toInt + (1 : Int32).toInt := kd_add (oz1332 c6 kn24 kn1) (oz951 fi_6019.2 kn1)
      have hJ8 := kG_i hG 6019 rfl (v := ((i 6019) + 1)) ⟨(oz1333 c6 s7 kn24 kn1), (oz1334 hp3.2 s7 kn1)⟩
      have s9 : (x5 + 1).toInt = x5.toInt + (1 : Int32).toInt := kd_add (oz12 hp2.1 kn1) (oz1335 hp2.2 kn1)
      first | refine fo_goI mi_k13 fz13_48_15_72 [.int (x5 + 1), .int x4, .int 0, .int x1, .ref 94] (ku i 6019 ((i 6019) + 1)) (by rfl) ?_ | refine ft_go mi_k13 15 72 [(7, .int 1), (6, .int 0), (0, .ref 94), (1, .int x1), (2, .int 0), (3, .int 0), (4, .int x4), (5, .int x5)] [.int (x5 + 1), .int x4, .int 0, .int x1, .ref 94] (ku i 6019 ((i 6019) + 1)) a q r (by rfl) ?_
      refine ko_callI mi_k13.1 (pc := 72) (ls := [(7, .int 1), (6, .int 0), (0, .ref 94), (1, .int x1), (2, .int 0), (3, .int 0), (4, .int x4), (5, .int x5)]) (st := [.int (x5 + 1), .int x4, .int 0, .int x1, .ref 94]) (h := ks (ku i 6019 ((i 6019) + 1)) a q r) (i := (.invokevirtual 43, 3, 14, 0, 9, 0, 301)) (mi_k13.2 _ _ (by rfl)) (ft_invS mi_pq14 (by rfl)) (cy := mi_c14) mi_pq14 rfl (kc14_94_l10_K4 hJ8.I hJ8.R x1 x4 (x5 + 1) (oz1339 hp0.1 hp0.2) (oz1446 hp1) (oz1340 hp2.1 hp2.2 s9 kn1) (oz1341 c6 hp3.2 s7 kn24 kn1)) (by decide) ?_
      intro vg10 ig10 ag10 qg10 rg10 kg10 hg10
      have hGg10 := kG_call hJ8 kg10 (by decide +kernel)
      have efig10_6019 : (ig10 6019).toInt = ((i 6019) + 1).toInt := kg10.ti 6019 rfl
      exact ft_ret mi_k13 (by rfl) (hP vg10 _ _ _ _ hGg10 (oz1342 efig10_6019 s7 kn1))
    ·
      have c12 : (i 6019).toInt < (24 : Int32).toInt := kd_leF c; clear c
      first | refine fo_goS mi_k13 fz13_37_5_47 [.int 1, .int (i 6019), .ref 96] (by rfl) ?_ | refine ft_go mi_k13 5 47 [(7, .int 1), (6, .int 0), (0, .ref 94), (1, .int x1), (2, .int 0), (3, .int 0), (4, .int x4), (5, .int x5)] [.int 1, .int (i 6019), .ref 96] i a q r (by rfl) ?_
      refine ko_iast3 mi_k13.1 (n := 24) (c := 24) (ax := (0, 0, 0, 0, 0)) (mi_k13.2 _ _ (by rfl)) (by rfl) (ksG96 _ _ _ _) (ksA96 _ _ _ _) (hG.I.2.1 96) rfl (oz3 fi_6019.1) (oz1343 c12 kn24) ?_
      intro a13 ea13 fa13
      have hJ13 := kG_a3 hG 96 rfl ea13 fa13 (kd_bd _)
      have s14 : ((i 6019) + 1).toInt = (i 6019).toInt + (1 : Int32).toInt := kd_add (oz12 fi_6019.1 kn1) (oz951 fi_6019.2 kn1)
      have hJ15 := kG_i hJ13 6019 rfl (v := ((i 6019) + 1)) ⟨(oz14 fi_6019.1 s14 kn1), (oz1334 hp3.2 s14 kn1)⟩
      have s16 : (x5 + 1).toInt = x5.toInt + (1 : Int32).toInt := kd_add (oz12 hp2.1 kn1) (oz1335 hp2.2 kn1)
      first | refine fo_goI mi_k13 fz13_48_15_72 [.int (x5 + 1), .int x4, .int 0, .int x1, .ref 94] (ku i 6019 ((i 6019) + 1)) (by rfl) ?_ | refine ft_go mi_k13 15 72 [(7, .int 1), (6, .int 0), (0, .ref 94), (1, .int x1), (2, .int 0), (3, .int 0), (4, .int x4), (5, .int x5)] [.int (x5 + 1), .int x4, .int 0, .int x1, .ref 94] (ku i 6019 ((i 6019) + 1)) a13 q r (by rfl) ?_
      have r17 : ((0 : Int) ≤ ((a13 95).getD x1.toNatClampNeg 0).toInt) ∧ (((a13 95).getD x1.toNatClampNeg 0).toInt ≤ 7) := hJ15.I.2.2.1 95 (x1.toNatClampNeg)
      have u18 : ((a13 95).getD x1.toNatClampNeg 0).toInt = ((a 95).getD x1.toNatClampNeg 0).toInt := congrArg (fun z : List Int32 => (z.getD x1.toNatClampNeg 0).toInt) (fa13 95 (by decide))
      refine ko_callI mi_k13.1 (pc := 72) (ls := [(7, .int 1), (6, .int 0), (0, .ref 94), (1, .int x1), (2, .int 0), (3, .int 0), (4, .int x4), (5, .int x5)]) (st := [.int (x5 + 1), .int x4, .int 0, .int x1, .ref 94]) (h := ks (ku i 6019 ((i 6019) + 1)) a13 q r) (i := (.invokevirtual 43, 3, 14, 0, 9, 0, 301)) (mi_k13.2 _ _ (by rfl)) (ft_invS mi_pq14 (by rfl)) (cy := mi_c14) mi_pq14 rfl (kc14_94_l10_K4 hJ15.I hJ15.R x1 x4 (x5 + 1) (oz1339 hp0.1 hp0.2) (oz1447 hp1 u18) (oz1340 hp2.1 hp2.2 s16 kn1) (oz1345 fi_6019.1 hp3.2 s14 kn1)) (by decide) ?_
      intro vg19 ig19 ag19 qg19 rg19 kg19 hg19
      have hGg19 := kG_call hJ15 kg19 (by decide +kernel)
      have efig19_6019 : (ig19 6019).toInt = ((i 6019) + 1).toInt := kg19.ti 6019 rfl
      exact ft_ret mi_k13 (by rfl) (hP vg19 _ _ _ _ hGg19 (oz1342 efig19_6019 s14 kn1))
  ·
    have c21 : (40 : Int32).toInt ≤ x5.toInt := kd_ltF c; clear c
    exact (oz1346 c21 hp2.2 kn40).elim
def w13_94_l14_l20_K4 : kW := ([6019], [96], [], [])
set_option maxRecDepth 100000 in
theorem kc13_94_l14_l20_K4 {i : Nat → Int32} {a : Nat → List Int32} {q : Nat → List Int64} {r : Nat → Nat} (hI : kI i a q) (hr : kr r) (x1 : Int32) (x4 : Int32) (x5 : Int32) (hp0 : ((0 : Int) ≤ x1.toInt) ∧ (x1.toInt ≤ 49)) (hp1 : ((a 95).getD x1.toNatClampNeg 0).toInt = 4) (hp2 : ((0 : Int) ≤ x5.toInt) ∧ ((x5.toInt + 2) ≤ 39)) (hp3 : ((0 : Int) ≤ (i 6019).toInt) ∧ (((i 6019).toInt + 2) ≤ 900)) : km 5 13 [.ref 94, .int x1, .int 4, .int 0, .int x4, .int x5] (ks i a q r) (kVI w13_94_l14_l20_K4 i a q r (fun v i1 a1 q1 r1 => (i1 6019).toInt = ((i 6019).toInt + 2))) := by
  have hG := kG_self w13_94_l14_l20_K4 hI hr
  refine km_ofI (q := (mi_h13, mi_c13)) rfl (by decide) (Nat.le_of_ble_eq_true rfl) ?_
  intro P hP
  have r1 : ((0 : Int) ≤ ((a 95).getD x1.toNatClampNeg 0).toInt) ∧ (((a 95).getD x1.toNatClampNeg 0).toInt ≤ 7) := hG.I.2.2.1 95 (x1.toNatClampNeg)
  have fi_6019 : ((0 : Int) ≤ (i 6019).toInt) ∧ ((i 6019).toInt ≤ 1000) := hG.I.1 6019
  first | refine fo_goL mi_k13 fz13_0_2_4 [(0, .ref 94), (1, .int x1), (2, .int 4), (3, .int 0), (4, .int x4), (5, .int x5)] [.int 40, .int x5] (by rfl) ?_ | refine ft_go mi_k13 2 4 [(0, .ref 94), (1, .int x1), (2, .int 4), (3, .int 0), (4, .int x4), (5, .int x5)] [.int 40, .int x5] i a q r (by rfl) ?_
  refine ft_ifS mi_k13 (decide (x5 < 40)) 9 7 [] (by rfl) (fun c => ?_) (fun c => ?_)
  ·
    have c2 : x5.toInt < (40 : Int32).toInt := kd_lt c; clear c
    first | refine fo_goS mi_k13 fz13_9_2_11 [.int 0, .int 4] (by rfl) ?_ | refine ft_go mi_k13 2 11 [(0, .ref 94), (1, .int x1), (2, .int 4), (3, .int 0), (4, .int x4), (5, .int x5)] [.int 0, .int 4] i a q r (by rfl) ?_
    refine ko_callPI mi_k13.1 (pc := 11) (ls := [(0, .ref 94), (1, .int x1), (2, .int 4), (3, .int 0), (4, .int x4), (5, .int x5)]) (st := [.int 0, .int 4]) (h := ks i a q r) (i := (.invokestatic 39, 3, 11, 0, 9, 0, 298)) (mi_k13.2 _ _ (by rfl)) (ft_invS mi_pq11 (by rfl)) (cy := mi_c11) mi_pq11 rfl (kc11_l04_l10 hG.I hG.R ) (by decide) ?_
    intro vg3 hg3
    have z4 : vg3.toInt = 1 := hg3
    have evvg3 := kj_eq (oz1381 z4) (by decide : (1 : Int32).toInt = 1)
    subst evvg3
    first | refine ft_goL mi_k13 5 23 [(6, .int 1), (0, .ref 94), (1, .int x1), (2, .int 4), (3, .int 0), (4, .int x4), (5, .int x5)] [.int (1 * 4), .ref (mi_RO + 3)] (by rfl) ?_ | refine ft_go mi_k13 5 23 [(6, .int 1), (0, .ref 94), (1, .int x1), (2, .int 4), (3, .int 0), (4, .int x4), (5, .int x5)] [.int (1 * 4), .ref (mi_RO + 3)] i a q r (by rfl) ?_
    refine ko_top (by decide : (1 * 4 : Int32) = 4) ?_
    first | refine fo_goS mi_k13 fz13_23_2_25 [.int (4 + 0), .ref (mi_RO + 3)] (by rfl) ?_ | refine ft_go mi_k13 2 25 [(6, .int 1), (0, .ref 94), (1, .int x1), (2, .int 4), (3, .int 0), (4, .int x4), (5, .int x5)] [.int (4 + 0), .ref (mi_RO + 3)] i a q r (by rfl) ?_
    refine ko_top (by decide : (4 + 0 : Int32) = 4) ?_
    refine ft_ro mi_k13 (w := 20) (by decide +kernel) (by decide +kernel) ?_
    first | refine fo_goL mi_k13 fz13_26_4_34 [(7, .int 20), (6, .int 1), (0, .ref 94), (1, .int x1), (2, .int 4), (3, .int 0), (4, .int x4), (5, .int x5)] [.int 24, .int (i 6019)] (by rfl) ?_ | refine ft_go mi_k13 4 34 [(7, .int 20), (6, .int 1), (0, .ref 94), (1, .int x1), (2, .int 4), (3, .int 0), (4, .int x4), (5, .int x5)] [.int 24, .int (i 6019)] i a q r (by rfl) ?_
    refine ft_ifS mi_k13 (decide (24 ≤ (i 6019))) 48 37 [] (by rfl) (fun c => ?_) (fun c => ?_)
    ·
      have c6 : (24 : Int32).toInt ≤ (i 6019).toInt := kd_le c; clear c
      have s7 : ((i 6019) + 1).toInt = (i 6019).toInt + (1 : Int32).toInt := kd_add (oz1332 c6 kn24 kn1) (oz951 fi_6019.2 kn1)
      have hJ8 := kG_i hG 6019 rfl (v := ((i 6019) + 1)) ⟨(oz1333 c6 s7 kn24 kn1), (oz1351 hp3.2 s7 kn1)⟩
      first | refine ft_goI mi_k13 12 83 [.int 1, .ref (mi_RO + 4), .int x1, .ref 94] (ku i 6019 ((i 6019) + 1)) (by rfl) ?_ | refine ft_go mi_k13 12 83 [(7, .int 20), (6, .int 1), (0, .ref 94), (1, .int x1), (2, .int 4), (3, .int 0), (4, .int x4), (5, .int x5)] [.int 1, .ref (mi_RO + 4), .int x1, .ref 94] (ku i 6019 ((i 6019) + 1)) a q r (by rfl) ?_
      refine ft_ro mi_k13 (w := 0) (by decide +kernel) (by decide +kernel) ?_
      have s10 : (x5 + 1).toInt = x5.toInt + (1 : Int32).toInt := kd_add (oz12 hp2.1 kn1) (oz1352 hp2.2 kn1)
      first | refine ft_goS mi_k13 8 105 [.int (x5 + 1), .int x4, .int 0, .int 0, .int x1, .ref 94] (by rfl) ?_ | refine ft_go mi_k13 8 105 [(7, .int 20), (6, .int 1), (0, .ref 94), (1, .int x1), (2, .int 4), (3, .int 0), (4, .int x4), (5, .int x5)] [.int (x5 + 1), .int x4, .int 0, .int 0, .int x1, .ref 94] (ku i 6019 ((i 6019) + 1)) a q r (by rfl) ?_
      refine ko_callI mi_k13.1 (pc := 105) (ls := [(7, .int 20), (6, .int 1), (0, .ref 94), (1, .int x1), (2, .int 4), (3, .int 0), (4, .int x4), (5, .int x5)]) (st := [.int (x5 + 1), .int x4, .int 0, .int 0, .int x1, .ref 94]) (h := ks (ku i 6019 ((i 6019) + 1)) a q r) (i := (.invokevirtual 35, 3, 13, 0, 9, 0, 297)) (mi_k13.2 _ _ (by rfl)) (ft_invS mi_pq13 (by rfl)) (cy := mi_c13) mi_pq13 rfl (kc13_94_l10_l20_K4 hJ8.I hJ8.R x1 x4 (x5 + 1) (oz1339 hp0.1 hp0.2) (oz1446 hp1) (oz1356 hp2.1 hp2.2 s10 kn1) (oz1357 c6 hp3.2 s7 kn24 kn1)) (by decide) ?_
      intro vg11 ig11 ag11 qg11 rg11 kg11 hg11
      have hGg11 := kG_call hJ8 kg11 (by decide +kernel)
      have z12 : (ig11 6019).toInt = (((i 6019) + 1).toInt + 1) := hg11
      have b13 : ((-2147483648 : Int) ≤ vg11.toInt) ∧ (vg11.toInt ≤ 2147483647) := kd_bd vg11
      first | refine ft_goL mi_k13 6 192 [(8, .int vg11), (7, .int 20), (6, .int 1), (0, .ref 94), (1, .int x1), (2, .int 4), (3, .int 0), (4, .int x4), (5, .int x5)] [.int (vg11 + 3)] (by rfl) ?_ | refine ft_go mi_k13 6 192 [(8, .int vg11), (7, .int 20), (6, .int 1), (0, .ref 94), (1, .int x1), (2, .int 4), (3, .int 0), (4, .int x4), (5, .int x5)] [.int (vg11 + 3)] ig11 ag11 qg11 rg11 (by rfl) ?_
      exact ft_ret mi_k13 (by rfl) (hP (vg11 + 3) _ _ _ _ hGg11 (oz1358 s7 z12 kn1))
    ·
      have c14 : (i 6019).toInt < (24 : Int32).toInt := kd_leF c; clear c
      first | refine fo_goS mi_k13 fz13_37_5_47 [.int 20, .int (i 6019), .ref 96] (by rfl) ?_ | refine ft_go mi_k13 5 47 [(7, .int 20), (6, .int 1), (0, .ref 94), (1, .int x1), (2, .int 4), (3, .int 0), (4, .int x4), (5, .int x5)] [.int 20, .int (i 6019), .ref 96] i a q r (by rfl) ?_
      refine ko_iast3 mi_k13.1 (n := 24) (c := 24) (ax := (0, 0, 0, 0, 0)) (mi_k13.2 _ _ (by rfl)) (by rfl) (ksG96 _ _ _ _) (ksA96 _ _ _ _) (hG.I.2.1 96) rfl (oz3 fi_6019.1) (oz1343 c14 kn24) ?_
      intro a15 ea15 fa15
      have hJ15 := kG_a3 hG 96 rfl ea15 fa15 (kd_bd _)
      have s16 : ((i 6019) + 1).toInt = (i 6019).toInt + (1 : Int32).toInt := kd_add (oz12 fi_6019.1 kn1) (oz951 fi_6019.2 kn1)
      have hJ17 := kG_i hJ15 6019 rfl (v := ((i 6019) + 1)) ⟨(oz14 fi_6019.1 s16 kn1), (oz1351 hp3.2 s16 kn1)⟩
      first | refine ft_goI mi_k13 12 83 [.int 1, .ref (mi_RO + 4), .int x1, .ref 94] (ku i 6019 ((i 6019) + 1)) (by rfl) ?_ | refine ft_go mi_k13 12 83 [(7, .int 20), (6, .int 1), (0, .ref 94), (1, .int x1), (2, .int 4), (3, .int 0), (4, .int x4), (5, .int x5)] [.int 1, .ref (mi_RO + 4), .int x1, .ref 94] (ku i 6019 ((i 6019) + 1)) a15 q r (by rfl) ?_
      refine ft_ro mi_k13 (w := 0) (by decide +kernel) (by decide +kernel) ?_
      have s19 : (x5 + 1).toInt = x5.toInt + (1 : Int32).toInt := kd_add (oz12 hp2.1 kn1) (oz1352 hp2.2 kn1)
      first | refine ft_goS mi_k13 8 105 [.int (x5 + 1), .int x4, .int 0, .int 0, .int x1, .ref 94] (by rfl) ?_ | refine ft_go mi_k13 8 105 [(7, .int 20), (6, .int 1), (0, .ref 94), (1, .int x1), (2, .int 4), (3, .int 0), (4, .int x4), (5, .int x5)] [.int (x5 + 1), .int x4, .int 0, .int 0, .int x1, .ref 94] (ku i 6019 ((i 6019) + 1)) a15 q r (by rfl) ?_
      have r20 : ((0 : Int) ≤ ((a15 95).getD x1.toNatClampNeg 0).toInt) ∧ (((a15 95).getD x1.toNatClampNeg 0).toInt ≤ 7) := hJ17.I.2.2.1 95 (x1.toNatClampNeg)
      have u21 : ((a15 95).getD x1.toNatClampNeg 0).toInt = ((a 95).getD x1.toNatClampNeg 0).toInt := congrArg (fun z : List Int32 => (z.getD x1.toNatClampNeg 0).toInt) (fa15 95 (by decide))
      refine ko_callI mi_k13.1 (pc := 105) (ls := [(7, .int 20), (6, .int 1), (0, .ref 94), (1, .int x1), (2, .int 4), (3, .int 0), (4, .int x4), (5, .int x5)]) (st := [.int (x5 + 1), .int x4, .int 0, .int 0, .int x1, .ref 94]) (h := ks (ku i 6019 ((i 6019) + 1)) a15 q r) (i := (.invokevirtual 35, 3, 13, 0, 9, 0, 297)) (mi_k13.2 _ _ (by rfl)) (ft_invS mi_pq13 (by rfl)) (cy := mi_c13) mi_pq13 rfl (kc13_94_l10_l20_K4 hJ17.I hJ17.R x1 x4 (x5 + 1) (oz1339 hp0.1 hp0.2) (oz1447 hp1 u21) (oz1356 hp2.1 hp2.2 s19 kn1) (oz1359 fi_6019.1 hp3.2 s16 kn1)) (by decide) ?_
      intro vg22 ig22 ag22 qg22 rg22 kg22 hg22
      have hGg22 := kG_call hJ17 kg22 (by decide +kernel)
      have z23 : (ig22 6019).toInt = (((i 6019) + 1).toInt + 1) := hg22
      have b24 : ((-2147483648 : Int) ≤ vg22.toInt) ∧ (vg22.toInt ≤ 2147483647) := kd_bd vg22
      first | refine ft_goL mi_k13 6 192 [(8, .int vg22), (7, .int 20), (6, .int 1), (0, .ref 94), (1, .int x1), (2, .int 4), (3, .int 0), (4, .int x4), (5, .int x5)] [.int (vg22 + 3)] (by rfl) ?_ | refine ft_go mi_k13 6 192 [(8, .int vg22), (7, .int 20), (6, .int 1), (0, .ref 94), (1, .int x1), (2, .int 4), (3, .int 0), (4, .int x4), (5, .int x5)] [.int (vg22 + 3)] ig22 ag22 qg22 rg22 (by rfl) ?_
      exact ft_ret mi_k13 (by rfl) (hP (vg22 + 3) _ _ _ _ hGg22 (oz1358 s16 z23 kn1))
  ·
    have c25 : (40 : Int32).toInt ≤ x5.toInt := kd_ltF c; clear c
    exact (oz1360 c25 hp2.2 kn40).elim
set_option maxRecDepth 100000 in
theorem kc11_l04_l11 {i : Nat → Int32} {a : Nat → List Int32} {q : Nat → List Int64} {r : Nat → Nat} (hI : kI i a q) (hr : kr r)  : km 1 11 [.int 4, .int 1] (ks i a q r) (kPI (ks i a q r) (fun v => v.toInt = 0)) := by
  have hG := kG_self kW0 hI hr
  refine km_ofPI (q := (mi_h11, mi_c11)) rfl (by decide) (Nat.le_of_ble_eq_true rfl) ?_
  intro P hP
  first | refine ft_goL mi_k11 16 26 [(3, .int 0), (2, .int 4), (0, .int 4), (1, .int 1)] [.int (4 * 4), .ref (mi_RO + 3)] (by rfl) ?_ | refine ft_go mi_k11 16 26 [(3, .int 0), (2, .int 4), (0, .int 4), (1, .int 1)] [.int (4 * 4), .ref (mi_RO + 3)] i a q r (by rfl) ?_
  refine ko_top (by decide : (4 * 4 : Int32) = 16) ?_
  first | refine fo_goS mi_k11 fz11_26_2_28 [.int (16 + 1), .ref (mi_RO + 3)] (by rfl) ?_ | refine ft_go mi_k11 2 28 [(3, .int 0), (2, .int 4), (0, .int 4), (1, .int 1)] [.int (16 + 1), .ref (mi_RO + 3)] i a q r (by rfl) ?_
  refine ko_top (by decide : (16 + 1 : Int32) = 17) ?_
  refine ft_ro mi_k11 (w := 0) (by decide +kernel) (by decide +kernel) ?_
  first | refine ft_goS mi_k11 3 38 [.int 4, .ref (mi_RO + 4)] (by rfl) ?_ | refine ft_go mi_k11 3 38 [(3, .int 0), (2, .int 4), (0, .int 4), (1, .int 1)] [.int 4, .ref (mi_RO + 4)] i a q r (by rfl) ?_
  refine ft_ro mi_k11 (w := 1) (by decide +kernel) (by decide +kernel) ?_
  first | refine fo_goL mi_k11 fz11_39_2_43 [(3, .int (0 + 1)), (2, .int 1), (0, .int 4), (1, .int 1)] [] (by rfl) ?_ | refine ft_go mi_k11 2 43 [(3, .int (0 + 1)), (2, .int 1), (0, .int 4), (1, .int 1)] [] i a q r (by rfl) ?_
  refine ko_loc (by decide : (0 + 1 : Int32) = 1) ?_
  first | refine ft_goL mi_k11 13 26 [(3, .int 1), (2, .int 1), (0, .int 4), (1, .int 1)] [.int (1 * 4), .ref (mi_RO + 3)] (by rfl) ?_ | refine ft_goS mi_k11 13 26 [.int (1 * 4), .ref (mi_RO + 3)] (by rfl) ?_ | refine ft_go mi_k11 13 26 [(3, .int 1), (2, .int 1), (0, .int 4), (1, .int 1)] [.int (1 * 4), .ref (mi_RO + 3)] i a q r (by rfl) ?_
  refine ko_top (by decide : (1 * 4 : Int32) = 4) ?_
  first | refine fo_goS mi_k11 fz11_26_2_28 [.int (4 + 1), .ref (mi_RO + 3)] (by rfl) ?_ | refine ft_go mi_k11 2 28 [(3, .int 1), (2, .int 1), (0, .int 4), (1, .int 1)] [.int (4 + 1), .ref (mi_RO + 3)] i a q r (by rfl) ?_
  refine ko_top (by decide : (4 + 1 : Int32) = 5) ?_
  refine ft_ro mi_k11 (w := 0) (by decide +kernel) (by decide +kernel) ?_
  first | refine ft_goS mi_k11 3 38 [.int 1, .ref (mi_RO + 4)] (by rfl) ?_ | refine ft_go mi_k11 3 38 [(3, .int 1), (2, .int 1), (0, .int 4), (1, .int 1)] [.int 1, .ref (mi_RO + 4)] i a q r (by rfl) ?_
  refine ft_ro mi_k11 (w := 0) (by decide +kernel) (by decide +kernel) ?_
  first | refine fo_goL mi_k11 fz11_39_2_43 [(3, .int (1 + 1)), (2, .int 0), (0, .int 4), (1, .int 1)] [] (by rfl) ?_ | refine ft_go mi_k11 2 43 [(3, .int (1 + 1)), (2, .int 0), (0, .int 4), (1, .int 1)] [] i a q r (by rfl) ?_
  refine ko_loc (by decide : (1 + 1 : Int32) = 2) ?_
  first | refine ft_goL mi_k11 7 47 [(3, .int 2), (2, .int 0), (0, .int 4), (1, .int 1)] [.int 0] (by rfl) ?_ | refine ft_goS mi_k11 7 47 [.int 0] (by rfl) ?_ | refine ft_go mi_k11 7 47 [(3, .int 2), (2, .int 0), (0, .int 4), (1, .int 1)] [.int 0] i a q r (by rfl) ?_
  exact ft_ret mi_k11 (by rfl) (hP 0 (oz236 kn0))
def w14_94_l11_K4 : kW := ([6019], [96], [], [])
set_option maxRecDepth 100000 in
theorem kc14_94_l11_K4 {i : Nat → Int32} {a : Nat → List Int32} {q : Nat → List Int64} {r : Nat → Nat} (hI : kI i a q) (hr : kr r) (x1 : Int32) (x3 : Int32) (x4 : Int32) (hp0 : ((0 : Int) ≤ x1.toInt) ∧ (x1.toInt ≤ 49)) (hp1 : ((a 95).getD x1.toNatClampNeg 0).toInt = 4) (hp2 : ((0 : Int) ≤ x4.toInt) ∧ ((x4.toInt + 2) ≤ 39)) (hp3 : ((0 : Int) ≤ (i 6019).toInt) ∧ (((i 6019).toInt + 2) ≤ 900)) : km 7 14 [.ref 94, .int x1, .int 1, .int x3, .int x4] (ks i a q r) (kVI w14_94_l11_K4 i a q r (fun v i1 a1 q1 r1 => (i1 6019).toInt = ((i 6019).toInt + 2))) := by
  have hG := kG_self w14_94_l11_K4 hI hr
  refine km_ofI (q := (mi_h14, mi_c14)) rfl (by decide) (Nat.le_of_ble_eq_true rfl) ?_
  intro P hP
  have r1 : ((0 : Int) ≤ ((a 95).getD x1.toNatClampNeg 0).toInt) ∧ (((a 95).getD x1.toNatClampNeg 0).toInt ≤ 7) := hG.I.2.2.1 95 (x1.toNatClampNeg)
  have fi_6019 : ((0 : Int) ≤ (i 6019).toInt) ∧ ((i 6019).toInt ≤ 1000) := hG.I.1 6019
  first | refine fo_goL mi_k14 fz14_0_3_5 [(0, .ref 94), (1, .int x1), (2, .int 1), (3, .int x3), (4, .int x4)] [.int x1, .ref 95] (by rfl) ?_ | refine ft_go mi_k14 3 5 [(0, .ref 94), (1, .int x1), (2, .int 1), (3, .int x3), (4, .int x4)] [.int x1, .ref 95] i a q r (by rfl) ?_
  refine ko_iald3 mi_k14.1 (n := 50) (c := 50) (ax := (0, 0, 0, 0, 0)) (mi_k14.2 _ _ (by rfl)) (by rfl) (ksG95 _ _ _ _) (hG.I.2.1 95) rfl (oz3 hp0.1) (oz1336 hp0.2) ?_
  refine ko_top (kj_eq (oz1446 hp1) (by decide) : ((a 95).getD x1.toNatClampNeg 0) = 4) ?_
  first | refine ft_goL mi_k14 9 48 [(5, .int 4), (0, .ref 94), (1, .int x1), (2, .int 1), (3, .int x3), (4, .int x4)] [.int x4, .int x3, .int 0, .int 4, .int x1, .ref 94] (by rfl) ?_ | refine ft_go mi_k14 9 48 [(5, .int 4), (0, .ref 94), (1, .int x1), (2, .int 1), (3, .int x3), (4, .int x4)] [.int x4, .int x3, .int 0, .int 4, .int x1, .ref 94] i a q r (by rfl) ?_
  refine ko_callI mi_k14.1 (pc := 48) (ls := [(5, .int 4), (0, .ref 94), (1, .int x1), (2, .int 1), (3, .int x3), (4, .int x4)]) (st := [.int x4, .int x3, .int 0, .int 4, .int x1, .ref 94]) (h := ks i a q r) (i := (.invokevirtual 35, 3, 13, 0, 9, 0, 297)) (mi_k14.2 _ _ (by rfl)) (ft_invS mi_pq13 (by rfl)) (cy := mi_c13) mi_pq13 rfl (kc13_94_l14_l20_K4 hG.I hG.R x1 x3 x4 (oz1339 hp0.1 hp0.2) (oz1446 hp1) (oz1367 hp2.1 hp2.2) (oz1386 fi_6019.1 hp3.2)) (by decide) ?_
  intro vg2 ig2 ag2 qg2 rg2 kg2 hg2
  have hGg2 := kG_call hG kg2 (by decide +kernel)
  have z3 : (ig2 6019).toInt = ((i 6019).toInt + 2) := hg2
  have b4 : ((-2147483648 : Int) ≤ vg2.toInt) ∧ (vg2.toInt ≤ 2147483647) := kd_bd vg2
  first | refine fo_goS mi_k14 fz14_51_2_53 [.int (vg2 * 2)] (by rfl) ?_ | refine ft_go mi_k14 2 53 [(5, .int 4), (0, .ref 94), (1, .int x1), (2, .int 1), (3, .int x3), (4, .int x4)] [.int (vg2 * 2)] ig2 ag2 qg2 rg2 (by rfl) ?_
  exact ft_ret mi_k14 (by rfl) (hP (vg2 * 2) _ _ _ _ hGg2 (oz1387 z3))
def w13_94_l14_l21_K4 : kW := ([6019], [96], [], [])
set_option maxRecDepth 100000 in
theorem kc13_94_l14_l21_K4 {i : Nat → Int32} {a : Nat → List Int32} {q : Nat → List Int64} {r : Nat → Nat} (hI : kI i a q) (hr : kr r) (x1 : Int32) (x4 : Int32) (x5 : Int32) (hp0 : ((0 : Int) ≤ x1.toInt) ∧ (x1.toInt ≤ 49)) (hp1 : ((a 95).getD x1.toNatClampNeg 0).toInt = 4) (hp2 : ((0 : Int) ≤ x5.toInt) ∧ ((x5.toInt + 3) ≤ 39)) (hp3 : ((0 : Int) ≤ (i 6019).toInt) ∧ (((i 6019).toInt + 3) ≤ 900)) : km 9 13 [.ref 94, .int x1, .int 4, .int 1, .int x4, .int x5] (ks i a q r) (kVI w13_94_l14_l21_K4 i a q r (fun v i1 a1 q1 r1 => (i1 6019).toInt = ((i 6019).toInt + 3))) := by
  have hG := kG_self w13_94_l14_l21_K4 hI hr
  refine km_ofI (q := (mi_h13, mi_c13)) rfl (by decide) (Nat.le_of_ble_eq_true rfl) ?_
  intro P hP
  have r1 : ((0 : Int) ≤ ((a 95).getD x1.toNatClampNeg 0).toInt) ∧ (((a 95).getD x1.toNatClampNeg 0).toInt ≤ 7) := hG.I.2.2.1 95 (x1.toNatClampNeg)
  have fi_6019 : ((0 : Int) ≤ (i 6019).toInt) ∧ ((i 6019).toInt ≤ 1000) := hG.I.1 6019
  first | refine fo_goL mi_k13 fz13_0_2_4 [(0, .ref 94), (1, .int x1), (2, .int 4), (3, .int 1), (4, .int x4), (5, .int x5)] [.int 40, .int x5] (by rfl) ?_ | refine ft_go mi_k13 2 4 [(0, .ref 94), (1, .int x1), (2, .int 4), (3, .int 1), (4, .int x4), (5, .int x5)] [.int 40, .int x5] i a q r (by rfl) ?_
  refine ft_ifS mi_k13 (decide (x5 < 40)) 9 7 [] (by rfl) (fun c => ?_) (fun c => ?_)
  ·
    have c2 : x5.toInt < (40 : Int32).toInt := kd_lt c; clear c
    first | refine fo_goS mi_k13 fz13_9_2_11 [.int 1, .int 4] (by rfl) ?_ | refine ft_go mi_k13 2 11 [(0, .ref 94), (1, .int x1), (2, .int 4), (3, .int 1), (4, .int x4), (5, .int x5)] [.int 1, .int 4] i a q r (by rfl) ?_
    refine ko_callPI mi_k13.1 (pc := 11) (ls := [(0, .ref 94), (1, .int x1), (2, .int 4), (3, .int 1), (4, .int x4), (5, .int x5)]) (st := [.int 1, .int 4]) (h := ks i a q r) (i := (.invokestatic 39, 3, 11, 0, 9, 0, 298)) (mi_k13.2 _ _ (by rfl)) (ft_invS mi_pq11 (by rfl)) (cy := mi_c11) mi_pq11 rfl (kc11_l04_l11 hG.I hG.R ) (by decide) ?_
    intro vg3 hg3
    have z4 : vg3.toInt = 0 := hg3
    have evvg3 := kj_eq (oz236 z4) (by decide : (0 : Int32).toInt = 0)
    subst evvg3
    first | refine ft_goL mi_k13 5 23 [(6, .int 0), (0, .ref 94), (1, .int x1), (2, .int 4), (3, .int 1), (4, .int x4), (5, .int x5)] [.int (0 * 4), .ref (mi_RO + 3)] (by rfl) ?_ | refine ft_go mi_k13 5 23 [(6, .int 0), (0, .ref 94), (1, .int x1), (2, .int 4), (3, .int 1), (4, .int x4), (5, .int x5)] [.int (0 * 4), .ref (mi_RO + 3)] i a q r (by rfl) ?_
    refine ko_top (by decide : (0 * 4 : Int32) = 0) ?_
    first | refine fo_goS mi_k13 fz13_23_2_25 [.int (0 + 1), .ref (mi_RO + 3)] (by rfl) ?_ | refine ft_go mi_k13 2 25 [(6, .int 0), (0, .ref 94), (1, .int x1), (2, .int 4), (3, .int 1), (4, .int x4), (5, .int x5)] [.int (0 + 1), .ref (mi_RO + 3)] i a q r (by rfl) ?_
    refine ko_top (by decide : (0 + 1 : Int32) = 1) ?_
    refine ft_ro mi_k13 (w := 10) (by decide +kernel) (by decide +kernel) ?_
    first | refine fo_goL mi_k13 fz13_26_4_34 [(7, .int 10), (6, .int 0), (0, .ref 94), (1, .int x1), (2, .int 4), (3, .int 1), (4, .int x4), (5, .int x5)] [.int 24, .int (i 6019)] (by rfl) ?_ | refine ft_go mi_k13 4 34 [(7, .int 10), (6, .int 0), (0, .ref 94), (1, .int x1), (2, .int 4), (3, .int 1), (4, .int x4), (5, .int x5)] [.int 24, .int (i 6019)] i a q r (by rfl) ?_
    refine ft_ifS mi_k13 (decide (24 ≤ (i 6019))) 48 37 [] (by rfl) (fun c => ?_) (fun c => ?_)
    ·
      have c6 : (24 : Int32).toInt ≤ (i 6019).toInt := kd_le c; clear c
      have s7 : ((i 6019) + 1).toInt = (i 6019).toInt + (1 : Int32).toInt := kd_add (oz1332 c6 kn24 kn1) (oz951 fi_6019.2 kn1)
      have hJ8 := kG_i hG 6019 rfl (v := ((i 6019) + 1)) ⟨(oz1333 c6 s7 kn24 kn1), (oz1385 hp3.2 s7 kn1)⟩
      have s9 : (x5 + 1).toInt = x5.toInt + (1 : Int32).toInt := kd_add (oz12 hp2.1 kn1) (oz1366 hp2.2 kn1)
      first | refine fo_goI mi_k13 fz13_48_15_72 [.int (x5 + 1), .int x4, .int 1, .int x1, .ref 94] (ku i 6019 ((i 6019) + 1)) (by rfl) ?_ | refine ft_go mi_k13 15 72 [(7, .int 10), (6, .int 0), (0, .ref 94), (1, .int x1), (2, .int 4), (3, .int 1), (4, .int x4), (5, .int x5)] [.int (x5 + 1), .int x4, .int 1, .int x1, .ref 94] (ku i 6019 ((i 6019) + 1)) a q r (by rfl) ?_
      refine ko_callI mi_k13.1 (pc := 72) (ls := [(7, .int 10), (6, .int 0), (0, .ref 94), (1, .int x1), (2, .int 4), (3, .int 1), (4, .int x4), (5, .int x5)]) (st := [.int (x5 + 1), .int x4, .int 1, .int x1, .ref 94]) (h := ks (ku i 6019 ((i 6019) + 1)) a q r) (i := (.invokevirtual 43, 3, 14, 0, 9, 0, 301)) (mi_k13.2 _ _ (by rfl)) (ft_invS mi_pq14 (by rfl)) (cy := mi_c14) mi_pq14 rfl (kc14_94_l11_K4 hJ8.I hJ8.R x1 x4 (x5 + 1) (oz1339 hp0.1 hp0.2) (oz1446 hp1) (oz1372 hp2.1 hp2.2 s9 kn1) (oz1388 c6 hp3.2 s7 kn24 kn1)) (by decide) ?_
      intro vg10 ig10 ag10 qg10 rg10 kg10 hg10
      have hGg10 := kG_call hJ8 kg10 (by decide +kernel)
      have z11 : (ig10 6019).toInt = (((i 6019) + 1).toInt + 2) := hg10
      exact ft_ret mi_k13 (by rfl) (hP vg10 _ _ _ _ hGg10 (oz1389 s7 z11 kn1))
    ·
      have c12 : (i 6019).toInt < (24 : Int32).toInt := kd_leF c; clear c
      first | refine fo_goS mi_k13 fz13_37_5_47 [.int 10, .int (i 6019), .ref 96] (by rfl) ?_ | refine ft_go mi_k13 5 47 [(7, .int 10), (6, .int 0), (0, .ref 94), (1, .int x1), (2, .int 4), (3, .int 1), (4, .int x4), (5, .int x5)] [.int 10, .int (i 6019), .ref 96] i a q r (by rfl) ?_
      refine ko_iast3 mi_k13.1 (n := 24) (c := 24) (ax := (0, 0, 0, 0, 0)) (mi_k13.2 _ _ (by rfl)) (by rfl) (ksG96 _ _ _ _) (ksA96 _ _ _ _) (hG.I.2.1 96) rfl (oz3 fi_6019.1) (oz1343 c12 kn24) ?_
      intro a13 ea13 fa13
      have hJ13 := kG_a3 hG 96 rfl ea13 fa13 (kd_bd _)
      have s14 : ((i 6019) + 1).toInt = (i 6019).toInt + (1 : Int32).toInt := kd_add (oz12 fi_6019.1 kn1) (oz951 fi_6019.2 kn1)
      have hJ15 := kG_i hJ13 6019 rfl (v := ((i 6019) + 1)) ⟨(oz14 fi_6019.1 s14 kn1), (oz1385 hp3.2 s14 kn1)⟩
      have s16 : (x5 + 1).toInt = x5.toInt + (1 : Int32).toInt := kd_add (oz12 hp2.1 kn1) (oz1366 hp2.2 kn1)
      first | refine fo_goI mi_k13 fz13_48_15_72 [.int (x5 + 1), .int x4, .int 1, .int x1, .ref 94] (ku i 6019 ((i 6019) + 1)) (by rfl) ?_ | refine ft_go mi_k13 15 72 [(7, .int 10), (6, .int 0), (0, .ref 94), (1, .int x1), (2, .int 4), (3, .int 1), (4, .int x4), (5, .int x5)] [.int (x5 + 1), .int x4, .int 1, .int x1, .ref 94] (ku i 6019 ((i 6019) + 1)) a13 q r (by rfl) ?_
      have r17 : ((0 : Int) ≤ ((a13 95).getD x1.toNatClampNeg 0).toInt) ∧ (((a13 95).getD x1.toNatClampNeg 0).toInt ≤ 7) := hJ15.I.2.2.1 95 (x1.toNatClampNeg)
      have u18 : ((a13 95).getD x1.toNatClampNeg 0).toInt = ((a 95).getD x1.toNatClampNeg 0).toInt := congrArg (fun z : List Int32 => (z.getD x1.toNatClampNeg 0).toInt) (fa13 95 (by decide))
      refine ko_callI mi_k13.1 (pc := 72) (ls := [(7, .int 10), (6, .int 0), (0, .ref 94), (1, .int x1), (2, .int 4), (3, .int 1), (4, .int x4), (5, .int x5)]) (st := [.int (x5 + 1), .int x4, .int 1, .int x1, .ref 94]) (h := ks (ku i 6019 ((i 6019) + 1)) a13 q r) (i := (.invokevirtual 43, 3, 14, 0, 9, 0, 301)) (mi_k13.2 _ _ (by rfl)) (ft_invS mi_pq14 (by rfl)) (cy := mi_c14) mi_pq14 rfl (kc14_94_l11_K4 hJ15.I hJ15.R x1 x4 (x5 + 1) (oz1339 hp0.1 hp0.2) (oz1447 hp1 u18) (oz1372 hp2.1 hp2.2 s16 kn1) (oz1390 fi_6019.1 hp3.2 s14 kn1)) (by decide) ?_
      intro vg19 ig19 ag19 qg19 rg19 kg19 hg19
      have hGg19 := kG_call hJ15 kg19 (by decide +kernel)
      have z20 : (ig19 6019).toInt = (((i 6019) + 1).toInt + 2) := hg19
      exact ft_ret mi_k13 (by rfl) (hP vg19 _ _ _ _ hGg19 (oz1389 s14 z20 kn1))
  ·
    have c21 : (40 : Int32).toInt ≤ x5.toInt := kd_ltF c; clear c
    exact (oz1376 c21 hp2.2 kn40).elim
set_option maxRecDepth 100000 in
theorem kc11_l04_l12 {i : Nat → Int32} {a : Nat → List Int32} {q : Nat → List Int64} {r : Nat → Nat} (hI : kI i a q) (hr : kr r)  : km 1 11 [.int 4, .int 2] (ks i a q r) (kPI (ks i a q r) (fun v => v.toInt = 4)) := by
  have hG := kG_self kW0 hI hr
  refine km_ofPI (q := (mi_h11, mi_c11)) rfl (by decide) (Nat.le_of_ble_eq_true rfl) ?_
  intro P hP
  first | refine ft_goL mi_k11 16 26 [(3, .int 0), (2, .int 4), (0, .int 4), (1, .int 2)] [.int (4 * 4), .ref (mi_RO + 3)] (by rfl) ?_ | refine ft_go mi_k11 16 26 [(3, .int 0), (2, .int 4), (0, .int 4), (1, .int 2)] [.int (4 * 4), .ref (mi_RO + 3)] i a q r (by rfl) ?_
  refine ko_top (by decide : (4 * 4 : Int32) = 16) ?_
  first | refine fo_goS mi_k11 fz11_26_2_28 [.int (16 + 2), .ref (mi_RO + 3)] (by rfl) ?_ | refine ft_go mi_k11 2 28 [(3, .int 0), (2, .int 4), (0, .int 4), (1, .int 2)] [.int (16 + 2), .ref (mi_RO + 3)] i a q r (by rfl) ?_
  refine ko_top (by decide : (16 + 2 : Int32) = 18) ?_
  refine ft_ro mi_k11 (w := 50) (by decide +kernel) (by decide +kernel) ?_
  first | refine fo_goS mi_k11 fz11_29_2_33 [.int 4] (by rfl) ?_ | refine ft_go mi_k11 2 33 [(3, .int 0), (2, .int 4), (0, .int 4), (1, .int 2)] [.int 4] i a q r (by rfl) ?_
  exact ft_ret mi_k11 (by rfl) (hP 4 (oz1446 kn4))
def w14_94_l12_K4 : kW := ([], [], [], [])
set_option maxRecDepth 100000 in
theorem kc14_94_l12_K4 {i : Nat → Int32} {a : Nat → List Int32} {q : Nat → List Int64} {r : Nat → Nat} (hI : kI i a q) (hr : kr r) (x1 : Int32) (x3 : Int32) (x4 : Int32) (hp0 : ((0 : Int) ≤ x1.toInt) ∧ (x1.toInt ≤ 49)) (hp1 : ((a 95).getD x1.toNatClampNeg 0).toInt = 4) (hp2 : ((0 : Int) ≤ x4.toInt) ∧ ((x4.toInt + 0) ≤ 39)) (hp3 : ((0 : Int) ≤ (i 6019).toInt) ∧ (((i 6019).toInt + 0) ≤ 900)) : km 1 14 [.ref 94, .int x1, .int 2, .int x3, .int x4] (ks i a q r) (kVI w14_94_l12_K4 i a q r (fun v i1 a1 q1 r1 => (i1 6019).toInt = ((i 6019).toInt + 0))) := by
  have hG := kG_self w14_94_l12_K4 hI hr
  refine km_ofI (q := (mi_h14, mi_c14)) rfl (by decide) (Nat.le_of_ble_eq_true rfl) ?_
  intro P hP
  have r1 : ((0 : Int) ≤ ((a 95).getD x1.toNatClampNeg 0).toInt) ∧ (((a 95).getD x1.toNatClampNeg 0).toInt ≤ 7) := hG.I.2.2.1 95 (x1.toNatClampNeg)
  first | refine fo_goL mi_k14 fz14_0_3_5 [(0, .ref 94), (1, .int x1), (2, .int 2), (3, .int x3), (4, .int x4)] [.int x1, .ref 95] (by rfl) ?_ | refine ft_go mi_k14 3 5 [(0, .ref 94), (1, .int x1), (2, .int 2), (3, .int x3), (4, .int x4)] [.int x1, .ref 95] i a q r (by rfl) ?_
  refine ko_iald3 mi_k14.1 (n := 50) (c := 50) (ax := (0, 0, 0, 0, 0)) (mi_k14.2 _ _ (by rfl)) (by rfl) (ksG95 _ _ _ _) (hG.I.2.1 95) rfl (oz3 hp0.1) (oz1336 hp0.2) ?_
  refine ko_top (kj_eq (oz1446 hp1) (by decide) : ((a 95).getD x1.toNatClampNeg 0) = 4) ?_
  first | refine ft_goL mi_k14 6 57 [(5, .int 4), (0, .ref 94), (1, .int x1), (2, .int 2), (3, .int x3), (4, .int x4)] [.int (x3 ^^^ x1)] (by rfl) ?_ | refine ft_go mi_k14 6 57 [(5, .int 4), (0, .ref 94), (1, .int x1), (2, .int 2), (3, .int x3), (4, .int x4)] [.int (x3 ^^^ x1)] i a q r (by rfl) ?_
  exact ft_ret mi_k14 (by rfl) (hP (x3 ^^^ x1) _ _ _ _ hG oz1338)
def w13_94_l11_l22_K4 : kW := ([6019], [96], [], [])
set_option maxRecDepth 100000 in
theorem kc13_94_l11_l22_K4 {i : Nat → Int32} {a : Nat → List Int32} {q : Nat → List Int64} {r : Nat → Nat} (hI : kI i a q) (hr : kr r) (x1 : Int32) (x4 : Int32) (x5 : Int32) (hp0 : ((0 : Int) ≤ x1.toInt) ∧ (x1.toInt ≤ 49)) (hp1 : ((a 95).getD x1.toNatClampNeg 0).toInt = 4) (hp2 : ((0 : Int) ≤ x5.toInt) ∧ ((x5.toInt + 1) ≤ 39)) (hp3 : ((0 : Int) ≤ (i 6019).toInt) ∧ (((i 6019).toInt + 1) ≤ 900)) : km 3 13 [.ref 94, .int x1, .int 1, .int 2, .int x4, .int x5] (ks i a q r) (kVI w13_94_l11_l22_K4 i a q r (fun v i1 a1 q1 r1 => (i1 6019).toInt = ((i 6019).toInt + 1))) := by
  have hG := kG_self w13_94_l11_l22_K4 hI hr
  refine km_ofI (q := (mi_h13, mi_c13)) rfl (by decide) (Nat.le_of_ble_eq_true rfl) ?_
  intro P hP
  have r1 : ((0 : Int) ≤ ((a 95).getD x1.toNatClampNeg 0).toInt) ∧ (((a 95).getD x1.toNatClampNeg 0).toInt ≤ 7) := hG.I.2.2.1 95 (x1.toNatClampNeg)
  have fi_6019 : ((0 : Int) ≤ (i 6019).toInt) ∧ ((i 6019).toInt ≤ 1000) := hG.I.1 6019
  first | refine fo_goL mi_k13 fz13_0_2_4 [(0, .ref 94), (1, .int x1), (2, .int 1), (3, .int 2), (4, .int x4), (5, .int x5)] [.int 40, .int x5] (by rfl) ?_ | refine ft_go mi_k13 2 4 [(0, .ref 94), (1, .int x1), (2, .int 1), (3, .int 2), (4, .int x4), (5, .int x5)] [.int 40, .int x5] i a q r (by rfl) ?_
  refine ft_ifS mi_k13 (decide (x5 < 40)) 9 7 [] (by rfl) (fun c => ?_) (fun c => ?_)
  ·
    have c2 : x5.toInt < (40 : Int32).toInt := kd_lt c; clear c
    first | refine fo_goS mi_k13 fz13_9_2_11 [.int 2, .int 1] (by rfl) ?_ | refine ft_go mi_k13 2 11 [(0, .ref 94), (1, .int x1), (2, .int 1), (3, .int 2), (4, .int x4), (5, .int x5)] [.int 2, .int 1] i a q r (by rfl) ?_
    refine ko_callPI mi_k13.1 (pc := 11) (ls := [(0, .ref 94), (1, .int x1), (2, .int 1), (3, .int 2), (4, .int x4), (5, .int x5)]) (st := [.int 2, .int 1]) (h := ks i a q r) (i := (.invokestatic 39, 3, 11, 0, 9, 0, 298)) (mi_k13.2 _ _ (by rfl)) (ft_invS mi_pq11 (by rfl)) (cy := mi_c11) mi_pq11 rfl (kc11_l01_l12 hG.I hG.R ) (by decide) ?_
    intro vg3 hg3
    have z4 : vg3.toInt = 0 := hg3
    have evvg3 := kj_eq (oz236 z4) (by decide : (0 : Int32).toInt = 0)
    subst evvg3
    first | refine ft_goL mi_k13 5 23 [(6, .int 0), (0, .ref 94), (1, .int x1), (2, .int 1), (3, .int 2), (4, .int x4), (5, .int x5)] [.int (0 * 4), .ref (mi_RO + 3)] (by rfl) ?_ | refine ft_go mi_k13 5 23 [(6, .int 0), (0, .ref 94), (1, .int x1), (2, .int 1), (3, .int 2), (4, .int x4), (5, .int x5)] [.int (0 * 4), .ref (mi_RO + 3)] i a q r (by rfl) ?_
    refine ko_top (by decide : (0 * 4 : Int32) = 0) ?_
    first | refine fo_goS mi_k13 fz13_23_2_25 [.int (0 + 2), .ref (mi_RO + 3)] (by rfl) ?_ | refine ft_go mi_k13 2 25 [(6, .int 0), (0, .ref 94), (1, .int x1), (2, .int 1), (3, .int 2), (4, .int x4), (5, .int x5)] [.int (0 + 2), .ref (mi_RO + 3)] i a q r (by rfl) ?_
    refine ko_top (by decide : (0 + 2 : Int32) = 2) ?_
    refine ft_ro mi_k13 (w := 11) (by decide +kernel) (by decide +kernel) ?_
    first | refine fo_goL mi_k13 fz13_26_4_34 [(7, .int 11), (6, .int 0), (0, .ref 94), (1, .int x1), (2, .int 1), (3, .int 2), (4, .int x4), (5, .int x5)] [.int 24, .int (i 6019)] (by rfl) ?_ | refine ft_go mi_k13 4 34 [(7, .int 11), (6, .int 0), (0, .ref 94), (1, .int x1), (2, .int 1), (3, .int 2), (4, .int x4), (5, .int x5)] [.int 24, .int (i 6019)] i a q r (by rfl) ?_
    refine ft_ifS mi_k13 (decide (24 ≤ (i 6019))) 48 37 [] (by rfl) (fun c => ?_) (fun c => ?_)
    ·
      have c6 : (24 : Int32).toInt ≤ (i 6019).toInt := kd_le c; clear c
      have s7 : ((i 6019) + 1).toInt = (i 6019).toInt + (1 : Int32).toInt := kd_add (oz1332 c6 kn24 kn1) (oz951 fi_6019.2 kn1)
      have hJ8 := kG_i hG 6019 rfl (v := ((i 6019) + 1)) ⟨(oz1333 c6 s7 kn24 kn1), (oz1334 hp3.2 s7 kn1)⟩
      have s9 : (x5 + 1).toInt = x5.toInt + (1 : Int32).toInt := kd_add (oz12 hp2.1 kn1) (oz1335 hp2.2 kn1)
      first | refine fo_goI mi_k13 fz13_48_15_72 [.int (x5 + 1), .int x4, .int 2, .int x1, .ref 94] (ku i 6019 ((i 6019) + 1)) (by rfl) ?_ | refine ft_go mi_k13 15 72 [(7, .int 11), (6, .int 0), (0, .ref 94), (1, .int x1), (2, .int 1), (3, .int 2), (4, .int x4), (5, .int x5)] [.int (x5 + 1), .int x4, .int 2, .int x1, .ref 94] (ku i 6019 ((i 6019) + 1)) a q r (by rfl) ?_
      refine ko_callI mi_k13.1 (pc := 72) (ls := [(7, .int 11), (6, .int 0), (0, .ref 94), (1, .int x1), (2, .int 1), (3, .int 2), (4, .int x4), (5, .int x5)]) (st := [.int (x5 + 1), .int x4, .int 2, .int x1, .ref 94]) (h := ks (ku i 6019 ((i 6019) + 1)) a q r) (i := (.invokevirtual 43, 3, 14, 0, 9, 0, 301)) (mi_k13.2 _ _ (by rfl)) (ft_invS mi_pq14 (by rfl)) (cy := mi_c14) mi_pq14 rfl (kc14_94_l12_K4 hJ8.I hJ8.R x1 x4 (x5 + 1) (oz1339 hp0.1 hp0.2) (oz1446 hp1) (oz1340 hp2.1 hp2.2 s9 kn1) (oz1341 c6 hp3.2 s7 kn24 kn1)) (by decide) ?_
      intro vg10 ig10 ag10 qg10 rg10 kg10 hg10
      have hGg10 := kG_call hJ8 kg10 (by decide +kernel)
      have efig10_6019 : (ig10 6019).toInt = ((i 6019) + 1).toInt := kg10.ti 6019 rfl
      exact ft_ret mi_k13 (by rfl) (hP vg10 _ _ _ _ hGg10 (oz1342 efig10_6019 s7 kn1))
    ·
      have c12 : (i 6019).toInt < (24 : Int32).toInt := kd_leF c; clear c
      first | refine fo_goS mi_k13 fz13_37_5_47 [.int 11, .int (i 6019), .ref 96] (by rfl) ?_ | refine ft_go mi_k13 5 47 [(7, .int 11), (6, .int 0), (0, .ref 94), (1, .int x1), (2, .int 1), (3, .int 2), (4, .int x4), (5, .int x5)] [.int 11, .int (i 6019), .ref 96] i a q r (by rfl) ?_
      refine ko_iast3 mi_k13.1 (n := 24) (c := 24) (ax := (0, 0, 0, 0, 0)) (mi_k13.2 _ _ (by rfl)) (by rfl) (ksG96 _ _ _ _) (ksA96 _ _ _ _) (hG.I.2.1 96) rfl (oz3 fi_6019.1) (oz1343 c12 kn24) ?_
      intro a13 ea13 fa13
      have hJ13 := kG_a3 hG 96 rfl ea13 fa13 (kd_bd _)
      have s14 : ((i 6019) + 1).toInt = (i 6019).toInt + (1 : Int32).toInt := kd_add (oz12 fi_6019.1 kn1) (oz951 fi_6019.2 kn1)
      have hJ15 := kG_i hJ13 6019 rfl (v := ((i 6019) + 1)) ⟨(oz14 fi_6019.1 s14 kn1), (oz1334 hp3.2 s14 kn1)⟩
      have s16 : (x5 + 1).toInt = x5.toInt + (1 : Int32).toInt := kd_add (oz12 hp2.1 kn1) (oz1335 hp2.2 kn1)
      first | refine fo_goI mi_k13 fz13_48_15_72 [.int (x5 + 1), .int x4, .int 2, .int x1, .ref 94] (ku i 6019 ((i 6019) + 1)) (by rfl) ?_ | refine ft_go mi_k13 15 72 [(7, .int 11), (6, .int 0), (0, .ref 94), (1, .int x1), (2, .int 1), (3, .int 2), (4, .int x4), (5, .int x5)] [.int (x5 + 1), .int x4, .int 2, .int x1, .ref 94] (ku i 6019 ((i 6019) + 1)) a13 q r (by rfl) ?_
      have r17 : ((0 : Int) ≤ ((a13 95).getD x1.toNatClampNeg 0).toInt) ∧ (((a13 95).getD x1.toNatClampNeg 0).toInt ≤ 7) := hJ15.I.2.2.1 95 (x1.toNatClampNeg)
      have u18 : ((a13 95).getD x1.toNatClampNeg 0).toInt = ((a 95).getD x1.toNatClampNeg 0).toInt := congrArg (fun z : List Int32 => (z.getD x1.toNatClampNeg 0).toInt) (fa13 95 (by decide))
      refine ko_callI mi_k13.1 (pc := 72) (ls := [(7, .int 11), (6, .int 0), (0, .ref 94), (1, .int x1), (2, .int 1), (3, .int 2), (4, .int x4), (5, .int x5)]) (st := [.int (x5 + 1), .int x4, .int 2, .int x1, .ref 94]) (h := ks (ku i 6019 ((i 6019) + 1)) a13 q r) (i := (.invokevirtual 43, 3, 14, 0, 9, 0, 301)) (mi_k13.2 _ _ (by rfl)) (ft_invS mi_pq14 (by rfl)) (cy := mi_c14) mi_pq14 rfl (kc14_94_l12_K4 hJ15.I hJ15.R x1 x4 (x5 + 1) (oz1339 hp0.1 hp0.2) (oz1447 hp1 u18) (oz1340 hp2.1 hp2.2 s16 kn1) (oz1345 fi_6019.1 hp3.2 s14 kn1)) (by decide) ?_
      intro vg19 ig19 ag19 qg19 rg19 kg19 hg19
      have hGg19 := kG_call hJ15 kg19 (by decide +kernel)
      have efig19_6019 : (ig19 6019).toInt = ((i 6019) + 1).toInt := kg19.ti 6019 rfl
      exact ft_ret mi_k13 (by rfl) (hP vg19 _ _ _ _ hGg19 (oz1342 efig19_6019 s14 kn1))
  ·
    have c21 : (40 : Int32).toInt ≤ x5.toInt := kd_ltF c; clear c
    exact (oz1346 c21 hp2.2 kn40).elim
def w13_94_l14_l22_K4 : kW := ([6019], [96], [], [])
set_option maxRecDepth 100000 in
theorem kc13_94_l14_l22_K4 {i : Nat → Int32} {a : Nat → List Int32} {q : Nat → List Int64} {r : Nat → Nat} (hI : kI i a q) (hr : kr r) (x1 : Int32) (x4 : Int32) (x5 : Int32) (hp0 : ((0 : Int) ≤ x1.toInt) ∧ (x1.toInt ≤ 49)) (hp1 : ((a 95).getD x1.toNatClampNeg 0).toInt = 4) (hp2 : ((0 : Int) ≤ x5.toInt) ∧ ((x5.toInt + 3) ≤ 39)) (hp3 : ((0 : Int) ≤ (i 6019).toInt) ∧ (((i 6019).toInt + 4) ≤ 900)) : km 7 13 [.ref 94, .int x1, .int 4, .int 2, .int x4, .int x5] (ks i a q r) (kVI w13_94_l14_l22_K4 i a q r (fun v i1 a1 q1 r1 => (i1 6019).toInt = ((i 6019).toInt + 4))) := by
  have hG := kG_self w13_94_l14_l22_K4 hI hr
  refine km_ofI (q := (mi_h13, mi_c13)) rfl (by decide) (Nat.le_of_ble_eq_true rfl) ?_
  intro P hP
  have r1 : ((0 : Int) ≤ ((a 95).getD x1.toNatClampNeg 0).toInt) ∧ (((a 95).getD x1.toNatClampNeg 0).toInt ≤ 7) := hG.I.2.2.1 95 (x1.toNatClampNeg)
  have fi_6019 : ((0 : Int) ≤ (i 6019).toInt) ∧ ((i 6019).toInt ≤ 1000) := hG.I.1 6019
  first | refine fo_goL mi_k13 fz13_0_2_4 [(0, .ref 94), (1, .int x1), (2, .int 4), (3, .int 2), (4, .int x4), (5, .int x5)] [.int 40, .int x5] (by rfl) ?_ | refine ft_go mi_k13 2 4 [(0, .ref 94), (1, .int x1), (2, .int 4), (3, .int 2), (4, .int x4), (5, .int x5)] [.int 40, .int x5] i a q r (by rfl) ?_
  refine ft_ifS mi_k13 (decide (x5 < 40)) 9 7 [] (by rfl) (fun c => ?_) (fun c => ?_)
  ·
    have c2 : x5.toInt < (40 : Int32).toInt := kd_lt c; clear c
    first | refine fo_goS mi_k13 fz13_9_2_11 [.int 2, .int 4] (by rfl) ?_ | refine ft_go mi_k13 2 11 [(0, .ref 94), (1, .int x1), (2, .int 4), (3, .int 2), (4, .int x4), (5, .int x5)] [.int 2, .int 4] i a q r (by rfl) ?_
    refine ko_callPI mi_k13.1 (pc := 11) (ls := [(0, .ref 94), (1, .int x1), (2, .int 4), (3, .int 2), (4, .int x4), (5, .int x5)]) (st := [.int 2, .int 4]) (h := ks i a q r) (i := (.invokestatic 39, 3, 11, 0, 9, 0, 298)) (mi_k13.2 _ _ (by rfl)) (ft_invS mi_pq11 (by rfl)) (cy := mi_c11) mi_pq11 rfl (kc11_l04_l12 hG.I hG.R ) (by decide) ?_
    intro vg3 hg3
    have z4 : vg3.toInt = 4 := hg3
    have evvg3 := kj_eq (oz1446 z4) (by decide : (4 : Int32).toInt = 4)
    subst evvg3
    first | refine ft_goL mi_k13 5 23 [(6, .int 4), (0, .ref 94), (1, .int x1), (2, .int 4), (3, .int 2), (4, .int x4), (5, .int x5)] [.int (4 * 4), .ref (mi_RO + 3)] (by rfl) ?_ | refine ft_go mi_k13 5 23 [(6, .int 4), (0, .ref 94), (1, .int x1), (2, .int 4), (3, .int 2), (4, .int x4), (5, .int x5)] [.int (4 * 4), .ref (mi_RO + 3)] i a q r (by rfl) ?_
    refine ko_top (by decide : (4 * 4 : Int32) = 16) ?_
    first | refine fo_goS mi_k13 fz13_23_2_25 [.int (16 + 2), .ref (mi_RO + 3)] (by rfl) ?_ | refine ft_go mi_k13 2 25 [(6, .int 4), (0, .ref 94), (1, .int x1), (2, .int 4), (3, .int 2), (4, .int x4), (5, .int x5)] [.int (16 + 2), .ref (mi_RO + 3)] i a q r (by rfl) ?_
    refine ko_top (by decide : (16 + 2 : Int32) = 18) ?_
    refine ft_ro mi_k13 (w := 50) (by decide +kernel) (by decide +kernel) ?_
    first | refine fo_goL mi_k13 fz13_26_4_34 [(7, .int 50), (6, .int 4), (0, .ref 94), (1, .int x1), (2, .int 4), (3, .int 2), (4, .int x4), (5, .int x5)] [.int 24, .int (i 6019)] (by rfl) ?_ | refine ft_go mi_k13 4 34 [(7, .int 50), (6, .int 4), (0, .ref 94), (1, .int x1), (2, .int 4), (3, .int 2), (4, .int x4), (5, .int x5)] [.int 24, .int (i 6019)] i a q r (by rfl) ?_
    refine ft_ifS mi_k13 (decide (24 ≤ (i 6019))) 48 37 [] (by rfl) (fun c => ?_) (fun c => ?_)
    ·
      have c6 : (24 : Int32).toInt ≤ (i 6019).toInt := kd_le c; clear c
      have s7 : ((i 6019) + 1).toInt = (i 6019).toInt + (1 : Int32).toInt := kd_add (oz1332 c6 kn24 kn1) (oz951 fi_6019.2 kn1)
      have hJ8 := kG_i hG 6019 rfl (v := ((i 6019) + 1)) ⟨(oz1333 c6 s7 kn24 kn1), (oz1365 hp3.2 s7 kn1)⟩
      first | refine ft_goI mi_k13 12 83 [.int 4, .ref (mi_RO + 4), .int x1, .ref 94] (ku i 6019 ((i 6019) + 1)) (by rfl) ?_ | refine ft_go mi_k13 12 83 [(7, .int 50), (6, .int 4), (0, .ref 94), (1, .int x1), (2, .int 4), (3, .int 2), (4, .int x4), (5, .int x5)] [.int 4, .ref (mi_RO + 4), .int x1, .ref 94] (ku i 6019 ((i 6019) + 1)) a q r (by rfl) ?_
      refine ft_ro mi_k13 (w := 1) (by decide +kernel) (by decide +kernel) ?_
      have s10 : (x5 + 1).toInt = x5.toInt + (1 : Int32).toInt := kd_add (oz12 hp2.1 kn1) (oz1366 hp2.2 kn1)
      first | refine ft_goS mi_k13 8 105 [.int (x5 + 1), .int x4, .int 2, .int 1, .int x1, .ref 94] (by rfl) ?_ | refine ft_go mi_k13 8 105 [(7, .int 50), (6, .int 4), (0, .ref 94), (1, .int x1), (2, .int 4), (3, .int 2), (4, .int x4), (5, .int x5)] [.int (x5 + 1), .int x4, .int 2, .int 1, .int x1, .ref 94] (ku i 6019 ((i 6019) + 1)) a q r (by rfl) ?_
      refine ko_callI mi_k13.1 (pc := 105) (ls := [(7, .int 50), (6, .int 4), (0, .ref 94), (1, .int x1), (2, .int 4), (3, .int 2), (4, .int x4), (5, .int x5)]) (st := [.int (x5 + 1), .int x4, .int 2, .int 1, .int x1, .ref 94]) (h := ks (ku i 6019 ((i 6019) + 1)) a q r) (i := (.invokevirtual 35, 3, 13, 0, 9, 0, 297)) (mi_k13.2 _ _ (by rfl)) (ft_invS mi_pq13 (by rfl)) (cy := mi_c13) mi_pq13 rfl (kc13_94_l11_l22_K4 hJ8.I hJ8.R x1 x4 (x5 + 1) (oz1339 hp0.1 hp0.2) (oz1446 hp1) (oz1451 hp2.1 hp2.2 s10 kn1) (oz1452 c6 hp3.2 s7 kn24 kn1)) (by decide) ?_
      intro vg11 ig11 ag11 qg11 rg11 kg11 hg11
      have hGg11 := kG_call hJ8 kg11 (by decide +kernel)
      have z12 : (ig11 6019).toInt = (((i 6019) + 1).toInt + 1) := hg11
      first | refine ft_goL mi_k13 9 211 [(8, .int vg11), (7, .int 50), (6, .int 4), (0, .ref 94), (1, .int x1), (2, .int 4), (3, .int 2), (4, .int x4), (5, .int x5)] [.int x1, .ref 95, .int x1, .ref 94, .int vg11] (by rfl) ?_ | refine ft_go mi_k13 9 211 [(8, .int vg11), (7, .int 50), (6, .int 4), (0, .ref 94), (1, .int x1), (2, .int 4), (3, .int 2), (4, .int x4), (5, .int x5)] [.int x1, .ref 95, .int x1, .ref 94, .int vg11] ig11 ag11 qg11 rg11 (by rfl) ?_
      refine ko_iald3 mi_k13.1 (n := 50) (c := 50) (ax := (0, 0, 0, 0, 0)) (mi_k13.2 _ _ (by rfl)) (by rfl) (ksG95 _ _ _ _) (hGg11.I.2.1 95) rfl (oz3 hp0.1) (oz1336 hp0.2) ?_
      have r13 : ((0 : Int) ≤ ((ag11 95).getD x1.toNatClampNeg 0).toInt) ∧ (((ag11 95).getD x1.toNatClampNeg 0).toInt ≤ 7) := hGg11.I.2.2.1 95 (x1.toNatClampNeg)
      have u14 : ((ag11 95).getD x1.toNatClampNeg 0).toInt = ((a 95).getD x1.toNatClampNeg 0).toInt := congrArg (fun z : List Int32 => (z.getD x1.toNatClampNeg 0).toInt) (kg11.fa 95 rfl)
      refine ko_top (kj_eq (oz1447 hp1 u14) (by decide) : ((ag11 95).getD x1.toNatClampNeg 0) = 4) ?_
      first | refine fo_goS mi_k13 fz13_212_5_218 [.int (x5 + 1), .int 2, .int 0, .int 4, .int x1, .ref 94, .int vg11] (by rfl) ?_ | refine ft_go mi_k13 5 218 [(8, .int vg11), (7, .int 50), (6, .int 4), (0, .ref 94), (1, .int x1), (2, .int 4), (3, .int 2), (4, .int x4), (5, .int x5)] [.int (x5 + 1), .int 2, .int 0, .int 4, .int x1, .ref 94, .int vg11] ig11 ag11 qg11 rg11 (by rfl) ?_
      refine ko_callI mi_k13.1 (pc := 218) (ls := [(8, .int vg11), (7, .int 50), (6, .int 4), (0, .ref 94), (1, .int x1), (2, .int 4), (3, .int 2), (4, .int x4), (5, .int x5)]) (st := [.int (x5 + 1), .int 2, .int 0, .int 4, .int x1, .ref 94, .int vg11]) (h := ks ig11 ag11 qg11 rg11) (i := (.invokevirtual 35, 3, 13, 0, 9, 0, 297)) (mi_k13.2 _ _ (by rfl)) (ft_invS mi_pq13 (by rfl)) (cy := mi_c13) mi_pq13 rfl (kc13_94_l14_l20_K4 hGg11.I hGg11.R x1 2 (x5 + 1) (oz1339 hp0.1 hp0.2) (oz1447 hp1 u14) (oz1372 hp2.1 hp2.2 s10 kn1) (oz1453 c6 hp3.2 s7 z12 kn24 kn1)) (by decide) ?_
      intro vg15 ig15 ag15 qg15 rg15 kg15 hg15
      have hGg15 := kG_call hGg11 kg15 (by decide +kernel)
      have z16 : (ig15 6019).toInt = ((ig11 6019).toInt + 2) := hg15
      have b17 : ((-2147483648 : Int) ≤ vg11.toInt) ∧ (vg11.toInt ≤ 2147483647) := kd_bd vg11
      have b18 : ((-2147483648 : Int) ≤ vg15.toInt) ∧ (vg15.toInt ≤ 2147483647) := kd_bd vg15
      first | refine ft_goS mi_k13 1 222 [.int (vg11 - vg15)] (by rfl) ?_ | refine ft_go mi_k13 1 222 [(8, .int vg11), (7, .int 50), (6, .int 4), (0, .ref 94), (1, .int x1), (2, .int 4), (3, .int 2), (4, .int x4), (5, .int x5)] [.int (vg11 - vg15)] ig15 ag15 qg15 rg15 (by rfl) ?_
      exact ft_ret mi_k13 (by rfl) (hP (vg11 - vg15) _ _ _ _ hGg15 (oz1454 s7 z12 z16 kn1))
    ·
      have c19 : (i 6019).toInt < (24 : Int32).toInt := kd_leF c; clear c
      first | refine fo_goS mi_k13 fz13_37_5_47 [.int 50, .int (i 6019), .ref 96] (by rfl) ?_ | refine ft_go mi_k13 5 47 [(7, .int 50), (6, .int 4), (0, .ref 94), (1, .int x1), (2, .int 4), (3, .int 2), (4, .int x4), (5, .int x5)] [.int 50, .int (i 6019), .ref 96] i a q r (by rfl) ?_
      refine ko_iast3 mi_k13.1 (n := 24) (c := 24) (ax := (0, 0, 0, 0, 0)) (mi_k13.2 _ _ (by rfl)) (by rfl) (ksG96 _ _ _ _) (ksA96 _ _ _ _) (hG.I.2.1 96) rfl (oz3 fi_6019.1) (oz1343 c19 kn24) ?_
      intro a20 ea20 fa20
      have hJ20 := kG_a3 hG 96 rfl ea20 fa20 (kd_bd _)
      have s21 : ((i 6019) + 1).toInt = (i 6019).toInt + (1 : Int32).toInt := kd_add (oz12 fi_6019.1 kn1) (oz951 fi_6019.2 kn1)
      have hJ22 := kG_i hJ20 6019 rfl (v := ((i 6019) + 1)) ⟨(oz14 fi_6019.1 s21 kn1), (oz1365 hp3.2 s21 kn1)⟩
      first | refine ft_goI mi_k13 12 83 [.int 4, .ref (mi_RO + 4), .int x1, .ref 94] (ku i 6019 ((i 6019) + 1)) (by rfl) ?_ | refine ft_go mi_k13 12 83 [(7, .int 50), (6, .int 4), (0, .ref 94), (1, .int x1), (2, .int 4), (3, .int 2), (4, .int x4), (5, .int x5)] [.int 4, .ref (mi_RO + 4), .int x1, .ref 94] (ku i 6019 ((i 6019) + 1)) a20 q r (by rfl) ?_
      refine ft_ro mi_k13 (w := 1) (by decide +kernel) (by decide +kernel) ?_
      have s24 : (x5 + 1).toInt = x5.toInt + (1 : Int32).toInt := kd_add (oz12 hp2.1 kn1) (oz1366 hp2.2 kn1)
      first | refine ft_goS mi_k13 8 105 [.int (x5 + 1), .int x4, .int 2, .int 1, .int x1, .ref 94] (by rfl) ?_ | refine ft_go mi_k13 8 105 [(7, .int 50), (6, .int 4), (0, .ref 94), (1, .int x1), (2, .int 4), (3, .int 2), (4, .int x4), (5, .int x5)] [.int (x5 + 1), .int x4, .int 2, .int 1, .int x1, .ref 94] (ku i 6019 ((i 6019) + 1)) a20 q r (by rfl) ?_
      have r25 : ((0 : Int) ≤ ((a20 95).getD x1.toNatClampNeg 0).toInt) ∧ (((a20 95).getD x1.toNatClampNeg 0).toInt ≤ 7) := hJ22.I.2.2.1 95 (x1.toNatClampNeg)
      have u26 : ((a20 95).getD x1.toNatClampNeg 0).toInt = ((a 95).getD x1.toNatClampNeg 0).toInt := congrArg (fun z : List Int32 => (z.getD x1.toNatClampNeg 0).toInt) (fa20 95 (by decide))
      refine ko_callI mi_k13.1 (pc := 105) (ls := [(7, .int 50), (6, .int 4), (0, .ref 94), (1, .int x1), (2, .int 4), (3, .int 2), (4, .int x4), (5, .int x5)]) (st := [.int (x5 + 1), .int x4, .int 2, .int 1, .int x1, .ref 94]) (h := ks (ku i 6019 ((i 6019) + 1)) a20 q r) (i := (.invokevirtual 35, 3, 13, 0, 9, 0, 297)) (mi_k13.2 _ _ (by rfl)) (ft_invS mi_pq13 (by rfl)) (cy := mi_c13) mi_pq13 rfl (kc13_94_l11_l22_K4 hJ22.I hJ22.R x1 x4 (x5 + 1) (oz1339 hp0.1 hp0.2) (oz1447 hp1 u26) (oz1451 hp2.1 hp2.2 s24 kn1) (oz1455 fi_6019.1 hp3.2 s21 kn1)) (by decide) ?_
      intro vg27 ig27 ag27 qg27 rg27 kg27 hg27
      have hGg27 := kG_call hJ22 kg27 (by decide +kernel)
      have fig27_6019 : ((0 : Int) ≤ (ig27 6019).toInt) ∧ ((ig27 6019).toInt ≤ 1000) := hGg27.I.1 6019
      have z28 : (ig27 6019).toInt = (((i 6019) + 1).toInt + 1) := hg27
      first | refine ft_goL mi_k13 9 211 [(8, .int vg27), (7, .int 50), (6, .int 4), (0, .ref 94), (1, .int x1), (2, .int 4), (3, .int 2), (4, .int x4), (5, .int x5)] [.int x1, .ref 95, .int x1, .ref 94, .int vg27] (by rfl) ?_ | refine ft_go mi_k13 9 211 [(8, .int vg27), (7, .int 50), (6, .int 4), (0, .ref 94), (1, .int x1), (2, .int 4), (3, .int 2), (4, .int x4), (5, .int x5)] [.int x1, .ref 95, .int x1, .ref 94, .int vg27] ig27 ag27 qg27 rg27 (by rfl) ?_
      refine ko_iald3 mi_k13.1 (n := 50) (c := 50) (ax := (0, 0, 0, 0, 0)) (mi_k13.2 _ _ (by rfl)) (by rfl) (ksG95 _ _ _ _) (hGg27.I.2.1 95) rfl (oz3 hp0.1) (oz1336 hp0.2) ?_
      have r29 : ((0 : Int) ≤ ((ag27 95).getD x1.toNatClampNeg 0).toInt) ∧ (((ag27 95).getD x1.toNatClampNeg 0).toInt ≤ 7) := hGg27.I.2.2.1 95 (x1.toNatClampNeg)
      have u30 : ((ag27 95).getD x1.toNatClampNeg 0).toInt = ((a20 95).getD x1.toNatClampNeg 0).toInt := congrArg (fun z : List Int32 => (z.getD x1.toNatClampNeg 0).toInt) (kg27.fa 95 rfl)
      refine ko_top (kj_eq (oz1456 hp1 u26 u30) (by decide) : ((ag27 95).getD x1.toNatClampNeg 0) = 4) ?_
      first | refine fo_goS mi_k13 fz13_212_5_218 [.int (x5 + 1), .int 2, .int 0, .int 4, .int x1, .ref 94, .int vg27] (by rfl) ?_ | refine ft_go mi_k13 5 218 [(8, .int vg27), (7, .int 50), (6, .int 4), (0, .ref 94), (1, .int x1), (2, .int 4), (3, .int 2), (4, .int x4), (5, .int x5)] [.int (x5 + 1), .int 2, .int 0, .int 4, .int x1, .ref 94, .int vg27] ig27 ag27 qg27 rg27 (by rfl) ?_
      refine ko_callI mi_k13.1 (pc := 218) (ls := [(8, .int vg27), (7, .int 50), (6, .int 4), (0, .ref 94), (1, .int x1), (2, .int 4), (3, .int 2), (4, .int x4), (5, .int x5)]) (st := [.int (x5 + 1), .int 2, .int 0, .int 4, .int x1, .ref 94, .int vg27]) (h := ks ig27 ag27 qg27 rg27) (i := (.invokevirtual 35, 3, 13, 0, 9, 0, 297)) (mi_k13.2 _ _ (by rfl)) (ft_invS mi_pq13 (by rfl)) (cy := mi_c13) mi_pq13 rfl (kc13_94_l14_l20_K4 hGg27.I hGg27.R x1 2 (x5 + 1) (oz1339 hp0.1 hp0.2) (oz1456 hp1 u26 u30) (oz1372 hp2.1 hp2.2 s24 kn1) (oz1457 fig27_6019.1 hp3.2 s21 z28 kn1)) (by decide) ?_
      intro vg31 ig31 ag31 qg31 rg31 kg31 hg31
      have hGg31 := kG_call hGg27 kg31 (by decide +kernel)
      have z32 : (ig31 6019).toInt = ((ig27 6019).toInt + 2) := hg31
      have b33 : ((-2147483648 : Int) ≤ vg27.toInt) ∧ (vg27.toInt ≤ 2147483647) := kd_bd vg27
      have b34 : ((-2147483648 : Int) ≤ vg31.toInt) ∧ (vg31.toInt ≤ 2147483647) := kd_bd vg31
      first | refine ft_goS mi_k13 1 222 [.int (vg27 - vg31)] (by rfl) ?_ | refine ft_go mi_k13 1 222 [(8, .int vg27), (7, .int 50), (6, .int 4), (0, .ref 94), (1, .int x1), (2, .int 4), (3, .int 2), (4, .int x4), (5, .int x5)] [.int (vg27 - vg31)] ig31 ag31 qg31 rg31 (by rfl) ?_
      exact ft_ret mi_k13 (by rfl) (hP (vg27 - vg31) _ _ _ _ hGg31 (oz1454 s21 z28 z32 kn1))
  ·
    have c35 : (40 : Int32).toInt ≤ x5.toInt := kd_ltF c; clear c
    exact (oz1376 c35 hp2.2 kn40).elim
set_option maxRecDepth 100000 in
theorem kc11_l04_l13 {i : Nat → Int32} {a : Nat → List Int32} {q : Nat → List Int64} {r : Nat → Nat} (hI : kI i a q) (hr : kr r)  : km 1 11 [.int 4, .int 3] (ks i a q r) (kPI (ks i a q r) (fun v => v.toInt = 0)) := by
  have hG := kG_self kW0 hI hr
  refine km_ofPI (q := (mi_h11, mi_c11)) rfl (by decide) (Nat.le_of_ble_eq_true rfl) ?_
  intro P hP
  first | refine ft_goL mi_k11 16 26 [(3, .int 0), (2, .int 4), (0, .int 4), (1, .int 3)] [.int (4 * 4), .ref (mi_RO + 3)] (by rfl) ?_ | refine ft_go mi_k11 16 26 [(3, .int 0), (2, .int 4), (0, .int 4), (1, .int 3)] [.int (4 * 4), .ref (mi_RO + 3)] i a q r (by rfl) ?_
  refine ko_top (by decide : (4 * 4 : Int32) = 16) ?_
  first | refine fo_goS mi_k11 fz11_26_2_28 [.int (16 + 3), .ref (mi_RO + 3)] (by rfl) ?_ | refine ft_go mi_k11 2 28 [(3, .int 0), (2, .int 4), (0, .int 4), (1, .int 3)] [.int (16 + 3), .ref (mi_RO + 3)] i a q r (by rfl) ?_
  refine ko_top (by decide : (16 + 3 : Int32) = 19) ?_
  refine ft_ro mi_k11 (w := 0) (by decide +kernel) (by decide +kernel) ?_
  first | refine ft_goS mi_k11 3 38 [.int 4, .ref (mi_RO + 4)] (by rfl) ?_ | refine ft_go mi_k11 3 38 [(3, .int 0), (2, .int 4), (0, .int 4), (1, .int 3)] [.int 4, .ref (mi_RO + 4)] i a q r (by rfl) ?_
  refine ft_ro mi_k11 (w := 1) (by decide +kernel) (by decide +kernel) ?_
  first | refine fo_goL mi_k11 fz11_39_2_43 [(3, .int (0 + 1)), (2, .int 1), (0, .int 4), (1, .int 3)] [] (by rfl) ?_ | refine ft_go mi_k11 2 43 [(3, .int (0 + 1)), (2, .int 1), (0, .int 4), (1, .int 3)] [] i a q r (by rfl) ?_
  refine ko_loc (by decide : (0 + 1 : Int32) = 1) ?_
  first | refine ft_goL mi_k11 13 26 [(3, .int 1), (2, .int 1), (0, .int 4), (1, .int 3)] [.int (1 * 4), .ref (mi_RO + 3)] (by rfl) ?_ | refine ft_goS mi_k11 13 26 [.int (1 * 4), .ref (mi_RO + 3)] (by rfl) ?_ | refine ft_go mi_k11 13 26 [(3, .int 1), (2, .int 1), (0, .int 4), (1, .int 3)] [.int (1 * 4), .ref (mi_RO + 3)] i a q r (by rfl) ?_
  refine ko_top (by decide : (1 * 4 : Int32) = 4) ?_
  first | refine fo_goS mi_k11 fz11_26_2_28 [.int (4 + 3), .ref (mi_RO + 3)] (by rfl) ?_ | refine ft_go mi_k11 2 28 [(3, .int 1), (2, .int 1), (0, .int 4), (1, .int 3)] [.int (4 + 3), .ref (mi_RO + 3)] i a q r (by rfl) ?_
  refine ko_top (by decide : (4 + 3 : Int32) = 7) ?_
  refine ft_ro mi_k11 (w := 0) (by decide +kernel) (by decide +kernel) ?_
  first | refine ft_goS mi_k11 3 38 [.int 1, .ref (mi_RO + 4)] (by rfl) ?_ | refine ft_go mi_k11 3 38 [(3, .int 1), (2, .int 1), (0, .int 4), (1, .int 3)] [.int 1, .ref (mi_RO + 4)] i a q r (by rfl) ?_
  refine ft_ro mi_k11 (w := 0) (by decide +kernel) (by decide +kernel) ?_
  first | refine fo_goL mi_k11 fz11_39_2_43 [(3, .int (1 + 1)), (2, .int 0), (0, .int 4), (1, .int 3)] [] (by rfl) ?_ | refine ft_go mi_k11 2 43 [(3, .int (1 + 1)), (2, .int 0), (0, .int 4), (1, .int 3)] [] i a q r (by rfl) ?_
  refine ko_loc (by decide : (1 + 1 : Int32) = 2) ?_
  first | refine ft_goL mi_k11 7 47 [(3, .int 2), (2, .int 0), (0, .int 4), (1, .int 3)] [.int 0] (by rfl) ?_ | refine ft_goS mi_k11 7 47 [.int 0] (by rfl) ?_ | refine ft_go mi_k11 7 47 [(3, .int 2), (2, .int 0), (0, .int 4), (1, .int 3)] [.int 0] i a q r (by rfl) ?_
  exact ft_ret mi_k11 (by rfl) (hP 0 (oz236 kn0))
def w14_94_l13_K4 : kW := ([6019], [96], [], [])
set_option maxRecDepth 100000 in
theorem kc14_94_l13_K4 {i : Nat → Int32} {a : Nat → List Int32} {q : Nat → List Int64} {r : Nat → Nat} (hI : kI i a q) (hr : kr r) (x1 : Int32) (x3 : Int32) (x4 : Int32) (hp0 : ((0 : Int) ≤ x1.toInt) ∧ (x1.toInt ≤ 49)) (hp1 : ((a 95).getD x1.toNatClampNeg 0).toInt = 4) (hp2 : ((0 : Int) ≤ x4.toInt) ∧ ((x4.toInt + 3) ≤ 39)) (hp3 : ((0 : Int) ≤ (i 6019).toInt) ∧ (((i 6019).toInt + 7) ≤ 900)) : km 11 14 [.ref 94, .int x1, .int 3, .int x3, .int x4] (ks i a q r) (kVI w14_94_l13_K4 i a q r (fun v i1 a1 q1 r1 => (i1 6019).toInt = ((i 6019).toInt + 7))) := by
  have hG := kG_self w14_94_l13_K4 hI hr
  refine km_ofI (q := (mi_h14, mi_c14)) rfl (by decide) (Nat.le_of_ble_eq_true rfl) ?_
  intro P hP
  have r1 : ((0 : Int) ≤ ((a 95).getD x1.toNatClampNeg 0).toInt) ∧ (((a 95).getD x1.toNatClampNeg 0).toInt ≤ 7) := hG.I.2.2.1 95 (x1.toNatClampNeg)
  have fi_6019 : ((0 : Int) ≤ (i 6019).toInt) ∧ ((i 6019).toInt ≤ 1000) := hG.I.1 6019
  first | refine fo_goL mi_k14 fz14_0_3_5 [(0, .ref 94), (1, .int x1), (2, .int 3), (3, .int x3), (4, .int x4)] [.int x1, .ref 95] (by rfl) ?_ | refine ft_go mi_k14 3 5 [(0, .ref 94), (1, .int x1), (2, .int 3), (3, .int x3), (4, .int x4)] [.int x1, .ref 95] i a q r (by rfl) ?_
  refine ko_iald3 mi_k14.1 (n := 50) (c := 50) (ax := (0, 0, 0, 0, 0)) (mi_k14.2 _ _ (by rfl)) (by rfl) (ksG95 _ _ _ _) (hG.I.2.1 95) rfl (oz3 hp0.1) (oz1336 hp0.2) ?_
  refine ko_top (kj_eq (oz1446 hp1) (by decide) : ((a 95).getD x1.toNatClampNeg 0) = 4) ?_
  first | refine ft_goL mi_k14 9 66 [(5, .int 4), (0, .ref 94), (1, .int x1), (2, .int 3), (3, .int x3), (4, .int x4)] [.int x4, .int x3, .int 1, .int 4, .int x1, .ref 94] (by rfl) ?_ | refine ft_go mi_k14 9 66 [(5, .int 4), (0, .ref 94), (1, .int x1), (2, .int 3), (3, .int x3), (4, .int x4)] [.int x4, .int x3, .int 1, .int 4, .int x1, .ref 94] i a q r (by rfl) ?_
  refine ko_callI mi_k14.1 (pc := 66) (ls := [(5, .int 4), (0, .ref 94), (1, .int x1), (2, .int 3), (3, .int x3), (4, .int x4)]) (st := [.int x4, .int x3, .int 1, .int 4, .int x1, .ref 94]) (h := ks i a q r) (i := (.invokevirtual 35, 3, 13, 0, 9, 0, 297)) (mi_k14.2 _ _ (by rfl)) (ft_invS mi_pq13 (by rfl)) (cy := mi_c13) mi_pq13 rfl (kc13_94_l14_l21_K4 hG.I hG.R x1 x3 x4 (oz1339 hp0.1 hp0.2) (oz1446 hp1) (oz1396 hp2.1 hp2.2) (oz1460 fi_6019.1 hp3.2)) (by decide) ?_
  intro vg2 ig2 ag2 qg2 rg2 kg2 hg2
  have hGg2 := kG_call hG kg2 (by decide +kernel)
  have fig2_6019 : ((0 : Int) ≤ (ig2 6019).toInt) ∧ ((ig2 6019).toInt ≤ 1000) := hGg2.I.1 6019
  have z3 : (ig2 6019).toInt = ((i 6019).toInt + 3) := hg2
  first | refine fo_goL mi_k14 fz14_69_8_81 [(6, .int vg2), (5, .int 4), (0, .ref 94), (1, .int x1), (2, .int 3), (3, .int x3), (4, .int x4)] [.int x4, .int 1, .int 2, .int 4, .int x1, .ref 94, .int vg2] (by rfl) ?_ | refine ft_go mi_k14 8 81 [(6, .int vg2), (5, .int 4), (0, .ref 94), (1, .int x1), (2, .int 3), (3, .int x3), (4, .int x4)] [.int x4, .int 1, .int 2, .int 4, .int x1, .ref 94, .int vg2] ig2 ag2 qg2 rg2 (by rfl) ?_
  have r4 : ((0 : Int) ≤ ((ag2 95).getD x1.toNatClampNeg 0).toInt) ∧ (((ag2 95).getD x1.toNatClampNeg 0).toInt ≤ 7) := hGg2.I.2.2.1 95 (x1.toNatClampNeg)
  have u5 : ((ag2 95).getD x1.toNatClampNeg 0).toInt = ((a 95).getD x1.toNatClampNeg 0).toInt := congrArg (fun z : List Int32 => (z.getD x1.toNatClampNeg 0).toInt) (kg2.fa 95 rfl)
  refine ko_callI mi_k14.1 (pc := 81) (ls := [(6, .int vg2), (5, .int 4), (0, .ref 94), (1, .int x1), (2, .int 3), (3, .int x3), (4, .int x4)]) (st := [.int x4, .int 1, .int 2, .int 4, .int x1, .ref 94, .int vg2]) (h := ks ig2 ag2 qg2 rg2) (i := (.invokevirtual 35, 3, 13, 0, 9, 0, 297)) (mi_k14.2 _ _ (by rfl)) (ft_invS mi_pq13 (by rfl)) (cy := mi_c13) mi_pq13 rfl (kc13_94_l14_l22_K4 hGg2.I hGg2.R x1 1 x4 (oz1339 hp0.1 hp0.2) (oz1447 hp1 u5) (oz1396 hp2.1 hp2.2) (oz1461 fig2_6019.1 hp3.2 z3)) (by decide) ?_
  intro vg6 ig6 ag6 qg6 rg6 kg6 hg6
  have hGg6 := kG_call hGg2 kg6 (by decide +kernel)
  have z7 : (ig6 6019).toInt = ((ig2 6019).toInt + 4) := hg6
  have b8 : ((-2147483648 : Int) ≤ vg2.toInt) ∧ (vg2.toInt ≤ 2147483647) := kd_bd vg2
  have b9 : ((-2147483648 : Int) ≤ vg6.toInt) ∧ (vg6.toInt ≤ 2147483647) := kd_bd vg6
  first | refine fo_goS mi_k14 fz14_84_1_85 [.int (vg2 - vg6)] (by rfl) ?_ | refine ft_go mi_k14 1 85 [(6, .int vg2), (5, .int 4), (0, .ref 94), (1, .int x1), (2, .int 3), (3, .int x3), (4, .int x4)] [.int (vg2 - vg6)] ig6 ag6 qg6 rg6 (by rfl) ?_
  exact ft_ret mi_k14 (by rfl) (hP (vg2 - vg6) _ _ _ _ hGg6 (oz1462 z3 z7))
def w13_94_l14_l23_K4 : kW := ([6019], [96], [], [])
set_option maxRecDepth 100000 in
theorem kc13_94_l14_l23_K4 {i : Nat → Int32} {a : Nat → List Int32} {q : Nat → List Int64} {r : Nat → Nat} (hI : kI i a q) (hr : kr r) (x1 : Int32) (x4 : Int32) (x5 : Int32) (hp0 : ((0 : Int) ≤ x1.toInt) ∧ (x1.toInt ≤ 49)) (hp1 : ((a 95).getD x1.toNatClampNeg 0).toInt = 4) (hp2 : ((0 : Int) ≤ x5.toInt) ∧ ((x5.toInt + 4) ≤ 39)) (hp3 : ((0 : Int) ≤ (i 6019).toInt) ∧ (((i 6019).toInt + 8) ≤ 900)) : km 13 13 [.ref 94, .int x1, .int 4, .int 3, .int x4, .int x5] (ks i a q r) (kVI w13_94_l14_l23_K4 i a q r (fun v i1 a1 q1 r1 => (i1 6019).toInt = ((i 6019).toInt + 8))) := by
  have hG := kG_self w13_94_l14_l23_K4 hI hr
  refine km_ofI (q := (mi_h13, mi_c13)) rfl (by decide) (Nat.le_of_ble_eq_true rfl) ?_
  intro P hP
  have r1 : ((0 : Int) ≤ ((a 95).getD x1.toNatClampNeg 0).toInt) ∧ (((a 95).getD x1.toNatClampNeg 0).toInt ≤ 7) := hG.I.2.2.1 95 (x1.toNatClampNeg)
  have fi_6019 : ((0 : Int) ≤ (i 6019).toInt) ∧ ((i 6019).toInt ≤ 1000) := hG.I.1 6019
  first | refine fo_goL mi_k13 fz13_0_2_4 [(0, .ref 94), (1, .int x1), (2, .int 4), (3, .int 3), (4, .int x4), (5, .int x5)] [.int 40, .int x5] (by rfl) ?_ | refine ft_go mi_k13 2 4 [(0, .ref 94), (1, .int x1), (2, .int 4), (3, .int 3), (4, .int x4), (5, .int x5)] [.int 40, .int x5] i a q r (by rfl) ?_
  refine ft_ifS mi_k13 (decide (x5 < 40)) 9 7 [] (by rfl) (fun c => ?_) (fun c => ?_)
  ·
    have c2 : x5.toInt < (40 : Int32).toInt := kd_lt c; clear c
    first | refine fo_goS mi_k13 fz13_9_2_11 [.int 3, .int 4] (by rfl) ?_ | refine ft_go mi_k13 2 11 [(0, .ref 94), (1, .int x1), (2, .int 4), (3, .int 3), (4, .int x4), (5, .int x5)] [.int 3, .int 4] i a q r (by rfl) ?_
    refine ko_callPI mi_k13.1 (pc := 11) (ls := [(0, .ref 94), (1, .int x1), (2, .int 4), (3, .int 3), (4, .int x4), (5, .int x5)]) (st := [.int 3, .int 4]) (h := ks i a q r) (i := (.invokestatic 39, 3, 11, 0, 9, 0, 298)) (mi_k13.2 _ _ (by rfl)) (ft_invS mi_pq11 (by rfl)) (cy := mi_c11) mi_pq11 rfl (kc11_l04_l13 hG.I hG.R ) (by decide) ?_
    intro vg3 hg3
    have z4 : vg3.toInt = 0 := hg3
    have evvg3 := kj_eq (oz236 z4) (by decide : (0 : Int32).toInt = 0)
    subst evvg3
    first | refine ft_goL mi_k13 5 23 [(6, .int 0), (0, .ref 94), (1, .int x1), (2, .int 4), (3, .int 3), (4, .int x4), (5, .int x5)] [.int (0 * 4), .ref (mi_RO + 3)] (by rfl) ?_ | refine ft_go mi_k13 5 23 [(6, .int 0), (0, .ref 94), (1, .int x1), (2, .int 4), (3, .int 3), (4, .int x4), (5, .int x5)] [.int (0 * 4), .ref (mi_RO + 3)] i a q r (by rfl) ?_
    refine ko_top (by decide : (0 * 4 : Int32) = 0) ?_
    first | refine fo_goS mi_k13 fz13_23_2_25 [.int (0 + 3), .ref (mi_RO + 3)] (by rfl) ?_ | refine ft_go mi_k13 2 25 [(6, .int 0), (0, .ref 94), (1, .int x1), (2, .int 4), (3, .int 3), (4, .int x4), (5, .int x5)] [.int (0 + 3), .ref (mi_RO + 3)] i a q r (by rfl) ?_
    refine ko_top (by decide : (0 + 3 : Int32) = 3) ?_
    refine ft_ro mi_k13 (w := 2) (by decide +kernel) (by decide +kernel) ?_
    first | refine fo_goL mi_k13 fz13_26_4_34 [(7, .int 2), (6, .int 0), (0, .ref 94), (1, .int x1), (2, .int 4), (3, .int 3), (4, .int x4), (5, .int x5)] [.int 24, .int (i 6019)] (by rfl) ?_ | refine ft_go mi_k13 4 34 [(7, .int 2), (6, .int 0), (0, .ref 94), (1, .int x1), (2, .int 4), (3, .int 3), (4, .int x4), (5, .int x5)] [.int 24, .int (i 6019)] i a q r (by rfl) ?_
    refine ft_ifS mi_k13 (decide (24 ≤ (i 6019))) 48 37 [] (by rfl) (fun c => ?_) (fun c => ?_)
    ·
      have c6 : (24 : Int32).toInt ≤ (i 6019).toInt := kd_le c; clear c
      have s7 : ((i 6019) + 1).toInt = (i 6019).toInt + (1 : Int32).toInt := kd_add (oz1332 c6 kn24 kn1) (oz951 fi_6019.2 kn1)
      have hJ8 := kG_i hG 6019 rfl (v := ((i 6019) + 1)) ⟨(oz1333 c6 s7 kn24 kn1), (oz1459 hp3.2 s7 kn1)⟩
      have s9 : (x5 + 1).toInt = x5.toInt + (1 : Int32).toInt := kd_add (oz12 hp2.1 kn1) (oz1395 hp2.2 kn1)
      first | refine fo_goI mi_k13 fz13_48_15_72 [.int (x5 + 1), .int x4, .int 3, .int x1, .ref 94] (ku i 6019 ((i 6019) + 1)) (by rfl) ?_ | refine ft_go mi_k13 15 72 [(7, .int 2), (6, .int 0), (0, .ref 94), (1, .int x1), (2, .int 4), (3, .int 3), (4, .int x4), (5, .int x5)] [.int (x5 + 1), .int x4, .int 3, .int x1, .ref 94] (ku i 6019 ((i 6019) + 1)) a q r (by rfl) ?_
      refine ko_callI mi_k13.1 (pc := 72) (ls := [(7, .int 2), (6, .int 0), (0, .ref 94), (1, .int x1), (2, .int 4), (3, .int 3), (4, .int x4), (5, .int x5)]) (st := [.int (x5 + 1), .int x4, .int 3, .int x1, .ref 94]) (h := ks (ku i 6019 ((i 6019) + 1)) a q r) (i := (.invokevirtual 43, 3, 14, 0, 9, 0, 301)) (mi_k13.2 _ _ (by rfl)) (ft_invS mi_pq14 (by rfl)) (cy := mi_c14) mi_pq14 rfl (kc14_94_l13_K4 hJ8.I hJ8.R x1 x4 (x5 + 1) (oz1339 hp0.1 hp0.2) (oz1446 hp1) (oz1401 hp2.1 hp2.2 s9 kn1) (oz1463 c6 hp3.2 s7 kn24 kn1)) (by decide) ?_
      intro vg10 ig10 ag10 qg10 rg10 kg10 hg10
      have hGg10 := kG_call hJ8 kg10 (by decide +kernel)
      have z11 : (ig10 6019).toInt = (((i 6019) + 1).toInt + 7) := hg10
      exact ft_ret mi_k13 (by rfl) (hP vg10 _ _ _ _ hGg10 (oz1464 s7 z11 kn1))
    ·
      have c12 : (i 6019).toInt < (24 : Int32).toInt := kd_leF c; clear c
      first | refine fo_goS mi_k13 fz13_37_5_47 [.int 2, .int (i 6019), .ref 96] (by rfl) ?_ | refine ft_go mi_k13 5 47 [(7, .int 2), (6, .int 0), (0, .ref 94), (1, .int x1), (2, .int 4), (3, .int 3), (4, .int x4), (5, .int x5)] [.int 2, .int (i 6019), .ref 96] i a q r (by rfl) ?_
      refine ko_iast3 mi_k13.1 (n := 24) (c := 24) (ax := (0, 0, 0, 0, 0)) (mi_k13.2 _ _ (by rfl)) (by rfl) (ksG96 _ _ _ _) (ksA96 _ _ _ _) (hG.I.2.1 96) rfl (oz3 fi_6019.1) (oz1343 c12 kn24) ?_
      intro a13 ea13 fa13
      have hJ13 := kG_a3 hG 96 rfl ea13 fa13 (kd_bd _)
      have s14 : ((i 6019) + 1).toInt = (i 6019).toInt + (1 : Int32).toInt := kd_add (oz12 fi_6019.1 kn1) (oz951 fi_6019.2 kn1)
      have hJ15 := kG_i hJ13 6019 rfl (v := ((i 6019) + 1)) ⟨(oz14 fi_6019.1 s14 kn1), (oz1459 hp3.2 s14 kn1)⟩
      have s16 : (x5 + 1).toInt = x5.toInt + (1 : Int32).toInt := kd_add (oz12 hp2.1 kn1) (oz1395 hp2.2 kn1)
      first | refine fo_goI mi_k13 fz13_48_15_72 [.int (x5 + 1), .int x4, .int 3, .int x1, .ref 94] (ku i 6019 ((i 6019) + 1)) (by rfl) ?_ | refine ft_go mi_k13 15 72 [(7, .int 2), (6, .int 0), (0, .ref 94), (1, .int x1), (2, .int 4), (3, .int 3), (4, .int x4), (5, .int x5)] [.int (x5 + 1), .int x4, .int 3, .int x1, .ref 94] (ku i 6019 ((i 6019) + 1)) a13 q r (by rfl) ?_
      have r17 : ((0 : Int) ≤ ((a13 95).getD x1.toNatClampNeg 0).toInt) ∧ (((a13 95).getD x1.toNatClampNeg 0).toInt ≤ 7) := hJ15.I.2.2.1 95 (x1.toNatClampNeg)
      have u18 : ((a13 95).getD x1.toNatClampNeg 0).toInt = ((a 95).getD x1.toNatClampNeg 0).toInt := congrArg (fun z : List Int32 => (z.getD x1.toNatClampNeg 0).toInt) (fa13 95 (by decide))
      refine ko_callI mi_k13.1 (pc := 72) (ls := [(7, .int 2), (6, .int 0), (0, .ref 94), (1, .int x1), (2, .int 4), (3, .int 3), (4, .int x4), (5, .int x5)]) (st := [.int (x5 + 1), .int x4, .int 3, .int x1, .ref 94]) (h := ks (ku i 6019 ((i 6019) + 1)) a13 q r) (i := (.invokevirtual 43, 3, 14, 0, 9, 0, 301)) (mi_k13.2 _ _ (by rfl)) (ft_invS mi_pq14 (by rfl)) (cy := mi_c14) mi_pq14 rfl (kc14_94_l13_K4 hJ15.I hJ15.R x1 x4 (x5 + 1) (oz1339 hp0.1 hp0.2) (oz1447 hp1 u18) (oz1401 hp2.1 hp2.2 s16 kn1) (oz1465 fi_6019.1 hp3.2 s14 kn1)) (by decide) ?_
      intro vg19 ig19 ag19 qg19 rg19 kg19 hg19
      have hGg19 := kG_call hJ15 kg19 (by decide +kernel)
      have z20 : (ig19 6019).toInt = (((i 6019) + 1).toInt + 7) := hg19
      exact ft_ret mi_k13 (by rfl) (hP vg19 _ _ _ _ hGg19 (oz1464 s14 z20 kn1))
  ·
    have c21 : (40 : Int32).toInt ≤ x5.toInt := kd_ltF c; clear c
    exact (oz1405 c21 hp2.2 kn40).elim
set_option maxRecDepth 100000 in
theorem kc11_l05_l10 {i : Nat → Int32} {a : Nat → List Int32} {q : Nat → List Int64} {r : Nat → Nat} (hI : kI i a q) (hr : kr r)  : km 1 11 [.int 5, .int 0] (ks i a q r) (kPI (ks i a q r) (fun v => v.toInt = 0)) := by
  have hG := kG_self kW0 hI hr
  refine km_ofPI (q := (mi_h11, mi_c11)) rfl (by decide) (Nat.le_of_ble_eq_true rfl) ?_
  intro P hP
  first | refine ft_goL mi_k11 16 26 [(3, .int 0), (2, .int 5), (0, .int 5), (1, .int 0)] [.int (5 * 4), .ref (mi_RO + 3)] (by rfl) ?_ | refine ft_go mi_k11 16 26 [(3, .int 0), (2, .int 5), (0, .int 5), (1, .int 0)] [.int (5 * 4), .ref (mi_RO + 3)] i a q r (by rfl) ?_
  refine ko_top (by decide : (5 * 4 : Int32) = 20) ?_
  first | refine fo_goS mi_k11 fz11_26_2_28 [.int (20 + 0), .ref (mi_RO + 3)] (by rfl) ?_ | refine ft_go mi_k11 2 28 [(3, .int 0), (2, .int 5), (0, .int 5), (1, .int 0)] [.int (20 + 0), .ref (mi_RO + 3)] i a q r (by rfl) ?_
  refine ko_top (by decide : (20 + 0 : Int32) = 20) ?_
  refine ft_ro mi_k11 (w := 0) (by decide +kernel) (by decide +kernel) ?_
  first | refine ft_goS mi_k11 3 38 [.int 5, .ref (mi_RO + 4)] (by rfl) ?_ | refine ft_go mi_k11 3 38 [(3, .int 0), (2, .int 5), (0, .int 5), (1, .int 0)] [.int 5, .ref (mi_RO + 4)] i a q r (by rfl) ?_
  refine ft_ro mi_k11 (w := 3) (by decide +kernel) (by decide +kernel) ?_
  first | refine fo_goL mi_k11 fz11_39_2_43 [(3, .int (0 + 1)), (2, .int 3), (0, .int 5), (1, .int 0)] [] (by rfl) ?_ | refine ft_go mi_k11 2 43 [(3, .int (0 + 1)), (2, .int 3), (0, .int 5), (1, .int 0)] [] i a q r (by rfl) ?_
  refine ko_loc (by decide : (0 + 1 : Int32) = 1) ?_
  first | refine ft_goL mi_k11 13 26 [(3, .int 1), (2, .int 3), (0, .int 5), (1, .int 0)] [.int (3 * 4), .ref (mi_RO + 3)] (by rfl) ?_ | refine ft_goS mi_k11 13 26 [.int (3 * 4), .ref (mi_RO + 3)] (by rfl) ?_ | refine ft_go mi_k11 13 26 [(3, .int 1), (2, .int 3), (0, .int 5), (1, .int 0)] [.int (3 * 4), .ref (mi_RO + 3)] i a q r (by rfl) ?_
  refine ko_top (by decide : (3 * 4 : Int32) = 12) ?_
  first | refine fo_goS mi_k11 fz11_26_2_28 [.int (12 + 0), .ref (mi_RO + 3)] (by rfl) ?_ | refine ft_go mi_k11 2 28 [(3, .int 1), (2, .int 3), (0, .int 5), (1, .int 0)] [.int (12 + 0), .ref (mi_RO + 3)] i a q r (by rfl) ?_
  refine ko_top (by decide : (12 + 0 : Int32) = 12) ?_
  refine ft_ro mi_k11 (w := 0) (by decide +kernel) (by decide +kernel) ?_
  first | refine ft_goS mi_k11 3 38 [.int 3, .ref (mi_RO + 4)] (by rfl) ?_ | refine ft_go mi_k11 3 38 [(3, .int 1), (2, .int 3), (0, .int 5), (1, .int 0)] [.int 3, .ref (mi_RO + 4)] i a q r (by rfl) ?_
  refine ft_ro mi_k11 (w := 2) (by decide +kernel) (by decide +kernel) ?_
  first | refine fo_goL mi_k11 fz11_39_2_43 [(3, .int (1 + 1)), (2, .int 2), (0, .int 5), (1, .int 0)] [] (by rfl) ?_ | refine ft_go mi_k11 2 43 [(3, .int (1 + 1)), (2, .int 2), (0, .int 5), (1, .int 0)] [] i a q r (by rfl) ?_
  refine ko_loc (by decide : (1 + 1 : Int32) = 2) ?_
  first | refine ft_goL mi_k11 13 26 [(3, .int 2), (2, .int 2), (0, .int 5), (1, .int 0)] [.int (2 * 4), .ref (mi_RO + 3)] (by rfl) ?_ | refine ft_goS mi_k11 13 26 [.int (2 * 4), .ref (mi_RO + 3)] (by rfl) ?_ | refine ft_go mi_k11 13 26 [(3, .int 2), (2, .int 2), (0, .int 5), (1, .int 0)] [.int (2 * 4), .ref (mi_RO + 3)] i a q r (by rfl) ?_
  refine ko_top (by decide : (2 * 4 : Int32) = 8) ?_
  first | refine fo_goS mi_k11 fz11_26_2_28 [.int (8 + 0), .ref (mi_RO + 3)] (by rfl) ?_ | refine ft_go mi_k11 2 28 [(3, .int 2), (2, .int 2), (0, .int 5), (1, .int 0)] [.int (8 + 0), .ref (mi_RO + 3)] i a q r (by rfl) ?_
  refine ko_top (by decide : (8 + 0 : Int32) = 8) ?_
  refine ft_ro mi_k11 (w := 0) (by decide +kernel) (by decide +kernel) ?_
  first | refine ft_goS mi_k11 3 38 [.int 2, .ref (mi_RO + 4)] (by rfl) ?_ | refine ft_go mi_k11 3 38 [(3, .int 2), (2, .int 2), (0, .int 5), (1, .int 0)] [.int 2, .ref (mi_RO + 4)] i a q r (by rfl) ?_
  refine ft_ro mi_k11 (w := 0) (by decide +kernel) (by decide +kernel) ?_
  first | refine fo_goL mi_k11 fz11_39_2_43 [(3, .int (2 + 1)), (2, .int 0), (0, .int 5), (1, .int 0)] [] (by rfl) ?_ | refine ft_go mi_k11 2 43 [(3, .int (2 + 1)), (2, .int 0), (0, .int 5), (1, .int 0)] [] i a q r (by rfl) ?_
  refine ko_loc (by decide : (2 + 1 : Int32) = 3) ?_
  first | refine ft_goL mi_k11 7 47 [(3, .int 3), (2, .int 0), (0, .int 5), (1, .int 0)] [.int 0] (by rfl) ?_ | refine ft_goS mi_k11 7 47 [.int 0] (by rfl) ?_ | refine ft_go mi_k11 7 47 [(3, .int 3), (2, .int 0), (0, .int 5), (1, .int 0)] [.int 0] i a q r (by rfl) ?_
  exact ft_ret mi_k11 (by rfl) (hP 0 (oz236 kn0))
def w14_94_l10_K5 : kW := ([], [], [], [])
set_option maxRecDepth 100000 in
theorem kc14_94_l10_K5 {i : Nat → Int32} {a : Nat → List Int32} {q : Nat → List Int64} {r : Nat → Nat} (hI : kI i a q) (hr : kr r) (x1 : Int32) (x3 : Int32) (x4 : Int32) (hp0 : ((0 : Int) ≤ x1.toInt) ∧ (x1.toInt ≤ 49)) (hp1 : ((a 95).getD x1.toNatClampNeg 0).toInt = 5) (hp2 : ((0 : Int) ≤ x4.toInt) ∧ ((x4.toInt + 0) ≤ 39)) (hp3 : ((0 : Int) ≤ (i 6019).toInt) ∧ (((i 6019).toInt + 0) ≤ 900)) : km 1 14 [.ref 94, .int x1, .int 0, .int x3, .int x4] (ks i a q r) (kVI w14_94_l10_K5 i a q r (fun v i1 a1 q1 r1 => (i1 6019).toInt = ((i 6019).toInt + 0))) := by
  have hG := kG_self w14_94_l10_K5 hI hr
  refine km_ofI (q := (mi_h14, mi_c14)) rfl (by decide) (Nat.le_of_ble_eq_true rfl) ?_
  intro P hP
  have r1 : ((0 : Int) ≤ ((a 95).getD x1.toNatClampNeg 0).toInt) ∧ (((a 95).getD x1.toNatClampNeg 0).toInt ≤ 7) := hG.I.2.2.1 95 (x1.toNatClampNeg)
  first | refine fo_goL mi_k14 fz14_0_3_5 [(0, .ref 94), (1, .int x1), (2, .int 0), (3, .int x3), (4, .int x4)] [.int x1, .ref 95] (by rfl) ?_ | refine ft_go mi_k14 3 5 [(0, .ref 94), (1, .int x1), (2, .int 0), (3, .int x3), (4, .int x4)] [.int x1, .ref 95] i a q r (by rfl) ?_
  refine ko_iald3 mi_k14.1 (n := 50) (c := 50) (ax := (0, 0, 0, 0, 0)) (mi_k14.2 _ _ (by rfl)) (by rfl) (ksG95 _ _ _ _) (hG.I.2.1 95) rfl (oz3 hp0.1) (oz1336 hp0.2) ?_
  refine ko_top (kj_eq (oz1470 hp1) (by decide) : ((a 95).getD x1.toNatClampNeg 0) = 5) ?_
  have b2 : ((-2147483648 : Int) ≤ x3.toInt) ∧ (x3.toInt ≤ 2147483647) := kd_bd x3
  have b3 : ((-2147483648 : Int) ≤ x1.toInt) ∧ (x1.toInt ≤ 2147483647) := kd_bd x1
  first | refine ft_goL mi_k14 6 39 [(5, .int 5), (0, .ref 94), (1, .int x1), (2, .int 0), (3, .int x3), (4, .int x4)] [.int (x3 + x1)] (by rfl) ?_ | refine ft_go mi_k14 6 39 [(5, .int 5), (0, .ref 94), (1, .int x1), (2, .int 0), (3, .int x3), (4, .int x4)] [.int (x3 + x1)] i a q r (by rfl) ?_
  exact ft_ret mi_k14 (by rfl) (hP (x3 + x1) _ _ _ _ hG oz1338)
def w13_94_l15_l20_K5 : kW := ([6019], [96], [], [])
set_option maxRecDepth 100000 in
theorem kc13_94_l15_l20_K5 {i : Nat → Int32} {a : Nat → List Int32} {q : Nat → List Int64} {r : Nat → Nat} (hI : kI i a q) (hr : kr r) (x1 : Int32) (x4 : Int32) (x5 : Int32) (hp0 : ((0 : Int) ≤ x1.toInt) ∧ (x1.toInt ≤ 49)) (hp1 : ((a 95).getD x1.toNatClampNeg 0).toInt = 5) (hp2 : ((0 : Int) ≤ x5.toInt) ∧ ((x5.toInt + 1) ≤ 39)) (hp3 : ((0 : Int) ≤ (i 6019).toInt) ∧ (((i 6019).toInt + 1) ≤ 900)) : km 3 13 [.ref 94, .int x1, .int 5, .int 0, .int x4, .int x5] (ks i a q r) (kVI w13_94_l15_l20_K5 i a q r (fun v i1 a1 q1 r1 => (i1 6019).toInt = ((i 6019).toInt + 1))) := by
  have hG := kG_self w13_94_l15_l20_K5 hI hr
  refine km_ofI (q := (mi_h13, mi_c13)) rfl (by decide) (Nat.le_of_ble_eq_true rfl) ?_
  intro P hP
  have r1 : ((0 : Int) ≤ ((a 95).getD x1.toNatClampNeg 0).toInt) ∧ (((a 95).getD x1.toNatClampNeg 0).toInt ≤ 7) := hG.I.2.2.1 95 (x1.toNatClampNeg)
  have fi_6019 : ((0 : Int) ≤ (i 6019).toInt) ∧ ((i 6019).toInt ≤ 1000) := hG.I.1 6019
  first | refine fo_goL mi_k13 fz13_0_2_4 [(0, .ref 94), (1, .int x1), (2, .int 5), (3, .int 0), (4, .int x4), (5, .int x5)] [.int 40, .int x5] (by rfl) ?_ | refine ft_go mi_k13 2 4 [(0, .ref 94), (1, .int x1), (2, .int 5), (3, .int 0), (4, .int x4), (5, .int x5)] [.int 40, .int x5] i a q r (by rfl) ?_
  refine ft_ifS mi_k13 (decide (x5 < 40)) 9 7 [] (by rfl) (fun c => ?_) (fun c => ?_)
  ·
    have c2 : x5.toInt < (40 : Int32).toInt := kd_lt c; clear c
    first | refine fo_goS mi_k13 fz13_9_2_11 [.int 0, .int 5] (by rfl) ?_ | refine ft_go mi_k13 2 11 [(0, .ref 94), (1, .int x1), (2, .int 5), (3, .int 0), (4, .int x4), (5, .int x5)] [.int 0, .int 5] i a q r (by rfl) ?_
    refine ko_callPI mi_k13.1 (pc := 11) (ls := [(0, .ref 94), (1, .int x1), (2, .int 5), (3, .int 0), (4, .int x4), (5, .int x5)]) (st := [.int 0, .int 5]) (h := ks i a q r) (i := (.invokestatic 39, 3, 11, 0, 9, 0, 298)) (mi_k13.2 _ _ (by rfl)) (ft_invS mi_pq11 (by rfl)) (cy := mi_c11) mi_pq11 rfl (kc11_l05_l10 hG.I hG.R ) (by decide) ?_
    intro vg3 hg3
    have z4 : vg3.toInt = 0 := hg3
    have evvg3 := kj_eq (oz236 z4) (by decide : (0 : Int32).toInt = 0)
    subst evvg3
    first | refine ft_goL mi_k13 5 23 [(6, .int 0), (0, .ref 94), (1, .int x1), (2, .int 5), (3, .int 0), (4, .int x4), (5, .int x5)] [.int (0 * 4), .ref (mi_RO + 3)] (by rfl) ?_ | refine ft_go mi_k13 5 23 [(6, .int 0), (0, .ref 94), (1, .int x1), (2, .int 5), (3, .int 0), (4, .int x4), (5, .int x5)] [.int (0 * 4), .ref (mi_RO + 3)] i a q r (by rfl) ?_
    refine ko_top (by decide : (0 * 4 : Int32) = 0) ?_
    first | refine fo_goS mi_k13 fz13_23_2_25 [.int (0 + 0), .ref (mi_RO + 3)] (by rfl) ?_ | refine ft_go mi_k13 2 25 [(6, .int 0), (0, .ref 94), (1, .int x1), (2, .int 5), (3, .int 0), (4, .int x4), (5, .int x5)] [.int (0 + 0), .ref (mi_RO + 3)] i a q r (by rfl) ?_
    refine ko_top (by decide : (0 + 0 : Int32) = 0) ?_
    refine ft_ro mi_k13 (w := 1) (by decide +kernel) (by decide +kernel) ?_
    first | refine fo_goL mi_k13 fz13_26_4_34 [(7, .int 1), (6, .int 0), (0, .ref 94), (1, .int x1), (2, .int 5), (3, .int 0), (4, .int x4), (5, .int x5)] [.int 24, .int (i 6019)] (by rfl) ?_ | refine ft_go mi_k13 4 34 [(7, .int 1), (6, .int 0), (0, .ref 94), (1, .int x1), (2, .int 5), (3, .int 0), (4, .int x4), (5, .int x5)] [.int 24, .int (i 6019)] i a q r (by rfl) ?_
    refine ft_ifS mi_k13 (decide (24 ≤ (i 6019))) 48 37 [] (by rfl) (fun c => ?_) (fun c => ?_)
    ·
      have c6 : (24 : Int32).toInt ≤ (i 6019).toInt := kd_le c; clear c
      have s7 : ((i 6019) + 1).toInt = (i 6019).toInt + (1 : Int32).toInt := kd_add (oz1332 c6 kn24 kn1) (oz951 fi_6019.2 kn1)
      have hJ8 := kG_i hG 6019 rfl (v := ((i 6019) + 1)) ⟨(oz1333 c6 s7 kn24 kn1), (oz1334 hp3.2 s7 kn1)⟩
      have s9 : (x5 + 1).toInt = x5.toInt + (1 : Int32).toInt := kd_add (oz12 hp2.1 kn1) (oz1335 hp2.2 kn1)
      first | refine fo_goI mi_k13 fz13_48_15_72 [.int (x5 + 1), .int x4, .int 0, .int x1, .ref 94] (ku i 6019 ((i 6019) + 1)) (by rfl) ?_ | refine ft_go mi_k13 15 72 [(7, .int 1), (6, .int 0), (0, .ref 94), (1, .int x1), (2, .int 5), (3, .int 0), (4, .int x4), (5, .int x5)] [.int (x5 + 1), .int x4, .int 0, .int x1, .ref 94] (ku i 6019 ((i 6019) + 1)) a q r (by rfl) ?_
      refine ko_callI mi_k13.1 (pc := 72) (ls := [(7, .int 1), (6, .int 0), (0, .ref 94), (1, .int x1), (2, .int 5), (3, .int 0), (4, .int x4), (5, .int x5)]) (st := [.int (x5 + 1), .int x4, .int 0, .int x1, .ref 94]) (h := ks (ku i 6019 ((i 6019) + 1)) a q r) (i := (.invokevirtual 43, 3, 14, 0, 9, 0, 301)) (mi_k13.2 _ _ (by rfl)) (ft_invS mi_pq14 (by rfl)) (cy := mi_c14) mi_pq14 rfl (kc14_94_l10_K5 hJ8.I hJ8.R x1 x4 (x5 + 1) (oz1339 hp0.1 hp0.2) (oz1470 hp1) (oz1340 hp2.1 hp2.2 s9 kn1) (oz1341 c6 hp3.2 s7 kn24 kn1)) (by decide) ?_
      intro vg10 ig10 ag10 qg10 rg10 kg10 hg10
      have hGg10 := kG_call hJ8 kg10 (by decide +kernel)
      have efig10_6019 : (ig10 6019).toInt = ((i 6019) + 1).toInt := kg10.ti 6019 rfl
      exact ft_ret mi_k13 (by rfl) (hP vg10 _ _ _ _ hGg10 (oz1342 efig10_6019 s7 kn1))
    ·
      have c12 : (i 6019).toInt < (24 : Int32).toInt := kd_leF c; clear c
      first | refine fo_goS mi_k13 fz13_37_5_47 [.int 1, .int (i 6019), .ref 96] (by rfl) ?_ | refine ft_go mi_k13 5 47 [(7, .int 1), (6, .int 0), (0, .ref 94), (1, .int x1), (2, .int 5), (3, .int 0), (4, .int x4), (5, .int x5)] [.int 1, .int (i 6019), .ref 96] i a q r (by rfl) ?_
      refine ko_iast3 mi_k13.1 (n := 24) (c := 24) (ax := (0, 0, 0, 0, 0)) (mi_k13.2 _ _ (by rfl)) (by rfl) (ksG96 _ _ _ _) (ksA96 _ _ _ _) (hG.I.2.1 96) rfl (oz3 fi_6019.1) (oz1343 c12 kn24) ?_
      intro a13 ea13 fa13
      have hJ13 := kG_a3 hG 96 rfl ea13 fa13 (kd_bd _)
      have s14 : ((i 6019) + 1).toInt = (i 6019).toInt + (1 : Int32).toInt := kd_add (oz12 fi_6019.1 kn1) (oz951 fi_6019.2 kn1)
      have hJ15 := kG_i hJ13 6019 rfl (v := ((i 6019) + 1)) ⟨(oz14 fi_6019.1 s14 kn1), (oz1334 hp3.2 s14 kn1)⟩
      have s16 : (x5 + 1).toInt = x5.toInt + (1 : Int32).toInt := kd_add (oz12 hp2.1 kn1) (oz1335 hp2.2 kn1)
      first | refine fo_goI mi_k13 fz13_48_15_72 [.int (x5 + 1), .int x4, .int 0, .int x1, .ref 94] (ku i 6019 ((i 6019) + 1)) (by rfl) ?_ | refine ft_go mi_k13 15 72 [(7, .int 1), (6, .int 0), (0, .ref 94), (1, .int x1), (2, .int 5), (3, .int 0), (4, .int x4), (5, .int x5)] [.int (x5 + 1), .int x4, .int 0, .int x1, .ref 94] (ku i 6019 ((i 6019) + 1)) a13 q r (by rfl) ?_
      have r17 : ((0 : Int) ≤ ((a13 95).getD x1.toNatClampNeg 0).toInt) ∧ (((a13 95).getD x1.toNatClampNeg 0).toInt ≤ 7) := hJ15.I.2.2.1 95 (x1.toNatClampNeg)
      have u18 : ((a13 95).getD x1.toNatClampNeg 0).toInt = ((a 95).getD x1.toNatClampNeg 0).toInt := congrArg (fun z : List Int32 => (z.getD x1.toNatClampNeg 0).toInt) (fa13 95 (by decide))
      refine ko_callI mi_k13.1 (pc := 72) (ls := [(7, .int 1), (6, .int 0), (0, .ref 94), (1, .int x1), (2, .int 5), (3, .int 0), (4, .int x4), (5, .int x5)]) (st := [.int (x5 + 1), .int x4, .int 0, .int x1, .ref 94]) (h := ks (ku i 6019 ((i 6019) + 1)) a13 q r) (i := (.invokevirtual 43, 3, 14, 0, 9, 0, 301)) (mi_k13.2 _ _ (by rfl)) (ft_invS mi_pq14 (by rfl)) (cy := mi_c14) mi_pq14 rfl (kc14_94_l10_K5 hJ15.I hJ15.R x1 x4 (x5 + 1) (oz1339 hp0.1 hp0.2) (oz1471 hp1 u18) (oz1340 hp2.1 hp2.2 s16 kn1) (oz1345 fi_6019.1 hp3.2 s14 kn1)) (by decide) ?_
      intro vg19 ig19 ag19 qg19 rg19 kg19 hg19
      have hGg19 := kG_call hJ15 kg19 (by decide +kernel)
      have efig19_6019 : (ig19 6019).toInt = ((i 6019) + 1).toInt := kg19.ti 6019 rfl
      exact ft_ret mi_k13 (by rfl) (hP vg19 _ _ _ _ hGg19 (oz1342 efig19_6019 s14 kn1))
  ·
    have c21 : (40 : Int32).toInt ≤ x5.toInt := kd_ltF c; clear c
    exact (oz1346 c21 hp2.2 kn40).elim
set_option maxRecDepth 100000 in
theorem kc11_l05_l11 {i : Nat → Int32} {a : Nat → List Int32} {q : Nat → List Int64} {r : Nat → Nat} (hI : kI i a q) (hr : kr r)  : km 1 11 [.int 5, .int 1] (ks i a q r) (kPI (ks i a q r) (fun v => v.toInt = 3)) := by
  have hG := kG_self kW0 hI hr
  refine km_ofPI (q := (mi_h11, mi_c11)) rfl (by decide) (Nat.le_of_ble_eq_true rfl) ?_
  intro P hP
  first | refine ft_goL mi_k11 16 26 [(3, .int 0), (2, .int 5), (0, .int 5), (1, .int 1)] [.int (5 * 4), .ref (mi_RO + 3)] (by rfl) ?_ | refine ft_go mi_k11 16 26 [(3, .int 0), (2, .int 5), (0, .int 5), (1, .int 1)] [.int (5 * 4), .ref (mi_RO + 3)] i a q r (by rfl) ?_
  refine ko_top (by decide : (5 * 4 : Int32) = 20) ?_
  first | refine fo_goS mi_k11 fz11_26_2_28 [.int (20 + 1), .ref (mi_RO + 3)] (by rfl) ?_ | refine ft_go mi_k11 2 28 [(3, .int 0), (2, .int 5), (0, .int 5), (1, .int 1)] [.int (20 + 1), .ref (mi_RO + 3)] i a q r (by rfl) ?_
  refine ko_top (by decide : (20 + 1 : Int32) = 21) ?_
  refine ft_ro mi_k11 (w := 0) (by decide +kernel) (by decide +kernel) ?_
  first | refine ft_goS mi_k11 3 38 [.int 5, .ref (mi_RO + 4)] (by rfl) ?_ | refine ft_go mi_k11 3 38 [(3, .int 0), (2, .int 5), (0, .int 5), (1, .int 1)] [.int 5, .ref (mi_RO + 4)] i a q r (by rfl) ?_
  refine ft_ro mi_k11 (w := 3) (by decide +kernel) (by decide +kernel) ?_
  first | refine fo_goL mi_k11 fz11_39_2_43 [(3, .int (0 + 1)), (2, .int 3), (0, .int 5), (1, .int 1)] [] (by rfl) ?_ | refine ft_go mi_k11 2 43 [(3, .int (0 + 1)), (2, .int 3), (0, .int 5), (1, .int 1)] [] i a q r (by rfl) ?_
  refine ko_loc (by decide : (0 + 1 : Int32) = 1) ?_
  first | refine ft_goL mi_k11 13 26 [(3, .int 1), (2, .int 3), (0, .int 5), (1, .int 1)] [.int (3 * 4), .ref (mi_RO + 3)] (by rfl) ?_ | refine ft_goS mi_k11 13 26 [.int (3 * 4), .ref (mi_RO + 3)] (by rfl) ?_ | refine ft_go mi_k11 13 26 [(3, .int 1), (2, .int 3), (0, .int 5), (1, .int 1)] [.int (3 * 4), .ref (mi_RO + 3)] i a q r (by rfl) ?_
  refine ko_top (by decide : (3 * 4 : Int32) = 12) ?_
  first | refine fo_goS mi_k11 fz11_26_2_28 [.int (12 + 1), .ref (mi_RO + 3)] (by rfl) ?_ | refine ft_go mi_k11 2 28 [(3, .int 1), (2, .int 3), (0, .int 5), (1, .int 1)] [.int (12 + 1), .ref (mi_RO + 3)] i a q r (by rfl) ?_
  refine ko_top (by decide : (12 + 1 : Int32) = 13) ?_
  refine ft_ro mi_k11 (w := 41) (by decide +kernel) (by decide +kernel) ?_
  first | refine fo_goS mi_k11 fz11_29_2_33 [.int 3] (by rfl) ?_ | refine ft_go mi_k11 2 33 [(3, .int 1), (2, .int 3), (0, .int 5), (1, .int 1)] [.int 3] i a q r (by rfl) ?_
  exact ft_ret mi_k11 (by rfl) (hP 3 (oz1421 kn3))
def w14_94_l11_K5 : kW := ([6019], [96], [], [])
set_option maxRecDepth 100000 in
theorem kc14_94_l11_K5 {i : Nat → Int32} {a : Nat → List Int32} {q : Nat → List Int64} {r : Nat → Nat} (hI : kI i a q) (hr : kr r) (x1 : Int32) (x3 : Int32) (x4 : Int32) (hp0 : ((0 : Int) ≤ x1.toInt) ∧ (x1.toInt ≤ 49)) (hp1 : ((a 95).getD x1.toNatClampNeg 0).toInt = 5) (hp2 : ((0 : Int) ≤ x4.toInt) ∧ ((x4.toInt + 1) ≤ 39)) (hp3 : ((0 : Int) ≤ (i 6019).toInt) ∧ (((i 6019).toInt + 1) ≤ 900)) : km 5 14 [.ref 94, .int x1, .int 1, .int x3, .int x4] (ks i a q r) (kVI w14_94_l11_K5 i a q r (fun v i1 a1 q1 r1 => (i1 6019).toInt = ((i 6019).toInt + 1))) := by
  have hG := kG_self w14_94_l11_K5 hI hr
  refine km_ofI (q := (mi_h14, mi_c14)) rfl (by decide) (Nat.le_of_ble_eq_true rfl) ?_
  intro P hP
  have r1 : ((0 : Int) ≤ ((a 95).getD x1.toNatClampNeg 0).toInt) ∧ (((a 95).getD x1.toNatClampNeg 0).toInt ≤ 7) := hG.I.2.2.1 95 (x1.toNatClampNeg)
  have fi_6019 : ((0 : Int) ≤ (i 6019).toInt) ∧ ((i 6019).toInt ≤ 1000) := hG.I.1 6019
  first | refine fo_goL mi_k14 fz14_0_3_5 [(0, .ref 94), (1, .int x1), (2, .int 1), (3, .int x3), (4, .int x4)] [.int x1, .ref 95] (by rfl) ?_ | refine ft_go mi_k14 3 5 [(0, .ref 94), (1, .int x1), (2, .int 1), (3, .int x3), (4, .int x4)] [.int x1, .ref 95] i a q r (by rfl) ?_
  refine ko_iald3 mi_k14.1 (n := 50) (c := 50) (ax := (0, 0, 0, 0, 0)) (mi_k14.2 _ _ (by rfl)) (by rfl) (ksG95 _ _ _ _) (hG.I.2.1 95) rfl (oz3 hp0.1) (oz1336 hp0.2) ?_
  refine ko_top (kj_eq (oz1470 hp1) (by decide) : ((a 95).getD x1.toNatClampNeg 0) = 5) ?_
  first | refine ft_goL mi_k14 9 48 [(5, .int 5), (0, .ref 94), (1, .int x1), (2, .int 1), (3, .int x3), (4, .int x4)] [.int x4, .int x3, .int 0, .int 5, .int x1, .ref 94] (by rfl) ?_ | refine ft_go mi_k14 9 48 [(5, .int 5), (0, .ref 94), (1, .int x1), (2, .int 1), (3, .int x3), (4, .int x4)] [.int x4, .int x3, .int 0, .int 5, .int x1, .ref 94] i a q r (by rfl) ?_
  refine ko_callI mi_k14.1 (pc := 48) (ls := [(5, .int 5), (0, .ref 94), (1, .int x1), (2, .int 1), (3, .int x3), (4, .int x4)]) (st := [.int x4, .int x3, .int 0, .int 5, .int x1, .ref 94]) (h := ks i a q r) (i := (.invokevirtual 35, 3, 13, 0, 9, 0, 297)) (mi_k14.2 _ _ (by rfl)) (ft_invS mi_pq13 (by rfl)) (cy := mi_c13) mi_pq13 rfl (kc13_94_l15_l20_K5 hG.I hG.R x1 x3 x4 (oz1339 hp0.1 hp0.2) (oz1470 hp1) (oz1353 hp2.1 hp2.2) (oz1354 fi_6019.1 hp3.2)) (by decide) ?_
  intro vg2 ig2 ag2 qg2 rg2 kg2 hg2
  have hGg2 := kG_call hG kg2 (by decide +kernel)
  have z3 : (ig2 6019).toInt = ((i 6019).toInt + 1) := hg2
  have b4 : ((-2147483648 : Int) ≤ vg2.toInt) ∧ (vg2.toInt ≤ 2147483647) := kd_bd vg2
  first | refine fo_goS mi_k14 fz14_51_2_53 [.int (vg2 * 2)] (by rfl) ?_ | refine ft_go mi_k14 2 53 [(5, .int 5), (0, .ref 94), (1, .int x1), (2, .int 1), (3, .int x3), (4, .int x4)] [.int (vg2 * 2)] ig2 ag2 qg2 rg2 (by rfl) ?_
  exact ft_ret mi_k14 (by rfl) (hP (vg2 * 2) _ _ _ _ hGg2 (oz1355 z3))
def w13_94_l10_l21_K5 : kW := ([6019], [96], [], [])
set_option maxRecDepth 100000 in
theorem kc13_94_l10_l21_K5 {i : Nat → Int32} {a : Nat → List Int32} {q : Nat → List Int64} {r : Nat → Nat} (hI : kI i a q) (hr : kr r) (x1 : Int32) (x4 : Int32) (x5 : Int32) (hp0 : ((0 : Int) ≤ x1.toInt) ∧ (x1.toInt ≤ 49)) (hp1 : ((a 95).getD x1.toNatClampNeg 0).toInt = 5) (hp2 : ((0 : Int) ≤ x5.toInt) ∧ ((x5.toInt + 2) ≤ 39)) (hp3 : ((0 : Int) ≤ (i 6019).toInt) ∧ (((i 6019).toInt + 2) ≤ 900)) : km 7 13 [.ref 94, .int x1, .int 0, .int 1, .int x4, .int x5] (ks i a q r) (kVI w13_94_l10_l21_K5 i a q r (fun v i1 a1 q1 r1 => (i1 6019).toInt = ((i 6019).toInt + 2))) := by
  have hG := kG_self w13_94_l10_l21_K5 hI hr
  refine km_ofI (q := (mi_h13, mi_c13)) rfl (by decide) (Nat.le_of_ble_eq_true rfl) ?_
  intro P hP
  have r1 : ((0 : Int) ≤ ((a 95).getD x1.toNatClampNeg 0).toInt) ∧ (((a 95).getD x1.toNatClampNeg 0).toInt ≤ 7) := hG.I.2.2.1 95 (x1.toNatClampNeg)
  have fi_6019 : ((0 : Int) ≤ (i 6019).toInt) ∧ ((i 6019).toInt ≤ 1000) := hG.I.1 6019
  first | refine fo_goL mi_k13 fz13_0_2_4 [(0, .ref 94), (1, .int x1), (2, .int 0), (3, .int 1), (4, .int x4), (5, .int x5)] [.int 40, .int x5] (by rfl) ?_ | refine ft_go mi_k13 2 4 [(0, .ref 94), (1, .int x1), (2, .int 0), (3, .int 1), (4, .int x4), (5, .int x5)] [.int 40, .int x5] i a q r (by rfl) ?_
  refine ft_ifS mi_k13 (decide (x5 < 40)) 9 7 [] (by rfl) (fun c => ?_) (fun c => ?_)
  ·
    have c2 : x5.toInt < (40 : Int32).toInt := kd_lt c; clear c
    first | refine fo_goS mi_k13 fz13_9_2_11 [.int 1, .int 0] (by rfl) ?_ | refine ft_go mi_k13 2 11 [(0, .ref 94), (1, .int x1), (2, .int 0), (3, .int 1), (4, .int x4), (5, .int x5)] [.int 1, .int 0] i a q r (by rfl) ?_
    refine ko_callPI mi_k13.1 (pc := 11) (ls := [(0, .ref 94), (1, .int x1), (2, .int 0), (3, .int 1), (4, .int x4), (5, .int x5)]) (st := [.int 1, .int 0]) (h := ks i a q r) (i := (.invokestatic 39, 3, 11, 0, 9, 0, 298)) (mi_k13.2 _ _ (by rfl)) (ft_invS mi_pq11 (by rfl)) (cy := mi_c11) mi_pq11 rfl (kc11_l00_l11 hG.I hG.R ) (by decide) ?_
    intro vg3 hg3
    have z4 : vg3.toInt = 0 := hg3
    have evvg3 := kj_eq (oz236 z4) (by decide : (0 : Int32).toInt = 0)
    subst evvg3
    first | refine ft_goL mi_k13 5 23 [(6, .int 0), (0, .ref 94), (1, .int x1), (2, .int 0), (3, .int 1), (4, .int x4), (5, .int x5)] [.int (0 * 4), .ref (mi_RO + 3)] (by rfl) ?_ | refine ft_go mi_k13 5 23 [(6, .int 0), (0, .ref 94), (1, .int x1), (2, .int 0), (3, .int 1), (4, .int x4), (5, .int x5)] [.int (0 * 4), .ref (mi_RO + 3)] i a q r (by rfl) ?_
    refine ko_top (by decide : (0 * 4 : Int32) = 0) ?_
    first | refine fo_goS mi_k13 fz13_23_2_25 [.int (0 + 1), .ref (mi_RO + 3)] (by rfl) ?_ | refine ft_go mi_k13 2 25 [(6, .int 0), (0, .ref 94), (1, .int x1), (2, .int 0), (3, .int 1), (4, .int x4), (5, .int x5)] [.int (0 + 1), .ref (mi_RO + 3)] i a q r (by rfl) ?_
    refine ko_top (by decide : (0 + 1 : Int32) = 1) ?_
    refine ft_ro mi_k13 (w := 10) (by decide +kernel) (by decide +kernel) ?_
    first | refine fo_goL mi_k13 fz13_26_4_34 [(7, .int 10), (6, .int 0), (0, .ref 94), (1, .int x1), (2, .int 0), (3, .int 1), (4, .int x4), (5, .int x5)] [.int 24, .int (i 6019)] (by rfl) ?_ | refine ft_go mi_k13 4 34 [(7, .int 10), (6, .int 0), (0, .ref 94), (1, .int x1), (2, .int 0), (3, .int 1), (4, .int x4), (5, .int x5)] [.int 24, .int (i 6019)] i a q r (by rfl) ?_
    refine ft_ifS mi_k13 (decide (24 ≤ (i 6019))) 48 37 [] (by rfl) (fun c => ?_) (fun c => ?_)
    ·
      have c6 : (24 : Int32).toInt ≤ (i 6019).toInt := kd_le c; clear c
      have s7 : ((i 6019) + 1).toInt = (i 6019).toInt + (1 : Int32).toInt := kd_add (oz1332 c6 kn24 kn1) (oz951 fi_6019.2 kn1)
      have hJ8 := kG_i hG 6019 rfl (v := ((i 6019) + 1)) ⟨(oz1333 c6 s7 kn24 kn1), (oz1351 hp3.2 s7 kn1)⟩
      have s9 : (x5 + 1).toInt = x5.toInt + (1 : Int32).toInt := kd_add (oz12 hp2.1 kn1) (oz1352 hp2.2 kn1)
      first | refine fo_goI mi_k13 fz13_48_15_72 [.int (x5 + 1), .int x4, .int 1, .int x1, .ref 94] (ku i 6019 ((i 6019) + 1)) (by rfl) ?_ | refine ft_go mi_k13 15 72 [(7, .int 10), (6, .int 0), (0, .ref 94), (1, .int x1), (2, .int 0), (3, .int 1), (4, .int x4), (5, .int x5)] [.int (x5 + 1), .int x4, .int 1, .int x1, .ref 94] (ku i 6019 ((i 6019) + 1)) a q r (by rfl) ?_
      refine ko_callI mi_k13.1 (pc := 72) (ls := [(7, .int 10), (6, .int 0), (0, .ref 94), (1, .int x1), (2, .int 0), (3, .int 1), (4, .int x4), (5, .int x5)]) (st := [.int (x5 + 1), .int x4, .int 1, .int x1, .ref 94]) (h := ks (ku i 6019 ((i 6019) + 1)) a q r) (i := (.invokevirtual 43, 3, 14, 0, 9, 0, 301)) (mi_k13.2 _ _ (by rfl)) (ft_invS mi_pq14 (by rfl)) (cy := mi_c14) mi_pq14 rfl (kc14_94_l11_K5 hJ8.I hJ8.R x1 x4 (x5 + 1) (oz1339 hp0.1 hp0.2) (oz1470 hp1) (oz1356 hp2.1 hp2.2 s9 kn1) (oz1357 c6 hp3.2 s7 kn24 kn1)) (by decide) ?_
      intro vg10 ig10 ag10 qg10 rg10 kg10 hg10
      have hGg10 := kG_call hJ8 kg10 (by decide +kernel)
      have z11 : (ig10 6019).toInt = (((i 6019) + 1).toInt + 1) := hg10
      exact ft_ret mi_k13 (by rfl) (hP vg10 _ _ _ _ hGg10 (oz1358 s7 z11 kn1))
    ·
      have c12 : (i 6019).toInt < (24 : Int32).toInt := kd_leF c; clear c
      first | refine fo_goS mi_k13 fz13_37_5_47 [.int 10, .int (i 6019), .ref 96] (by rfl) ?_ | refine ft_go mi_k13 5 47 [(7, .int 10), (6, .int 0), (0, .ref 94), (1, .int x1), (2, .int 0), (3, .int 1), (4, .int x4), (5, .int x5)] [.int 10, .int (i 6019), .ref 96] i a q r (by rfl) ?_
      refine ko_iast3 mi_k13.1 (n := 24) (c := 24) (ax := (0, 0, 0, 0, 0)) (mi_k13.2 _ _ (by rfl)) (by rfl) (ksG96 _ _ _ _) (ksA96 _ _ _ _) (hG.I.2.1 96) rfl (oz3 fi_6019.1) (oz1343 c12 kn24) ?_
      intro a13 ea13 fa13
      have hJ13 := kG_a3 hG 96 rfl ea13 fa13 (kd_bd _)
      have s14 : ((i 6019) + 1).toInt = (i 6019).toInt + (1 : Int32).toInt := kd_add (oz12 fi_6019.1 kn1) (oz951 fi_6019.2 kn1)
      have hJ15 := kG_i hJ13 6019 rfl (v := ((i 6019) + 1)) ⟨(oz14 fi_6019.1 s14 kn1), (oz1351 hp3.2 s14 kn1)⟩
      have s16 : (x5 + 1).toInt = x5.toInt + (1 : Int32).toInt := kd_add (oz12 hp2.1 kn1) (oz1352 hp2.2 kn1)
      first | refine fo_goI mi_k13 fz13_48_15_72 [.int (x5 + 1), .int x4, .int 1, .int x1, .ref 94] (ku i 6019 ((i 6019) + 1)) (by rfl) ?_ | refine ft_go mi_k13 15 72 [(7, .int 10), (6, .int 0), (0, .ref 94), (1, .int x1), (2, .int 0), (3, .int 1), (4, .int x4), (5, .int x5)] [.int (x5 + 1), .int x4, .int 1, .int x1, .ref 94] (ku i 6019 ((i 6019) + 1)) a13 q r (by rfl) ?_
      have r17 : ((0 : Int) ≤ ((a13 95).getD x1.toNatClampNeg 0).toInt) ∧ (((a13 95).getD x1.toNatClampNeg 0).toInt ≤ 7) := hJ15.I.2.2.1 95 (x1.toNatClampNeg)
      have u18 : ((a13 95).getD x1.toNatClampNeg 0).toInt = ((a 95).getD x1.toNatClampNeg 0).toInt := congrArg (fun z : List Int32 => (z.getD x1.toNatClampNeg 0).toInt) (fa13 95 (by decide))
      refine ko_callI mi_k13.1 (pc := 72) (ls := [(7, .int 10), (6, .int 0), (0, .ref 94), (1, .int x1), (2, .int 0), (3, .int 1), (4, .int x4), (5, .int x5)]) (st := [.int (x5 + 1), .int x4, .int 1, .int x1, .ref 94]) (h := ks (ku i 6019 ((i 6019) + 1)) a13 q r) (i := (.invokevirtual 43, 3, 14, 0, 9, 0, 301)) (mi_k13.2 _ _ (by rfl)) (ft_invS mi_pq14 (by rfl)) (cy := mi_c14) mi_pq14 rfl (kc14_94_l11_K5 hJ15.I hJ15.R x1 x4 (x5 + 1) (oz1339 hp0.1 hp0.2) (oz1471 hp1 u18) (oz1356 hp2.1 hp2.2 s16 kn1) (oz1359 fi_6019.1 hp3.2 s14 kn1)) (by decide) ?_
      intro vg19 ig19 ag19 qg19 rg19 kg19 hg19
      have hGg19 := kG_call hJ15 kg19 (by decide +kernel)
      have z20 : (ig19 6019).toInt = (((i 6019) + 1).toInt + 1) := hg19
      exact ft_ret mi_k13 (by rfl) (hP vg19 _ _ _ _ hGg19 (oz1358 s14 z20 kn1))
  ·
    have c21 : (40 : Int32).toInt ≤ x5.toInt := kd_ltF c; clear c
    exact (oz1360 c21 hp2.2 kn40).elim
def w13_94_l12_l21_K5 : kW := ([6019], [96], [], [])
set_option maxRecDepth 100000 in
theorem kc13_94_l12_l21_K5 {i : Nat → Int32} {a : Nat → List Int32} {q : Nat → List Int64} {r : Nat → Nat} (hI : kI i a q) (hr : kr r) (x1 : Int32) (x4 : Int32) (x5 : Int32) (hp0 : ((0 : Int) ≤ x1.toInt) ∧ (x1.toInt ≤ 49)) (hp1 : ((a 95).getD x1.toNatClampNeg 0).toInt = 5) (hp2 : ((0 : Int) ≤ x5.toInt) ∧ ((x5.toInt + 3) ≤ 39)) (hp3 : ((0 : Int) ≤ (i 6019).toInt) ∧ (((i 6019).toInt + 3) ≤ 900)) : km 9 13 [.ref 94, .int x1, .int 2, .int 1, .int x4, .int x5] (ks i a q r) (kVI w13_94_l12_l21_K5 i a q r (fun v i1 a1 q1 r1 => (i1 6019).toInt = ((i 6019).toInt + 3))) := by
  have hG := kG_self w13_94_l12_l21_K5 hI hr
  refine km_ofI (q := (mi_h13, mi_c13)) rfl (by decide) (Nat.le_of_ble_eq_true rfl) ?_
  intro P hP
  have r1 : ((0 : Int) ≤ ((a 95).getD x1.toNatClampNeg 0).toInt) ∧ (((a 95).getD x1.toNatClampNeg 0).toInt ≤ 7) := hG.I.2.2.1 95 (x1.toNatClampNeg)
  have fi_6019 : ((0 : Int) ≤ (i 6019).toInt) ∧ ((i 6019).toInt ≤ 1000) := hG.I.1 6019
  first | refine fo_goL mi_k13 fz13_0_2_4 [(0, .ref 94), (1, .int x1), (2, .int 2), (3, .int 1), (4, .int x4), (5, .int x5)] [.int 40, .int x5] (by rfl) ?_ | refine ft_go mi_k13 2 4 [(0, .ref 94), (1, .int x1), (2, .int 2), (3, .int 1), (4, .int x4), (5, .int x5)] [.int 40, .int x5] i a q r (by rfl) ?_
  refine ft_ifS mi_k13 (decide (x5 < 40)) 9 7 [] (by rfl) (fun c => ?_) (fun c => ?_)
  ·
    have c2 : x5.toInt < (40 : Int32).toInt := kd_lt c; clear c
    first | refine fo_goS mi_k13 fz13_9_2_11 [.int 1, .int 2] (by rfl) ?_ | refine ft_go mi_k13 2 11 [(0, .ref 94), (1, .int x1), (2, .int 2), (3, .int 1), (4, .int x4), (5, .int x5)] [.int 1, .int 2] i a q r (by rfl) ?_
    refine ko_callPI mi_k13.1 (pc := 11) (ls := [(0, .ref 94), (1, .int x1), (2, .int 2), (3, .int 1), (4, .int x4), (5, .int x5)]) (st := [.int 1, .int 2]) (h := ks i a q r) (i := (.invokestatic 39, 3, 11, 0, 9, 0, 298)) (mi_k13.2 _ _ (by rfl)) (ft_invS mi_pq11 (by rfl)) (cy := mi_c11) mi_pq11 rfl (kc11_l02_l11 hG.I hG.R ) (by decide) ?_
    intro vg3 hg3
    have z4 : vg3.toInt = 2 := hg3
    have evvg3 := kj_eq (oz1411 z4) (by decide : (2 : Int32).toInt = 2)
    subst evvg3
    first | refine ft_goL mi_k13 5 23 [(6, .int 2), (0, .ref 94), (1, .int x1), (2, .int 2), (3, .int 1), (4, .int x4), (5, .int x5)] [.int (2 * 4), .ref (mi_RO + 3)] (by rfl) ?_ | refine ft_go mi_k13 5 23 [(6, .int 2), (0, .ref 94), (1, .int x1), (2, .int 2), (3, .int 1), (4, .int x4), (5, .int x5)] [.int (2 * 4), .ref (mi_RO + 3)] i a q r (by rfl) ?_
    refine ko_top (by decide : (2 * 4 : Int32) = 8) ?_
    first | refine fo_goS mi_k13 fz13_23_2_25 [.int (8 + 1), .ref (mi_RO + 3)] (by rfl) ?_ | refine ft_go mi_k13 2 25 [(6, .int 2), (0, .ref 94), (1, .int x1), (2, .int 2), (3, .int 1), (4, .int x4), (5, .int x5)] [.int (8 + 1), .ref (mi_RO + 3)] i a q r (by rfl) ?_
    refine ko_top (by decide : (8 + 1 : Int32) = 9) ?_
    refine ft_ro mi_k13 (w := 30) (by decide +kernel) (by decide +kernel) ?_
    first | refine fo_goL mi_k13 fz13_26_4_34 [(7, .int 30), (6, .int 2), (0, .ref 94), (1, .int x1), (2, .int 2), (3, .int 1), (4, .int x4), (5, .int x5)] [.int 24, .int (i 6019)] (by rfl) ?_ | refine ft_go mi_k13 4 34 [(7, .int 30), (6, .int 2), (0, .ref 94), (1, .int x1), (2, .int 2), (3, .int 1), (4, .int x4), (5, .int x5)] [.int 24, .int (i 6019)] i a q r (by rfl) ?_
    refine ft_ifS mi_k13 (decide (24 ≤ (i 6019))) 48 37 [] (by rfl) (fun c => ?_) (fun c => ?_)
    ·
      have c6 : (24 : Int32).toInt ≤ (i 6019).toInt := kd_le c; clear c
      have s7 : ((i 6019) + 1).toInt = (i 6019).toInt + (1 : Int32).toInt := kd_add (oz1332 c6 kn24 kn1) (oz951 fi_6019.2 kn1)
      have hJ8 := kG_i hG 6019 rfl (v := ((i 6019) + 1)) ⟨(oz1333 c6 s7 kn24 kn1), (oz1385 hp3.2 s7 kn1)⟩
      first | refine ft_goI mi_k13 12 83 [.int 2, .ref (mi_RO + 4), .int x1, .ref 94] (ku i 6019 ((i 6019) + 1)) (by rfl) ?_ | refine ft_go mi_k13 12 83 [(7, .int 30), (6, .int 2), (0, .ref 94), (1, .int x1), (2, .int 2), (3, .int 1), (4, .int x4), (5, .int x5)] [.int 2, .ref (mi_RO + 4), .int x1, .ref 94] (ku i 6019 ((i 6019) + 1)) a q r (by rfl) ?_
      refine ft_ro mi_k13 (w := 0) (by decide +kernel) (by decide +kernel) ?_
      have s10 : (x5 + 1).toInt = x5.toInt + (1 : Int32).toInt := kd_add (oz12 hp2.1 kn1) (oz1366 hp2.2 kn1)
      first | refine ft_goS mi_k13 8 105 [.int (x5 + 1), .int x4, .int 1, .int 0, .int x1, .ref 94] (by rfl) ?_ | refine ft_go mi_k13 8 105 [(7, .int 30), (6, .int 2), (0, .ref 94), (1, .int x1), (2, .int 2), (3, .int 1), (4, .int x4), (5, .int x5)] [.int (x5 + 1), .int x4, .int 1, .int 0, .int x1, .ref 94] (ku i 6019 ((i 6019) + 1)) a q r (by rfl) ?_
      refine ko_callI mi_k13.1 (pc := 105) (ls := [(7, .int 30), (6, .int 2), (0, .ref 94), (1, .int x1), (2, .int 2), (3, .int 1), (4, .int x4), (5, .int x5)]) (st := [.int (x5 + 1), .int x4, .int 1, .int 0, .int x1, .ref 94]) (h := ks (ku i 6019 ((i 6019) + 1)) a q r) (i := (.invokevirtual 35, 3, 13, 0, 9, 0, 297)) (mi_k13.2 _ _ (by rfl)) (ft_invS mi_pq13 (by rfl)) (cy := mi_c13) mi_pq13 rfl (kc13_94_l10_l21_K5 hJ8.I hJ8.R x1 x4 (x5 + 1) (oz1339 hp0.1 hp0.2) (oz1470 hp1) (oz1372 hp2.1 hp2.2 s10 kn1) (oz1388 c6 hp3.2 s7 kn24 kn1)) (by decide) ?_
      intro vg11 ig11 ag11 qg11 rg11 kg11 hg11
      have hGg11 := kG_call hJ8 kg11 (by decide +kernel)
      have z12 : (ig11 6019).toInt = (((i 6019) + 1).toInt + 2) := hg11
      first | refine ft_goL mi_k13 5 196 [(8, .int vg11), (7, .int 30), (6, .int 2), (0, .ref 94), (1, .int x1), (2, .int 2), (3, .int 1), (4, .int x4), (5, .int x5)] [.int (-vg11)] (by rfl) ?_ | refine ft_go mi_k13 5 196 [(8, .int vg11), (7, .int 30), (6, .int 2), (0, .ref 94), (1, .int x1), (2, .int 2), (3, .int 1), (4, .int x4), (5, .int x5)] [.int (-vg11)] ig11 ag11 qg11 rg11 (by rfl) ?_
      exact ft_ret mi_k13 (by rfl) (hP (-vg11) _ _ _ _ hGg11 (oz1389 s7 z12 kn1))
    ·
      have c13 : (i 6019).toInt < (24 : Int32).toInt := kd_leF c; clear c
      first | refine fo_goS mi_k13 fz13_37_5_47 [.int 30, .int (i 6019), .ref 96] (by rfl) ?_ | refine ft_go mi_k13 5 47 [(7, .int 30), (6, .int 2), (0, .ref 94), (1, .int x1), (2, .int 2), (3, .int 1), (4, .int x4), (5, .int x5)] [.int 30, .int (i 6019), .ref 96] i a q r (by rfl) ?_
      refine ko_iast3 mi_k13.1 (n := 24) (c := 24) (ax := (0, 0, 0, 0, 0)) (mi_k13.2 _ _ (by rfl)) (by rfl) (ksG96 _ _ _ _) (ksA96 _ _ _ _) (hG.I.2.1 96) rfl (oz3 fi_6019.1) (oz1343 c13 kn24) ?_
      intro a14 ea14 fa14
      have hJ14 := kG_a3 hG 96 rfl ea14 fa14 (kd_bd _)
      have s15 : ((i 6019) + 1).toInt = (i 6019).toInt + (1 : Int32).toInt := kd_add (oz12 fi_6019.1 kn1) (oz951 fi_6019.2 kn1)
      have hJ16 := kG_i hJ14 6019 rfl (v := ((i 6019) + 1)) ⟨(oz14 fi_6019.1 s15 kn1), (oz1385 hp3.2 s15 kn1)⟩
      first | refine ft_goI mi_k13 12 83 [.int 2, .ref (mi_RO + 4), .int x1, .ref 94] (ku i 6019 ((i 6019) + 1)) (by rfl) ?_ | refine ft_go mi_k13 12 83 [(7, .int 30), (6, .int 2), (0, .ref 94), (1, .int x1), (2, .int 2), (3, .int 1), (4, .int x4), (5, .int x5)] [.int 2, .ref (mi_RO + 4), .int x1, .ref 94] (ku i 6019 ((i 6019) + 1)) a14 q r (by rfl) ?_
      refine ft_ro mi_k13 (w := 0) (by decide +kernel) (by decide +kernel) ?_
      have s18 : (x5 + 1).toInt = x5.toInt + (1 : Int32).toInt := kd_add (oz12 hp2.1 kn1) (oz1366 hp2.2 kn1)
      first | refine ft_goS mi_k13 8 105 [.int (x5 + 1), .int x4, .int 1, .int 0, .int x1, .ref 94] (by rfl) ?_ | refine ft_go mi_k13 8 105 [(7, .int 30), (6, .int 2), (0, .ref 94), (1, .int x1), (2, .int 2), (3, .int 1), (4, .int x4), (5, .int x5)] [.int (x5 + 1), .int x4, .int 1, .int 0, .int x1, .ref 94] (ku i 6019 ((i 6019) + 1)) a14 q r (by rfl) ?_
      have r19 : ((0 : Int) ≤ ((a14 95).getD x1.toNatClampNeg 0).toInt) ∧ (((a14 95).getD x1.toNatClampNeg 0).toInt ≤ 7) := hJ16.I.2.2.1 95 (x1.toNatClampNeg)
      have u20 : ((a14 95).getD x1.toNatClampNeg 0).toInt = ((a 95).getD x1.toNatClampNeg 0).toInt := congrArg (fun z : List Int32 => (z.getD x1.toNatClampNeg 0).toInt) (fa14 95 (by decide))
      refine ko_callI mi_k13.1 (pc := 105) (ls := [(7, .int 30), (6, .int 2), (0, .ref 94), (1, .int x1), (2, .int 2), (3, .int 1), (4, .int x4), (5, .int x5)]) (st := [.int (x5 + 1), .int x4, .int 1, .int 0, .int x1, .ref 94]) (h := ks (ku i 6019 ((i 6019) + 1)) a14 q r) (i := (.invokevirtual 35, 3, 13, 0, 9, 0, 297)) (mi_k13.2 _ _ (by rfl)) (ft_invS mi_pq13 (by rfl)) (cy := mi_c13) mi_pq13 rfl (kc13_94_l10_l21_K5 hJ16.I hJ16.R x1 x4 (x5 + 1) (oz1339 hp0.1 hp0.2) (oz1471 hp1 u20) (oz1372 hp2.1 hp2.2 s18 kn1) (oz1390 fi_6019.1 hp3.2 s15 kn1)) (by decide) ?_
      intro vg21 ig21 ag21 qg21 rg21 kg21 hg21
      have hGg21 := kG_call hJ16 kg21 (by decide +kernel)
      have z22 : (ig21 6019).toInt = (((i 6019) + 1).toInt + 2) := hg21
      first | refine ft_goL mi_k13 5 196 [(8, .int vg21), (7, .int 30), (6, .int 2), (0, .ref 94), (1, .int x1), (2, .int 2), (3, .int 1), (4, .int x4), (5, .int x5)] [.int (-vg21)] (by rfl) ?_ | refine ft_go mi_k13 5 196 [(8, .int vg21), (7, .int 30), (6, .int 2), (0, .ref 94), (1, .int x1), (2, .int 2), (3, .int 1), (4, .int x4), (5, .int x5)] [.int (-vg21)] ig21 ag21 qg21 rg21 (by rfl) ?_
      exact ft_ret mi_k13 (by rfl) (hP (-vg21) _ _ _ _ hGg21 (oz1389 s15 z22 kn1))
  ·
    have c23 : (40 : Int32).toInt ≤ x5.toInt := kd_ltF c; clear c
    exact (oz1376 c23 hp2.2 kn40).elim
def w13_94_l15_l21_K5 : kW := ([6019], [96], [], [])
set_option maxRecDepth 100000 in
theorem kc13_94_l15_l21_K5 {i : Nat → Int32} {a : Nat → List Int32} {q : Nat → List Int64} {r : Nat → Nat} (hI : kI i a q) (hr : kr r) (x1 : Int32) (x4 : Int32) (x5 : Int32) (hp0 : ((0 : Int) ≤ x1.toInt) ∧ (x1.toInt ≤ 49)) (hp1 : ((a 95).getD x1.toNatClampNeg 0).toInt = 5) (hp2 : ((0 : Int) ≤ x5.toInt) ∧ ((x5.toInt + 4) ≤ 39)) (hp3 : ((0 : Int) ≤ (i 6019).toInt) ∧ (((i 6019).toInt + 4) ≤ 900)) : km 11 13 [.ref 94, .int x1, .int 5, .int 1, .int x4, .int x5] (ks i a q r) (kVI w13_94_l15_l21_K5 i a q r (fun v i1 a1 q1 r1 => (i1 6019).toInt = ((i 6019).toInt + 4))) := by
  have hG := kG_self w13_94_l15_l21_K5 hI hr
  refine km_ofI (q := (mi_h13, mi_c13)) rfl (by decide) (Nat.le_of_ble_eq_true rfl) ?_
  intro P hP
  have r1 : ((0 : Int) ≤ ((a 95).getD x1.toNatClampNeg 0).toInt) ∧ (((a 95).getD x1.toNatClampNeg 0).toInt ≤ 7) := hG.I.2.2.1 95 (x1.toNatClampNeg)
  have fi_6019 : ((0 : Int) ≤ (i 6019).toInt) ∧ ((i 6019).toInt ≤ 1000) := hG.I.1 6019
  first | refine fo_goL mi_k13 fz13_0_2_4 [(0, .ref 94), (1, .int x1), (2, .int 5), (3, .int 1), (4, .int x4), (5, .int x5)] [.int 40, .int x5] (by rfl) ?_ | refine ft_go mi_k13 2 4 [(0, .ref 94), (1, .int x1), (2, .int 5), (3, .int 1), (4, .int x4), (5, .int x5)] [.int 40, .int x5] i a q r (by rfl) ?_
  refine ft_ifS mi_k13 (decide (x5 < 40)) 9 7 [] (by rfl) (fun c => ?_) (fun c => ?_)
  ·
    have c2 : x5.toInt < (40 : Int32).toInt := kd_lt c; clear c
    first | refine fo_goS mi_k13 fz13_9_2_11 [.int 1, .int 5] (by rfl) ?_ | refine ft_go mi_k13 2 11 [(0, .ref 94), (1, .int x1), (2, .int 5), (3, .int 1), (4, .int x4), (5, .int x5)] [.int 1, .int 5] i a q r (by rfl) ?_
    refine ko_callPI mi_k13.1 (pc := 11) (ls := [(0, .ref 94), (1, .int x1), (2, .int 5), (3, .int 1), (4, .int x4), (5, .int x5)]) (st := [.int 1, .int 5]) (h := ks i a q r) (i := (.invokestatic 39, 3, 11, 0, 9, 0, 298)) (mi_k13.2 _ _ (by rfl)) (ft_invS mi_pq11 (by rfl)) (cy := mi_c11) mi_pq11 rfl (kc11_l05_l11 hG.I hG.R ) (by decide) ?_
    intro vg3 hg3
    have z4 : vg3.toInt = 3 := hg3
    have evvg3 := kj_eq (oz1421 z4) (by decide : (3 : Int32).toInt = 3)
    subst evvg3
    first | refine ft_goL mi_k13 5 23 [(6, .int 3), (0, .ref 94), (1, .int x1), (2, .int 5), (3, .int 1), (4, .int x4), (5, .int x5)] [.int (3 * 4), .ref (mi_RO + 3)] (by rfl) ?_ | refine ft_go mi_k13 5 23 [(6, .int 3), (0, .ref 94), (1, .int x1), (2, .int 5), (3, .int 1), (4, .int x4), (5, .int x5)] [.int (3 * 4), .ref (mi_RO + 3)] i a q r (by rfl) ?_
    refine ko_top (by decide : (3 * 4 : Int32) = 12) ?_
    first | refine fo_goS mi_k13 fz13_23_2_25 [.int (12 + 1), .ref (mi_RO + 3)] (by rfl) ?_ | refine ft_go mi_k13 2 25 [(6, .int 3), (0, .ref 94), (1, .int x1), (2, .int 5), (3, .int 1), (4, .int x4), (5, .int x5)] [.int (12 + 1), .ref (mi_RO + 3)] i a q r (by rfl) ?_
    refine ko_top (by decide : (12 + 1 : Int32) = 13) ?_
    refine ft_ro mi_k13 (w := 41) (by decide +kernel) (by decide +kernel) ?_
    first | refine fo_goL mi_k13 fz13_26_4_34 [(7, .int 41), (6, .int 3), (0, .ref 94), (1, .int x1), (2, .int 5), (3, .int 1), (4, .int x4), (5, .int x5)] [.int 24, .int (i 6019)] (by rfl) ?_ | refine ft_go mi_k13 4 34 [(7, .int 41), (6, .int 3), (0, .ref 94), (1, .int x1), (2, .int 5), (3, .int 1), (4, .int x4), (5, .int x5)] [.int 24, .int (i 6019)] i a q r (by rfl) ?_
    refine ft_ifS mi_k13 (decide (24 ≤ (i 6019))) 48 37 [] (by rfl) (fun c => ?_) (fun c => ?_)
    ·
      have c6 : (24 : Int32).toInt ≤ (i 6019).toInt := kd_le c; clear c
      have s7 : ((i 6019) + 1).toInt = (i 6019).toInt + (1 : Int32).toInt := kd_add (oz1332 c6 kn24 kn1) (oz951 fi_6019.2 kn1)
      have hJ8 := kG_i hG 6019 rfl (v := ((i 6019) + 1)) ⟨(oz1333 c6 s7 kn24 kn1), (oz1365 hp3.2 s7 kn1)⟩
      first | refine ft_goI mi_k13 12 83 [.int 3, .ref (mi_RO + 4), .int x1, .ref 94] (ku i 6019 ((i 6019) + 1)) (by rfl) ?_ | refine ft_go mi_k13 12 83 [(7, .int 41), (6, .int 3), (0, .ref 94), (1, .int x1), (2, .int 5), (3, .int 1), (4, .int x4), (5, .int x5)] [.int 3, .ref (mi_RO + 4), .int x1, .ref 94] (ku i 6019 ((i 6019) + 1)) a q r (by rfl) ?_
      refine ft_ro mi_k13 (w := 2) (by decide +kernel) (by decide +kernel) ?_
      have b10 : ((-2147483648 : Int) ≤ x4.toInt) ∧ (x4.toInt ≤ 2147483647) := kd_bd x4
      have s11 : (x5 + 1).toInt = x5.toInt + (1 : Int32).toInt := kd_add (oz12 hp2.1 kn1) (oz1395 hp2.2 kn1)
      first | refine ft_goS mi_k13 11 105 [.int (x5 + 1), .int (x4 + 1), .int 1, .int 2, .int x1, .ref 94] (by rfl) ?_ | refine ft_go mi_k13 11 105 [(7, .int 41), (6, .int 3), (0, .ref 94), (1, .int x1), (2, .int 5), (3, .int 1), (4, .int x4), (5, .int x5)] [.int (x5 + 1), .int (x4 + 1), .int 1, .int 2, .int x1, .ref 94] (ku i 6019 ((i 6019) + 1)) a q r (by rfl) ?_
      refine ko_callI mi_k13.1 (pc := 105) (ls := [(7, .int 41), (6, .int 3), (0, .ref 94), (1, .int x1), (2, .int 5), (3, .int 1), (4, .int x4), (5, .int x5)]) (st := [.int (x5 + 1), .int (x4 + 1), .int 1, .int 2, .int x1, .ref 94]) (h := ks (ku i 6019 ((i 6019) + 1)) a q r) (i := (.invokevirtual 35, 3, 13, 0, 9, 0, 297)) (mi_k13.2 _ _ (by rfl)) (ft_invS mi_pq13 (by rfl)) (cy := mi_c13) mi_pq13 rfl (kc13_94_l12_l21_K5 hJ8.I hJ8.R x1 (x4 + 1) (x5 + 1) (oz1339 hp0.1 hp0.2) (oz1470 hp1) (oz1401 hp2.1 hp2.2 s11 kn1) (oz1373 c6 hp3.2 s7 kn24 kn1)) (by decide) ?_
      intro vg12 ig12 ag12 qg12 rg12 kg12 hg12
      have hGg12 := kG_call hJ8 kg12 (by decide +kernel)
      have z13 : (ig12 6019).toInt = (((i 6019) + 1).toInt + 3) := hg12
      first | refine ft_goL mi_k13 4 261 [(8, .int vg12), (7, .int 41), (6, .int 3), (0, .ref 94), (1, .int x1), (2, .int 5), (3, .int 1), (4, .int x4), (5, .int x5)] [.int vg12] (by rfl) ?_ | refine ft_go mi_k13 4 261 [(8, .int vg12), (7, .int 41), (6, .int 3), (0, .ref 94), (1, .int x1), (2, .int 5), (3, .int 1), (4, .int x4), (5, .int x5)] [.int vg12] ig12 ag12 qg12 rg12 (by rfl) ?_
      exact ft_ret mi_k13 (by rfl) (hP vg12 _ _ _ _ hGg12 (oz1374 s7 z13 kn1))
    ·
      have c14 : (i 6019).toInt < (24 : Int32).toInt := kd_leF c; clear c
      first | refine fo_goS mi_k13 fz13_37_5_47 [.int 41, .int (i 6019), .ref 96] (by rfl) ?_ | refine ft_go mi_k13 5 47 [(7, .int 41), (6, .int 3), (0, .ref 94), (1, .int x1), (2, .int 5), (3, .int 1), (4, .int x4), (5, .int x5)] [.int 41, .int (i 6019), .ref 96] i a q r (by rfl) ?_
      refine ko_iast3 mi_k13.1 (n := 24) (c := 24) (ax := (0, 0, 0, 0, 0)) (mi_k13.2 _ _ (by rfl)) (by rfl) (ksG96 _ _ _ _) (ksA96 _ _ _ _) (hG.I.2.1 96) rfl (oz3 fi_6019.1) (oz1343 c14 kn24) ?_
      intro a15 ea15 fa15
      have hJ15 := kG_a3 hG 96 rfl ea15 fa15 (kd_bd _)
      have s16 : ((i 6019) + 1).toInt = (i 6019).toInt + (1 : Int32).toInt := kd_add (oz12 fi_6019.1 kn1) (oz951 fi_6019.2 kn1)
      have hJ17 := kG_i hJ15 6019 rfl (v := ((i 6019) + 1)) ⟨(oz14 fi_6019.1 s16 kn1), (oz1365 hp3.2 s16 kn1)⟩
      first | refine ft_goI mi_k13 12 83 [.int 3, .ref (mi_RO + 4), .int x1, .ref 94] (ku i 6019 ((i 6019) + 1)) (by rfl) ?_ | refine ft_go mi_k13 12 83 [(7, .int 41), (6, .int 3), (0, .ref 94), (1, .int x1), (2, .int 5), (3, .int 1), (4, .int x4), (5, .int x5)] [.int 3, .ref (mi_RO + 4), .int x1, .ref 94] (ku i 6019 ((i 6019) + 1)) a15 q r (by rfl) ?_
      refine ft_ro mi_k13 (w := 2) (by decide +kernel) (by decide +kernel) ?_
      have b19 : ((-2147483648 : Int) ≤ x4.toInt) ∧ (x4.toInt ≤ 2147483647) := kd_bd x4
      have s20 : (x5 + 1).toInt = x5.toInt + (1 : Int32).toInt := kd_add (oz12 hp2.1 kn1) (oz1395 hp2.2 kn1)
      first | refine ft_goS mi_k13 11 105 [.int (x5 + 1), .int (x4 + 1), .int 1, .int 2, .int x1, .ref 94] (by rfl) ?_ | refine ft_go mi_k13 11 105 [(7, .int 41), (6, .int 3), (0, .ref 94), (1, .int x1), (2, .int 5), (3, .int 1), (4, .int x4), (5, .int x5)] [.int (x5 + 1), .int (x4 + 1), .int 1, .int 2, .int x1, .ref 94] (ku i 6019 ((i 6019) + 1)) a15 q r (by rfl) ?_
      have r21 : ((0 : Int) ≤ ((a15 95).getD x1.toNatClampNeg 0).toInt) ∧ (((a15 95).getD x1.toNatClampNeg 0).toInt ≤ 7) := hJ17.I.2.2.1 95 (x1.toNatClampNeg)
      have u22 : ((a15 95).getD x1.toNatClampNeg 0).toInt = ((a 95).getD x1.toNatClampNeg 0).toInt := congrArg (fun z : List Int32 => (z.getD x1.toNatClampNeg 0).toInt) (fa15 95 (by decide))
      refine ko_callI mi_k13.1 (pc := 105) (ls := [(7, .int 41), (6, .int 3), (0, .ref 94), (1, .int x1), (2, .int 5), (3, .int 1), (4, .int x4), (5, .int x5)]) (st := [.int (x5 + 1), .int (x4 + 1), .int 1, .int 2, .int x1, .ref 94]) (h := ks (ku i 6019 ((i 6019) + 1)) a15 q r) (i := (.invokevirtual 35, 3, 13, 0, 9, 0, 297)) (mi_k13.2 _ _ (by rfl)) (ft_invS mi_pq13 (by rfl)) (cy := mi_c13) mi_pq13 rfl (kc13_94_l12_l21_K5 hJ17.I hJ17.R x1 (x4 + 1) (x5 + 1) (oz1339 hp0.1 hp0.2) (oz1471 hp1 u22) (oz1401 hp2.1 hp2.2 s20 kn1) (oz1375 fi_6019.1 hp3.2 s16 kn1)) (by decide) ?_
      intro vg23 ig23 ag23 qg23 rg23 kg23 hg23
      have hGg23 := kG_call hJ17 kg23 (by decide +kernel)
      have z24 : (ig23 6019).toInt = (((i 6019) + 1).toInt + 3) := hg23
      first | refine ft_goL mi_k13 4 261 [(8, .int vg23), (7, .int 41), (6, .int 3), (0, .ref 94), (1, .int x1), (2, .int 5), (3, .int 1), (4, .int x4), (5, .int x5)] [.int vg23] (by rfl) ?_ | refine ft_go mi_k13 4 261 [(8, .int vg23), (7, .int 41), (6, .int 3), (0, .ref 94), (1, .int x1), (2, .int 5), (3, .int 1), (4, .int x4), (5, .int x5)] [.int vg23] ig23 ag23 qg23 rg23 (by rfl) ?_
      exact ft_ret mi_k13 (by rfl) (hP vg23 _ _ _ _ hGg23 (oz1374 s16 z24 kn1))
  ·
    have c25 : (40 : Int32).toInt ≤ x5.toInt := kd_ltF c; clear c
    exact (oz1405 c25 hp2.2 kn40).elim
set_option maxRecDepth 100000 in
theorem kc11_l05_l12 {i : Nat → Int32} {a : Nat → List Int32} {q : Nat → List Int64} {r : Nat → Nat} (hI : kI i a q) (hr : kr r)  : km 1 11 [.int 5, .int 2] (ks i a q r) (kPI (ks i a q r) (fun v => v.toInt = 3)) := by
  have hG := kG_self kW0 hI hr
  refine km_ofPI (q := (mi_h11, mi_c11)) rfl (by decide) (Nat.le_of_ble_eq_true rfl) ?_
  intro P hP
  first | refine ft_goL mi_k11 16 26 [(3, .int 0), (2, .int 5), (0, .int 5), (1, .int 2)] [.int (5 * 4), .ref (mi_RO + 3)] (by rfl) ?_ | refine ft_go mi_k11 16 26 [(3, .int 0), (2, .int 5), (0, .int 5), (1, .int 2)] [.int (5 * 4), .ref (mi_RO + 3)] i a q r (by rfl) ?_
  refine ko_top (by decide : (5 * 4 : Int32) = 20) ?_
  first | refine fo_goS mi_k11 fz11_26_2_28 [.int (20 + 2), .ref (mi_RO + 3)] (by rfl) ?_ | refine ft_go mi_k11 2 28 [(3, .int 0), (2, .int 5), (0, .int 5), (1, .int 2)] [.int (20 + 2), .ref (mi_RO + 3)] i a q r (by rfl) ?_
  refine ko_top (by decide : (20 + 2 : Int32) = 22) ?_
  refine ft_ro mi_k11 (w := 0) (by decide +kernel) (by decide +kernel) ?_
  first | refine ft_goS mi_k11 3 38 [.int 5, .ref (mi_RO + 4)] (by rfl) ?_ | refine ft_go mi_k11 3 38 [(3, .int 0), (2, .int 5), (0, .int 5), (1, .int 2)] [.int 5, .ref (mi_RO + 4)] i a q r (by rfl) ?_
  refine ft_ro mi_k11 (w := 3) (by decide +kernel) (by decide +kernel) ?_
  first | refine fo_goL mi_k11 fz11_39_2_43 [(3, .int (0 + 1)), (2, .int 3), (0, .int 5), (1, .int 2)] [] (by rfl) ?_ | refine ft_go mi_k11 2 43 [(3, .int (0 + 1)), (2, .int 3), (0, .int 5), (1, .int 2)] [] i a q r (by rfl) ?_
  refine ko_loc (by decide : (0 + 1 : Int32) = 1) ?_
  first | refine ft_goL mi_k11 13 26 [(3, .int 1), (2, .int 3), (0, .int 5), (1, .int 2)] [.int (3 * 4), .ref (mi_RO + 3)] (by rfl) ?_ | refine ft_goS mi_k11 13 26 [.int (3 * 4), .ref (mi_RO + 3)] (by rfl) ?_ | refine ft_go mi_k11 13 26 [(3, .int 1), (2, .int 3), (0, .int 5), (1, .int 2)] [.int (3 * 4), .ref (mi_RO + 3)] i a q r (by rfl) ?_
  refine ko_top (by decide : (3 * 4 : Int32) = 12) ?_
  first | refine fo_goS mi_k11 fz11_26_2_28 [.int (12 + 2), .ref (mi_RO + 3)] (by rfl) ?_ | refine ft_go mi_k11 2 28 [(3, .int 1), (2, .int 3), (0, .int 5), (1, .int 2)] [.int (12 + 2), .ref (mi_RO + 3)] i a q r (by rfl) ?_
  refine ko_top (by decide : (12 + 2 : Int32) = 14) ?_
  refine ft_ro mi_k11 (w := 40) (by decide +kernel) (by decide +kernel) ?_
  first | refine fo_goS mi_k11 fz11_29_2_33 [.int 3] (by rfl) ?_ | refine ft_go mi_k11 2 33 [(3, .int 1), (2, .int 3), (0, .int 5), (1, .int 2)] [.int 3] i a q r (by rfl) ?_
  exact ft_ret mi_k11 (by rfl) (hP 3 (oz1421 kn3))
def w14_94_l12_K5 : kW := ([], [], [], [])
set_option maxRecDepth 100000 in
theorem kc14_94_l12_K5 {i : Nat → Int32} {a : Nat → List Int32} {q : Nat → List Int64} {r : Nat → Nat} (hI : kI i a q) (hr : kr r) (x1 : Int32) (x3 : Int32) (x4 : Int32) (hp0 : ((0 : Int) ≤ x1.toInt) ∧ (x1.toInt ≤ 49)) (hp1 : ((a 95).getD x1.toNatClampNeg 0).toInt = 5) (hp2 : ((0 : Int) ≤ x4.toInt) ∧ ((x4.toInt + 0) ≤ 39)) (hp3 : ((0 : Int) ≤ (i 6019).toInt) ∧ (((i 6019).toInt + 0) ≤ 900)) : km 1 14 [.ref 94, .int x1, .int 2, .int x3, .int x4] (ks i a q r) (kVI w14_94_l12_K5 i a q r (fun v i1 a1 q1 r1 => (i1 6019).toInt = ((i 6019).toInt + 0))) := by
  have hG := kG_self w14_94_l12_K5 hI hr
  refine km_ofI (q := (mi_h14, mi_c14)) rfl (by decide) (Nat.le_of_ble_eq_true rfl) ?_
  intro P hP
  have r1 : ((0 : Int) ≤ ((a 95).getD x1.toNatClampNeg 0).toInt) ∧ (((a 95).getD x1.toNatClampNeg 0).toInt ≤ 7) := hG.I.2.2.1 95 (x1.toNatClampNeg)
  first | refine fo_goL mi_k14 fz14_0_3_5 [(0, .ref 94), (1, .int x1), (2, .int 2), (3, .int x3), (4, .int x4)] [.int x1, .ref 95] (by rfl) ?_ | refine ft_go mi_k14 3 5 [(0, .ref 94), (1, .int x1), (2, .int 2), (3, .int x3), (4, .int x4)] [.int x1, .ref 95] i a q r (by rfl) ?_
  refine ko_iald3 mi_k14.1 (n := 50) (c := 50) (ax := (0, 0, 0, 0, 0)) (mi_k14.2 _ _ (by rfl)) (by rfl) (ksG95 _ _ _ _) (hG.I.2.1 95) rfl (oz3 hp0.1) (oz1336 hp0.2) ?_
  refine ko_top (kj_eq (oz1470 hp1) (by decide) : ((a 95).getD x1.toNatClampNeg 0) = 5) ?_
  first | refine ft_goL mi_k14 6 57 [(5, .int 5), (0, .ref 94), (1, .int x1), (2, .int 2), (3, .int x3), (4, .int x4)] [.int (x3 ^^^ x1)] (by rfl) ?_ | refine ft_go mi_k14 6 57 [(5, .int 5), (0, .ref 94), (1, .int x1), (2, .int 2), (3, .int x3), (4, .int x4)] [.int (x3 ^^^ x1)] i a q r (by rfl) ?_
  exact ft_ret mi_k14 (by rfl) (hP (x3 ^^^ x1) _ _ _ _ hG oz1338)
def w13_94_l12_l22_K5 : kW := ([6019], [96], [], [])
set_option maxRecDepth 100000 in
theorem kc13_94_l12_l22_K5 {i : Nat → Int32} {a : Nat → List Int32} {q : Nat → List Int64} {r : Nat → Nat} (hI : kI i a q) (hr : kr r) (x1 : Int32) (x4 : Int32) (x5 : Int32) (hp0 : ((0 : Int) ≤ x1.toInt) ∧ (x1.toInt ≤ 49)) (hp1 : ((a 95).getD x1.toNatClampNeg 0).toInt = 5) (hp2 : ((0 : Int) ≤ x5.toInt) ∧ ((x5.toInt + 1) ≤ 39)) (hp3 : ((0 : Int) ≤ (i 6019).toInt) ∧ (((i 6019).toInt + 1) ≤ 900)) : km 3 13 [.ref 94, .int x1, .int 2, .int 2, .int x4, .int x5] (ks i a q r) (kVI w13_94_l12_l22_K5 i a q r (fun v i1 a1 q1 r1 => (i1 6019).toInt = ((i 6019).toInt + 1))) := by
  have hG := kG_self w13_94_l12_l22_K5 hI hr
  refine km_ofI (q := (mi_h13, mi_c13)) rfl (by decide) (Nat.le_of_ble_eq_true rfl) ?_
  intro P hP
  have r1 : ((0 : Int) ≤ ((a 95).getD x1.toNatClampNeg 0).toInt) ∧ (((a 95).getD x1.toNatClampNeg 0).toInt ≤ 7) := hG.I.2.2.1 95 (x1.toNatClampNeg)
  have fi_6019 : ((0 : Int) ≤ (i 6019).toInt) ∧ ((i 6019).toInt ≤ 1000) := hG.I.1 6019
  first | refine fo_goL mi_k13 fz13_0_2_4 [(0, .ref 94), (1, .int x1), (2, .int 2), (3, .int 2), (4, .int x4), (5, .int x5)] [.int 40, .int x5] (by rfl) ?_ | refine ft_go mi_k13 2 4 [(0, .ref 94), (1, .int x1), (2, .int 2), (3, .int 2), (4, .int x4), (5, .int x5)] [.int 40, .int x5] i a q r (by rfl) ?_
  refine ft_ifS mi_k13 (decide (x5 < 40)) 9 7 [] (by rfl) (fun c => ?_) (fun c => ?_)
  ·
    have c2 : x5.toInt < (40 : Int32).toInt := kd_lt c; clear c
    first | refine fo_goS mi_k13 fz13_9_2_11 [.int 2, .int 2] (by rfl) ?_ | refine ft_go mi_k13 2 11 [(0, .ref 94), (1, .int x1), (2, .int 2), (3, .int 2), (4, .int x4), (5, .int x5)] [.int 2, .int 2] i a q r (by rfl) ?_
    refine ko_callPI mi_k13.1 (pc := 11) (ls := [(0, .ref 94), (1, .int x1), (2, .int 2), (3, .int 2), (4, .int x4), (5, .int x5)]) (st := [.int 2, .int 2]) (h := ks i a q r) (i := (.invokestatic 39, 3, 11, 0, 9, 0, 298)) (mi_k13.2 _ _ (by rfl)) (ft_invS mi_pq11 (by rfl)) (cy := mi_c11) mi_pq11 rfl (kc11_l02_l12 hG.I hG.R ) (by decide) ?_
    intro vg3 hg3
    have z4 : vg3.toInt = 0 := hg3
    have evvg3 := kj_eq (oz236 z4) (by decide : (0 : Int32).toInt = 0)
    subst evvg3
    first | refine ft_goL mi_k13 5 23 [(6, .int 0), (0, .ref 94), (1, .int x1), (2, .int 2), (3, .int 2), (4, .int x4), (5, .int x5)] [.int (0 * 4), .ref (mi_RO + 3)] (by rfl) ?_ | refine ft_go mi_k13 5 23 [(6, .int 0), (0, .ref 94), (1, .int x1), (2, .int 2), (3, .int 2), (4, .int x4), (5, .int x5)] [.int (0 * 4), .ref (mi_RO + 3)] i a q r (by rfl) ?_
    refine ko_top (by decide : (0 * 4 : Int32) = 0) ?_
    first | refine fo_goS mi_k13 fz13_23_2_25 [.int (0 + 2), .ref (mi_RO + 3)] (by rfl) ?_ | refine ft_go mi_k13 2 25 [(6, .int 0), (0, .ref 94), (1, .int x1), (2, .int 2), (3, .int 2), (4, .int x4), (5, .int x5)] [.int (0 + 2), .ref (mi_RO + 3)] i a q r (by rfl) ?_
    refine ko_top (by decide : (0 + 2 : Int32) = 2) ?_
    refine ft_ro mi_k13 (w := 11) (by decide +kernel) (by decide +kernel) ?_
    first | refine fo_goL mi_k13 fz13_26_4_34 [(7, .int 11), (6, .int 0), (0, .ref 94), (1, .int x1), (2, .int 2), (3, .int 2), (4, .int x4), (5, .int x5)] [.int 24, .int (i 6019)] (by rfl) ?_ | refine ft_go mi_k13 4 34 [(7, .int 11), (6, .int 0), (0, .ref 94), (1, .int x1), (2, .int 2), (3, .int 2), (4, .int x4), (5, .int x5)] [.int 24, .int (i 6019)] i a q r (by rfl) ?_
    refine ft_ifS mi_k13 (decide (24 ≤ (i 6019))) 48 37 [] (by rfl) (fun c => ?_) (fun c => ?_)
    ·
      have c6 : (24 : Int32).toInt ≤ (i 6019).toInt := kd_le c; clear c
      have s7 : ((i 6019) + 1).toInt = (i 6019).toInt + (1 : Int32).toInt := kd_add (oz1332 c6 kn24 kn1) (oz951 fi_6019.2 kn1)
      have hJ8 := kG_i hG 6019 rfl (v := ((i 6019) + 1)) ⟨(oz1333 c6 s7 kn24 kn1), (oz1334 hp3.2 s7 kn1)⟩
      have s9 : (x5 + 1).toInt = x5.toInt + (1 : Int32).toInt := kd_add (oz12 hp2.1 kn1) (oz1335 hp2.2 kn1)
      first | refine fo_goI mi_k13 fz13_48_15_72 [.int (x5 + 1), .int x4, .int 2, .int x1, .ref 94] (ku i 6019 ((i 6019) + 1)) (by rfl) ?_ | refine ft_go mi_k13 15 72 [(7, .int 11), (6, .int 0), (0, .ref 94), (1, .int x1), (2, .int 2), (3, .int 2), (4, .int x4), (5, .int x5)] [.int (x5 + 1), .int x4, .int 2, .int x1, .ref 94] (ku i 6019 ((i 6019) + 1)) a q r (by rfl) ?_
      refine ko_callI mi_k13.1 (pc := 72) (ls := [(7, .int 11), (6, .int 0), (0, .ref 94), (1, .int x1), (2, .int 2), (3, .int 2), (4, .int x4), (5, .int x5)]) (st := [.int (x5 + 1), .int x4, .int 2, .int x1, .ref 94]) (h := ks (ku i 6019 ((i 6019) + 1)) a q r) (i := (.invokevirtual 43, 3, 14, 0, 9, 0, 301)) (mi_k13.2 _ _ (by rfl)) (ft_invS mi_pq14 (by rfl)) (cy := mi_c14) mi_pq14 rfl (kc14_94_l12_K5 hJ8.I hJ8.R x1 x4 (x5 + 1) (oz1339 hp0.1 hp0.2) (oz1470 hp1) (oz1340 hp2.1 hp2.2 s9 kn1) (oz1341 c6 hp3.2 s7 kn24 kn1)) (by decide) ?_
      intro vg10 ig10 ag10 qg10 rg10 kg10 hg10
      have hGg10 := kG_call hJ8 kg10 (by decide +kernel)
      have efig10_6019 : (ig10 6019).toInt = ((i 6019) + 1).toInt := kg10.ti 6019 rfl
      exact ft_ret mi_k13 (by rfl) (hP vg10 _ _ _ _ hGg10 (oz1342 efig10_6019 s7 kn1))
    ·
      have c12 : (i 6019).toInt < (24 : Int32).toInt := kd_leF c; clear c
      first | refine fo_goS mi_k13 fz13_37_5_47 [.int 11, .int (i 6019), .ref 96] (by rfl) ?_ | refine ft_go mi_k13 5 47 [(7, .int 11), (6, .int 0), (0, .ref 94), (1, .int x1), (2, .int 2), (3, .int 2), (4, .int x4), (5, .int x5)] [.int 11, .int (i 6019), .ref 96] i a q r (by rfl) ?_
      refine ko_iast3 mi_k13.1 (n := 24) (c := 24) (ax := (0, 0, 0, 0, 0)) (mi_k13.2 _ _ (by rfl)) (by rfl) (ksG96 _ _ _ _) (ksA96 _ _ _ _) (hG.I.2.1 96) rfl (oz3 fi_6019.1) (oz1343 c12 kn24) ?_
      intro a13 ea13 fa13
      have hJ13 := kG_a3 hG 96 rfl ea13 fa13 (kd_bd _)
      have s14 : ((i 6019) + 1).toInt = (i 6019).toInt + (1 : Int32).toInt := kd_add (oz12 fi_6019.1 kn1) (oz951 fi_6019.2 kn1)
      have hJ15 := kG_i hJ13 6019 rfl (v := ((i 6019) + 1)) ⟨(oz14 fi_6019.1 s14 kn1), (oz1334 hp3.2 s14 kn1)⟩
      have s16 : (x5 + 1).toInt = x5.toInt + (1 : Int32).toInt := kd_add (oz12 hp2.1 kn1) (oz1335 hp2.2 kn1)
      first | refine fo_goI mi_k13 fz13_48_15_72 [.int (x5 + 1), .int x4, .int 2, .int x1, .ref 94] (ku i 6019 ((i 6019) + 1)) (by rfl) ?_ | refine ft_go mi_k13 15 72 [(7, .int 11), (6, .int 0), (0, .ref 94), (1, .int x1), (2, .int 2), (3, .int 2), (4, .int x4), (5, .int x5)] [.int (x5 + 1), .int x4, .int 2, .int x1, .ref 94] (ku i 6019 ((i 6019) + 1)) a13 q r (by rfl) ?_
      have r17 : ((0 : Int) ≤ ((a13 95).getD x1.toNatClampNeg 0).toInt) ∧ (((a13 95).getD x1.toNatClampNeg 0).toInt ≤ 7) := hJ15.I.2.2.1 95 (x1.toNatClampNeg)
      have u18 : ((a13 95).getD x1.toNatClampNeg 0).toInt = ((a 95).getD x1.toNatClampNeg 0).toInt := congrArg (fun z : List Int32 => (z.getD x1.toNatClampNeg 0).toInt) (fa13 95 (by decide))
      refine ko_callI mi_k13.1 (pc := 72) (ls := [(7, .int 11), (6, .int 0), (0, .ref 94), (1, .int x1), (2, .int 2), (3, .int 2), (4, .int x4), (5, .int x5)]) (st := [.int (x5 + 1), .int x4, .int 2, .int x1, .ref 94]) (h := ks (ku i 6019 ((i 6019) + 1)) a13 q r) (i := (.invokevirtual 43, 3, 14, 0, 9, 0, 301)) (mi_k13.2 _ _ (by rfl)) (ft_invS mi_pq14 (by rfl)) (cy := mi_c14) mi_pq14 rfl (kc14_94_l12_K5 hJ15.I hJ15.R x1 x4 (x5 + 1) (oz1339 hp0.1 hp0.2) (oz1471 hp1 u18) (oz1340 hp2.1 hp2.2 s16 kn1) (oz1345 fi_6019.1 hp3.2 s14 kn1)) (by decide) ?_
      intro vg19 ig19 ag19 qg19 rg19 kg19 hg19
      have hGg19 := kG_call hJ15 kg19 (by decide +kernel)
      have efig19_6019 : (ig19 6019).toInt = ((i 6019) + 1).toInt := kg19.ti 6019 rfl
      exact ft_ret mi_k13 (by rfl) (hP vg19 _ _ _ _ hGg19 (oz1342 efig19_6019 s14 kn1))
  ·
    have c21 : (40 : Int32).toInt ≤ x5.toInt := kd_ltF c; clear c
    exact (oz1346 c21 hp2.2 kn40).elim
def w13_94_l15_l22_K5 : kW := ([6019], [96], [], [])
set_option maxRecDepth 100000 in
theorem kc13_94_l15_l22_K5 {i : Nat → Int32} {a : Nat → List Int32} {q : Nat → List Int64} {r : Nat → Nat} (hI : kI i a q) (hr : kr r) (x1 : Int32) (x4 : Int32) (x5 : Int32) (hp0 : ((0 : Int) ≤ x1.toInt) ∧ (x1.toInt ≤ 49)) (hp1 : ((a 95).getD x1.toNatClampNeg 0).toInt = 5) (hp2 : ((0 : Int) ≤ x5.toInt) ∧ ((x5.toInt + 2) ≤ 39)) (hp3 : ((0 : Int) ≤ (i 6019).toInt) ∧ (((i 6019).toInt + 2) ≤ 900)) : km 5 13 [.ref 94, .int x1, .int 5, .int 2, .int x4, .int x5] (ks i a q r) (kVI w13_94_l15_l22_K5 i a q r (fun v i1 a1 q1 r1 => (i1 6019).toInt = ((i 6019).toInt + 2))) := by
  have hG := kG_self w13_94_l15_l22_K5 hI hr
  refine km_ofI (q := (mi_h13, mi_c13)) rfl (by decide) (Nat.le_of_ble_eq_true rfl) ?_
  intro P hP
  have r1 : ((0 : Int) ≤ ((a 95).getD x1.toNatClampNeg 0).toInt) ∧ (((a 95).getD x1.toNatClampNeg 0).toInt ≤ 7) := hG.I.2.2.1 95 (x1.toNatClampNeg)
  have fi_6019 : ((0 : Int) ≤ (i 6019).toInt) ∧ ((i 6019).toInt ≤ 1000) := hG.I.1 6019
  first | refine fo_goL mi_k13 fz13_0_2_4 [(0, .ref 94), (1, .int x1), (2, .int 5), (3, .int 2), (4, .int x4), (5, .int x5)] [.int 40, .int x5] (by rfl) ?_ | refine ft_go mi_k13 2 4 [(0, .ref 94), (1, .int x1), (2, .int 5), (3, .int 2), (4, .int x4), (5, .int x5)] [.int 40, .int x5] i a q r (by rfl) ?_
  refine ft_ifS mi_k13 (decide (x5 < 40)) 9 7 [] (by rfl) (fun c => ?_) (fun c => ?_)
  ·
    have c2 : x5.toInt < (40 : Int32).toInt := kd_lt c; clear c
    first | refine fo_goS mi_k13 fz13_9_2_11 [.int 2, .int 5] (by rfl) ?_ | refine ft_go mi_k13 2 11 [(0, .ref 94), (1, .int x1), (2, .int 5), (3, .int 2), (4, .int x4), (5, .int x5)] [.int 2, .int 5] i a q r (by rfl) ?_
    refine ko_callPI mi_k13.1 (pc := 11) (ls := [(0, .ref 94), (1, .int x1), (2, .int 5), (3, .int 2), (4, .int x4), (5, .int x5)]) (st := [.int 2, .int 5]) (h := ks i a q r) (i := (.invokestatic 39, 3, 11, 0, 9, 0, 298)) (mi_k13.2 _ _ (by rfl)) (ft_invS mi_pq11 (by rfl)) (cy := mi_c11) mi_pq11 rfl (kc11_l05_l12 hG.I hG.R ) (by decide) ?_
    intro vg3 hg3
    have z4 : vg3.toInt = 3 := hg3
    have evvg3 := kj_eq (oz1421 z4) (by decide : (3 : Int32).toInt = 3)
    subst evvg3
    first | refine ft_goL mi_k13 5 23 [(6, .int 3), (0, .ref 94), (1, .int x1), (2, .int 5), (3, .int 2), (4, .int x4), (5, .int x5)] [.int (3 * 4), .ref (mi_RO + 3)] (by rfl) ?_ | refine ft_go mi_k13 5 23 [(6, .int 3), (0, .ref 94), (1, .int x1), (2, .int 5), (3, .int 2), (4, .int x4), (5, .int x5)] [.int (3 * 4), .ref (mi_RO + 3)] i a q r (by rfl) ?_
    refine ko_top (by decide : (3 * 4 : Int32) = 12) ?_
    first | refine fo_goS mi_k13 fz13_23_2_25 [.int (12 + 2), .ref (mi_RO + 3)] (by rfl) ?_ | refine ft_go mi_k13 2 25 [(6, .int 3), (0, .ref 94), (1, .int x1), (2, .int 5), (3, .int 2), (4, .int x4), (5, .int x5)] [.int (12 + 2), .ref (mi_RO + 3)] i a q r (by rfl) ?_
    refine ko_top (by decide : (12 + 2 : Int32) = 14) ?_
    refine ft_ro mi_k13 (w := 40) (by decide +kernel) (by decide +kernel) ?_
    first | refine fo_goL mi_k13 fz13_26_4_34 [(7, .int 40), (6, .int 3), (0, .ref 94), (1, .int x1), (2, .int 5), (3, .int 2), (4, .int x4), (5, .int x5)] [.int 24, .int (i 6019)] (by rfl) ?_ | refine ft_go mi_k13 4 34 [(7, .int 40), (6, .int 3), (0, .ref 94), (1, .int x1), (2, .int 5), (3, .int 2), (4, .int x4), (5, .int x5)] [.int 24, .int (i 6019)] i a q r (by rfl) ?_
    refine ft_ifS mi_k13 (decide (24 ≤ (i 6019))) 48 37 [] (by rfl) (fun c => ?_) (fun c => ?_)
    ·
      have c6 : (24 : Int32).toInt ≤ (i 6019).toInt := kd_le c; clear c
      have s7 : ((i 6019) + 1).toInt = (i 6019).toInt + (1 : Int32).toInt := kd_add (oz1332 c6 kn24 kn1) (oz951 fi_6019.2 kn1)
      have hJ8 := kG_i hG 6019 rfl (v := ((i 6019) + 1)) ⟨(oz1333 c6 s7 kn24 kn1), (oz1351 hp3.2 s7 kn1)⟩
      first | refine ft_goI mi_k13 12 83 [.int 3, .ref (mi_RO + 4), .int x1, .ref 94] (ku i 6019 ((i 6019) + 1)) (by rfl) ?_ | refine ft_go mi_k13 12 83 [(7, .int 40), (6, .int 3), (0, .ref 94), (1, .int x1), (2, .int 5), (3, .int 2), (4, .int x4), (5, .int x5)] [.int 3, .ref (mi_RO + 4), .int x1, .ref 94] (ku i 6019 ((i 6019) + 1)) a q r (by rfl) ?_
      refine ft_ro mi_k13 (w := 2) (by decide +kernel) (by decide +kernel) ?_
      have s10 : (x5 + 1).toInt = x5.toInt + (1 : Int32).toInt := kd_add (oz12 hp2.1 kn1) (oz1352 hp2.2 kn1)
      first | refine ft_goS mi_k13 8 105 [.int (x5 + 1), .int x4, .int 2, .int 2, .int x1, .ref 94] (by rfl) ?_ | refine ft_go mi_k13 8 105 [(7, .int 40), (6, .int 3), (0, .ref 94), (1, .int x1), (2, .int 5), (3, .int 2), (4, .int x4), (5, .int x5)] [.int (x5 + 1), .int x4, .int 2, .int 2, .int x1, .ref 94] (ku i 6019 ((i 6019) + 1)) a q r (by rfl) ?_
      refine ko_callI mi_k13.1 (pc := 105) (ls := [(7, .int 40), (6, .int 3), (0, .ref 94), (1, .int x1), (2, .int 5), (3, .int 2), (4, .int x4), (5, .int x5)]) (st := [.int (x5 + 1), .int x4, .int 2, .int 2, .int x1, .ref 94]) (h := ks (ku i 6019 ((i 6019) + 1)) a q r) (i := (.invokevirtual 35, 3, 13, 0, 9, 0, 297)) (mi_k13.2 _ _ (by rfl)) (ft_invS mi_pq13 (by rfl)) (cy := mi_c13) mi_pq13 rfl (kc13_94_l12_l22_K5 hJ8.I hJ8.R x1 x4 (x5 + 1) (oz1339 hp0.1 hp0.2) (oz1470 hp1) (oz1356 hp2.1 hp2.2 s10 kn1) (oz1357 c6 hp3.2 s7 kn24 kn1)) (by decide) ?_
      intro vg11 ig11 ag11 qg11 rg11 kg11 hg11
      have hGg11 := kG_call hJ8 kg11 (by decide +kernel)
      have z12 : (ig11 6019).toInt = (((i 6019) + 1).toInt + 1) := hg11
      have b13 : ((-2147483648 : Int) ≤ vg11.toInt) ∧ (vg11.toInt ≤ 2147483647) := kd_bd vg11
      first | refine ft_goL mi_k13 6 201 [(8, .int vg11), (7, .int 40), (6, .int 3), (0, .ref 94), (1, .int x1), (2, .int 5), (3, .int 2), (4, .int x4), (5, .int x5)] [.int (vg11 * 3)] (by rfl) ?_ | refine ft_go mi_k13 6 201 [(8, .int vg11), (7, .int 40), (6, .int 3), (0, .ref 94), (1, .int x1), (2, .int 5), (3, .int 2), (4, .int x4), (5, .int x5)] [.int (vg11 * 3)] ig11 ag11 qg11 rg11 (by rfl) ?_
      exact ft_ret mi_k13 (by rfl) (hP (vg11 * 3) _ _ _ _ hGg11 (oz1358 s7 z12 kn1))
    ·
      have c14 : (i 6019).toInt < (24 : Int32).toInt := kd_leF c; clear c
      first | refine fo_goS mi_k13 fz13_37_5_47 [.int 40, .int (i 6019), .ref 96] (by rfl) ?_ | refine ft_go mi_k13 5 47 [(7, .int 40), (6, .int 3), (0, .ref 94), (1, .int x1), (2, .int 5), (3, .int 2), (4, .int x4), (5, .int x5)] [.int 40, .int (i 6019), .ref 96] i a q r (by rfl) ?_
      refine ko_iast3 mi_k13.1 (n := 24) (c := 24) (ax := (0, 0, 0, 0, 0)) (mi_k13.2 _ _ (by rfl)) (by rfl) (ksG96 _ _ _ _) (ksA96 _ _ _ _) (hG.I.2.1 96) rfl (oz3 fi_6019.1) (oz1343 c14 kn24) ?_
      intro a15 ea15 fa15
      have hJ15 := kG_a3 hG 96 rfl ea15 fa15 (kd_bd _)
      have s16 : ((i 6019) + 1).toInt = (i 6019).toInt + (1 : Int32).toInt := kd_add (oz12 fi_6019.1 kn1) (oz951 fi_6019.2 kn1)
      have hJ17 := kG_i hJ15 6019 rfl (v := ((i 6019) + 1)) ⟨(oz14 fi_6019.1 s16 kn1), (oz1351 hp3.2 s16 kn1)⟩
      first | refine ft_goI mi_k13 12 83 [.int 3, .ref (mi_RO + 4), .int x1, .ref 94] (ku i 6019 ((i 6019) + 1)) (by rfl) ?_ | refine ft_go mi_k13 12 83 [(7, .int 40), (6, .int 3), (0, .ref 94), (1, .int x1), (2, .int 5), (3, .int 2), (4, .int x4), (5, .int x5)] [.int 3, .ref (mi_RO + 4), .int x1, .ref 94] (ku i 6019 ((i 6019) + 1)) a15 q r (by rfl) ?_
      refine ft_ro mi_k13 (w := 2) (by decide +kernel) (by decide +kernel) ?_
      have s19 : (x5 + 1).toInt = x5.toInt + (1 : Int32).toInt := kd_add (oz12 hp2.1 kn1) (oz1352 hp2.2 kn1)
      first | refine ft_goS mi_k13 8 105 [.int (x5 + 1), .int x4, .int 2, .int 2, .int x1, .ref 94] (by rfl) ?_ | refine ft_go mi_k13 8 105 [(7, .int 40), (6, .int 3), (0, .ref 94), (1, .int x1), (2, .int 5), (3, .int 2), (4, .int x4), (5, .int x5)] [.int (x5 + 1), .int x4, .int 2, .int 2, .int x1, .ref 94] (ku i 6019 ((i 6019) + 1)) a15 q r (by rfl) ?_
      have r20 : ((0 : Int) ≤ ((a15 95).getD x1.toNatClampNeg 0).toInt) ∧ (((a15 95).getD x1.toNatClampNeg 0).toInt ≤ 7) := hJ17.I.2.2.1 95 (x1.toNatClampNeg)
      have u21 : ((a15 95).getD x1.toNatClampNeg 0).toInt = ((a 95).getD x1.toNatClampNeg 0).toInt := congrArg (fun z : List Int32 => (z.getD x1.toNatClampNeg 0).toInt) (fa15 95 (by decide))
      refine ko_callI mi_k13.1 (pc := 105) (ls := [(7, .int 40), (6, .int 3), (0, .ref 94), (1, .int x1), (2, .int 5), (3, .int 2), (4, .int x4), (5, .int x5)]) (st := [.int (x5 + 1), .int x4, .int 2, .int 2, .int x1, .ref 94]) (h := ks (ku i 6019 ((i 6019) + 1)) a15 q r) (i := (.invokevirtual 35, 3, 13, 0, 9, 0, 297)) (mi_k13.2 _ _ (by rfl)) (ft_invS mi_pq13 (by rfl)) (cy := mi_c13) mi_pq13 rfl (kc13_94_l12_l22_K5 hJ17.I hJ17.R x1 x4 (x5 + 1) (oz1339 hp0.1 hp0.2) (oz1471 hp1 u21) (oz1356 hp2.1 hp2.2 s19 kn1) (oz1359 fi_6019.1 hp3.2 s16 kn1)) (by decide) ?_
      intro vg22 ig22 ag22 qg22 rg22 kg22 hg22
      have hGg22 := kG_call hJ17 kg22 (by decide +kernel)
      have z23 : (ig22 6019).toInt = (((i 6019) + 1).toInt + 1) := hg22
      have b24 : ((-2147483648 : Int) ≤ vg22.toInt) ∧ (vg22.toInt ≤ 2147483647) := kd_bd vg22
      first | refine ft_goL mi_k13 6 201 [(8, .int vg22), (7, .int 40), (6, .int 3), (0, .ref 94), (1, .int x1), (2, .int 5), (3, .int 2), (4, .int x4), (5, .int x5)] [.int (vg22 * 3)] (by rfl) ?_ | refine ft_go mi_k13 6 201 [(8, .int vg22), (7, .int 40), (6, .int 3), (0, .ref 94), (1, .int x1), (2, .int 5), (3, .int 2), (4, .int x4), (5, .int x5)] [.int (vg22 * 3)] ig22 ag22 qg22 rg22 (by rfl) ?_
      exact ft_ret mi_k13 (by rfl) (hP (vg22 * 3) _ _ _ _ hGg22 (oz1358 s16 z23 kn1))
  ·
    have c25 : (40 : Int32).toInt ≤ x5.toInt := kd_ltF c; clear c
    exact (oz1360 c25 hp2.2 kn40).elim
set_option maxRecDepth 100000 in
theorem kc11_l05_l13 {i : Nat → Int32} {a : Nat → List Int32} {q : Nat → List Int64} {r : Nat → Nat} (hI : kI i a q) (hr : kr r)  : km 1 11 [.int 5, .int 3] (ks i a q r) (kPI (ks i a q r) (fun v => v.toInt = 5)) := by
  have hG := kG_self kW0 hI hr
  refine km_ofPI (q := (mi_h11, mi_c11)) rfl (by decide) (Nat.le_of_ble_eq_true rfl) ?_
  intro P hP
  first | refine ft_goL mi_k11 16 26 [(3, .int 0), (2, .int 5), (0, .int 5), (1, .int 3)] [.int (5 * 4), .ref (mi_RO + 3)] (by rfl) ?_ | refine ft_go mi_k11 16 26 [(3, .int 0), (2, .int 5), (0, .int 5), (1, .int 3)] [.int (5 * 4), .ref (mi_RO + 3)] i a q r (by rfl) ?_
  refine ko_top (by decide : (5 * 4 : Int32) = 20) ?_
  first | refine fo_goS mi_k11 fz11_26_2_28 [.int (20 + 3), .ref (mi_RO + 3)] (by rfl) ?_ | refine ft_go mi_k11 2 28 [(3, .int 0), (2, .int 5), (0, .int 5), (1, .int 3)] [.int (20 + 3), .ref (mi_RO + 3)] i a q r (by rfl) ?_
  refine ko_top (by decide : (20 + 3 : Int32) = 23) ?_
  refine ft_ro mi_k11 (w := 60) (by decide +kernel) (by decide +kernel) ?_
  first | refine fo_goS mi_k11 fz11_29_2_33 [.int 5] (by rfl) ?_ | refine ft_go mi_k11 2 33 [(3, .int 0), (2, .int 5), (0, .int 5), (1, .int 3)] [.int 5] i a q r (by rfl) ?_
  exact ft_ret mi_k11 (by rfl) (hP 5 (oz1470 kn5))

