set_option maxRecDepth 100000 in
theorem kc11_l06_l12 {i : Nat → Int32} {a : Nat → List Int32} {q : Nat → List Int64} {r : Nat → Nat} (hI : kI i a q) (hr : kr r)  : km 1 11 [.int 6, .int 2] (ks i a q r) (kPI (ks i a q r) (fun v => v.toInt = 0)) := by
  have hG := kG_self kW0 hI hr
  refine km_ofPI (q := (mi_h11, mi_c11)) rfl (by decide) (Nat.le_of_ble_eq_true rfl) ?_
  intro P hP
  refine ft_go mi_k11 16 26 [(3, .int 0), (2, .int 6), (0, .int 6), (1, .int 2)] [.int (6 * 4), .ref (mi_RO + 3)] i a q r (by rfl) ?_
  refine ko_eq (x1 := (26, [(3, .int 0), (2, .int 6), (0, .int 6), (1, .int 2)], [.int 24, .ref (mi_RO + 3)], (0, 0), ks i a q r)) (by rw [(by decide : (6 * 4 : Int32) = 24)]) ?_
  refine ft_go mi_k11 2 28 [(3, .int 0), (2, .int 6), (0, .int 6), (1, .int 2)] [.int (24 + 2), .ref (mi_RO + 3)] i a q r (by rfl) ?_
  refine ko_eq (x1 := (28, [(3, .int 0), (2, .int 6), (0, .int 6), (1, .int 2)], [.int 26, .ref (mi_RO + 3)], (0, 0), ks i a q r)) (by rw [(by decide : (24 + 2 : Int32) = 26)]) ?_
  refine ko_iaro2 mi_k11.1 (l := [1, 10, 11, 2, 20, 0, 0, 0, 0, 30, 0, 0, 0, 41, 40, 0, 0, 0, 50, 0, 0, 0, 0, 60, 70, 0, 0, 0, 0, 80, 0, 81]) (n := 32) (c := 32) (ax := (0, 0, 0, 0, 0)) (mi_k11.2 _ _ (by rfl)) (by rfl) (by rfl) rfl rfl (oz1488 kn26) (oz1489 kn26) ?_
  have r1 : ((0 : Int) ≤ (([1, 10, 11, 2, 20, 0, 0, 0, 0, 30, 0, 0, 0, 41, 40, 0, 0, 0, 50, 0, 0, 0, 0, 60, 70, 0, 0, 0, 0, 80, 0, 81] : List Int32).getD (26 : Int32).toNatClampNeg 0).toInt) ∧ ((([1, 10, 11, 2, 20, 0, 0, 0, 0, 30, 0, 0, 0, 41, 40, 0, 0, 0, 50, 0, 0, 0, 0, 60, 70, 0, 0, 0, 0, 80, 0, 81] : List Int32).getD (26 : Int32).toNatClampNeg 0).toInt ≤ 81) := kro_rng (lo := 0) (hi := 81) (by decide) ((26 : Int32).toNatClampNeg)
  refine ko_eq (x1 := (29, [(3, .int 0), (2, .int 6), (0, .int 6), (1, .int 2)], [.int 0], (0, 0), ks i a q r)) (by rw [(by decide : (([1, 10, 11, 2, 20, 0, 0, 0, 0, 30, 0, 0, 0, 41, 40, 0, 0, 0, 50, 0, 0, 0, 0, 60, 70, 0, 0, 0, 0, 80, 0, 81] : List Int32).getD (26 : Int32).toNatClampNeg 0) = 0)]) ?_
  refine ft_go mi_k11 3 38 [(3, .int 0), (2, .int 6), (0, .int 6), (1, .int 2)] [.int 6, .ref (mi_RO + 4)] i a q r (by rfl) ?_
  refine ko_iaro2 mi_k11.1 (l := [(-1), 0, 0, 2, 1, 3, 0, 4]) (n := 8) (c := 8) (ax := (0, 0, 0, 0, 0)) (mi_k11.2 _ _ (by rfl)) (by rfl) (by rfl) rfl rfl (oz1130 kn6) (oz1485 kn6) ?_
  have r2 : ((-1 : Int) ≤ (([(-1), 0, 0, 2, 1, 3, 0, 4] : List Int32).getD (6 : Int32).toNatClampNeg 0).toInt) ∧ ((([(-1), 0, 0, 2, 1, 3, 0, 4] : List Int32).getD (6 : Int32).toNatClampNeg 0).toInt ≤ 4) := kro_rng (lo := -1) (hi := 4) (by decide) ((6 : Int32).toNatClampNeg)
  refine ko_eq (x1 := (39, [(3, .int 0), (2, .int 6), (0, .int 6), (1, .int 2)], [.int 0], (0, 0), ks i a q r)) (by rw [(by decide : (([(-1), 0, 0, 2, 1, 3, 0, 4] : List Int32).getD (6 : Int32).toNatClampNeg 0) = 0)]) ?_
  refine ft_go mi_k11 2 43 [(3, .int (0 + 1)), (2, .int 0), (0, .int 6), (1, .int 2)] [] i a q r (by rfl) ?_
  refine ko_eq (x1 := (43, [(3, .int 1), (2, .int 0), (0, .int 6), (1, .int 2)], [], (0, 0), ks i a q r)) (by rw [(by decide : (0 + 1 : Int32) = 1)]) ?_
  refine ft_go mi_k11 7 47 [(3, .int 1), (2, .int 0), (0, .int 6), (1, .int 2)] [.int 0] i a q r (by rfl) ?_
  exact ft_ret mi_k11 (by rfl) (hP 0 (oz236 kn0))
set_option maxRecDepth 100000 in
theorem kc11_l06_l13 {i : Nat → Int32} {a : Nat → List Int32} {q : Nat → List Int64} {r : Nat → Nat} (hI : kI i a q) (hr : kr r)  : km 1 11 [.int 6, .int 3] (ks i a q r) (kPI (ks i a q r) (fun v => v.toInt = 0)) := by
  have hG := kG_self kW0 hI hr
  refine km_ofPI (q := (mi_h11, mi_c11)) rfl (by decide) (Nat.le_of_ble_eq_true rfl) ?_
  intro P hP
  refine ft_go mi_k11 16 26 [(3, .int 0), (2, .int 6), (0, .int 6), (1, .int 3)] [.int (6 * 4), .ref (mi_RO + 3)] i a q r (by rfl) ?_
  refine ko_eq (x1 := (26, [(3, .int 0), (2, .int 6), (0, .int 6), (1, .int 3)], [.int 24, .ref (mi_RO + 3)], (0, 0), ks i a q r)) (by rw [(by decide : (6 * 4 : Int32) = 24)]) ?_
  refine ft_go mi_k11 2 28 [(3, .int 0), (2, .int 6), (0, .int 6), (1, .int 3)] [.int (24 + 3), .ref (mi_RO + 3)] i a q r (by rfl) ?_
  refine ko_eq (x1 := (28, [(3, .int 0), (2, .int 6), (0, .int 6), (1, .int 3)], [.int 27, .ref (mi_RO + 3)], (0, 0), ks i a q r)) (by rw [(by decide : (24 + 3 : Int32) = 27)]) ?_
  refine ko_iaro2 mi_k11.1 (l := [1, 10, 11, 2, 20, 0, 0, 0, 0, 30, 0, 0, 0, 41, 40, 0, 0, 0, 50, 0, 0, 0, 0, 60, 70, 0, 0, 0, 0, 80, 0, 81]) (n := 32) (c := 32) (ax := (0, 0, 0, 0, 0)) (mi_k11.2 _ _ (by rfl)) (by rfl) (by rfl) rfl rfl (oz1490 kn27) (oz1491 kn27) ?_
  have r1 : ((0 : Int) ≤ (([1, 10, 11, 2, 20, 0, 0, 0, 0, 30, 0, 0, 0, 41, 40, 0, 0, 0, 50, 0, 0, 0, 0, 60, 70, 0, 0, 0, 0, 80, 0, 81] : List Int32).getD (27 : Int32).toNatClampNeg 0).toInt) ∧ ((([1, 10, 11, 2, 20, 0, 0, 0, 0, 30, 0, 0, 0, 41, 40, 0, 0, 0, 50, 0, 0, 0, 0, 60, 70, 0, 0, 0, 0, 80, 0, 81] : List Int32).getD (27 : Int32).toNatClampNeg 0).toInt ≤ 81) := kro_rng (lo := 0) (hi := 81) (by decide) ((27 : Int32).toNatClampNeg)
  refine ko_eq (x1 := (29, [(3, .int 0), (2, .int 6), (0, .int 6), (1, .int 3)], [.int 0], (0, 0), ks i a q r)) (by rw [(by decide : (([1, 10, 11, 2, 20, 0, 0, 0, 0, 30, 0, 0, 0, 41, 40, 0, 0, 0, 50, 0, 0, 0, 0, 60, 70, 0, 0, 0, 0, 80, 0, 81] : List Int32).getD (27 : Int32).toNatClampNeg 0) = 0)]) ?_
  refine ft_go mi_k11 3 38 [(3, .int 0), (2, .int 6), (0, .int 6), (1, .int 3)] [.int 6, .ref (mi_RO + 4)] i a q r (by rfl) ?_
  refine ko_iaro2 mi_k11.1 (l := [(-1), 0, 0, 2, 1, 3, 0, 4]) (n := 8) (c := 8) (ax := (0, 0, 0, 0, 0)) (mi_k11.2 _ _ (by rfl)) (by rfl) (by rfl) rfl rfl (oz1130 kn6) (oz1485 kn6) ?_
  have r2 : ((-1 : Int) ≤ (([(-1), 0, 0, 2, 1, 3, 0, 4] : List Int32).getD (6 : Int32).toNatClampNeg 0).toInt) ∧ ((([(-1), 0, 0, 2, 1, 3, 0, 4] : List Int32).getD (6 : Int32).toNatClampNeg 0).toInt ≤ 4) := kro_rng (lo := -1) (hi := 4) (by decide) ((6 : Int32).toNatClampNeg)
  refine ko_eq (x1 := (39, [(3, .int 0), (2, .int 6), (0, .int 6), (1, .int 3)], [.int 0], (0, 0), ks i a q r)) (by rw [(by decide : (([(-1), 0, 0, 2, 1, 3, 0, 4] : List Int32).getD (6 : Int32).toNatClampNeg 0) = 0)]) ?_
  refine ft_go mi_k11 2 43 [(3, .int (0 + 1)), (2, .int 0), (0, .int 6), (1, .int 3)] [] i a q r (by rfl) ?_
  refine ko_eq (x1 := (43, [(3, .int 1), (2, .int 0), (0, .int 6), (1, .int 3)], [], (0, 0), ks i a q r)) (by rw [(by decide : (0 + 1 : Int32) = 1)]) ?_
  refine ft_go mi_k11 7 47 [(3, .int 1), (2, .int 0), (0, .int 6), (1, .int 3)] [.int 0] i a q r (by rfl) ?_
  exact ft_ret mi_k11 (by rfl) (hP 0 (oz236 kn0))
