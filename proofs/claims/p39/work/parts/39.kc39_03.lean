set_option maxRecDepth 100000 in
theorem kc11_l07_l11 {i : Nat → Int32} {a : Nat → List Int32} {q : Nat → List Int64} {r : Nat → Nat} (hI : kI i a q) (hr : kr r)  : km 1 11 [.int 7, .int 1] (ks i a q r) (kPI (ks i a q r) (fun v => v.toInt = 7)) := by
  have hG := kG_self kW0 hI hr
  refine km_ofPI (q := (mi_h11, mi_c11)) rfl (by decide) (Nat.le_of_ble_eq_true rfl) ?_
  intro P hP
  refine ft_go mi_k11 16 26 [(3, .int 0), (2, .int 7), (0, .int 7), (1, .int 1)] [.int (7 * 4), .ref (mi_RO + 3)] i a q r (by rfl) ?_
  refine ko_eq (x1 := (26, [(3, .int 0), (2, .int 7), (0, .int 7), (1, .int 1)], [.int 28, .ref (mi_RO + 3)], (0, 0), ks i a q r)) (by rw [(by decide : (7 * 4 : Int32) = 28)]) ?_
  refine ft_go mi_k11 2 28 [(3, .int 0), (2, .int 7), (0, .int 7), (1, .int 1)] [.int (28 + 1), .ref (mi_RO + 3)] i a q r (by rfl) ?_
  refine ko_eq (x1 := (28, [(3, .int 0), (2, .int 7), (0, .int 7), (1, .int 1)], [.int 29, .ref (mi_RO + 3)], (0, 0), ks i a q r)) (by rw [(by decide : (28 + 1 : Int32) = 29)]) ?_
  refine ko_iaro2 mi_k11.1 (l := [1, 10, 11, 2, 20, 0, 0, 0, 0, 30, 0, 0, 0, 41, 40, 0, 0, 0, 50, 0, 0, 0, 0, 60, 70, 0, 0, 0, 0, 80, 0, 81]) (n := 32) (c := 32) (ax := (0, 0, 0, 0, 0)) (mi_k11.2 _ _ (by rfl)) (by rfl) (by rfl) rfl rfl (oz1498 kn29) (oz1499 kn29) ?_
  have r1 : ((0 : Int) ≤ (([1, 10, 11, 2, 20, 0, 0, 0, 0, 30, 0, 0, 0, 41, 40, 0, 0, 0, 50, 0, 0, 0, 0, 60, 70, 0, 0, 0, 0, 80, 0, 81] : List Int32).getD (29 : Int32).toNatClampNeg 0).toInt) ∧ ((([1, 10, 11, 2, 20, 0, 0, 0, 0, 30, 0, 0, 0, 41, 40, 0, 0, 0, 50, 0, 0, 0, 0, 60, 70, 0, 0, 0, 0, 80, 0, 81] : List Int32).getD (29 : Int32).toNatClampNeg 0).toInt ≤ 81) := kro_rng (lo := 0) (hi := 81) (by decide) ((29 : Int32).toNatClampNeg)
  refine ko_eq (x1 := (29, [(3, .int 0), (2, .int 7), (0, .int 7), (1, .int 1)], [.int 80], (0, 0), ks i a q r)) (by rw [(by decide : (([1, 10, 11, 2, 20, 0, 0, 0, 0, 30, 0, 0, 0, 41, 40, 0, 0, 0, 50, 0, 0, 0, 0, 60, 70, 0, 0, 0, 0, 80, 0, 81] : List Int32).getD (29 : Int32).toNatClampNeg 0) = 80)]) ?_
  refine ft_go mi_k11 2 33 [(3, .int 0), (2, .int 7), (0, .int 7), (1, .int 1)] [.int 7] i a q r (by rfl) ?_
  exact ft_ret mi_k11 (by rfl) (hP 7 (oz1500 kn7))
set_option maxRecDepth 100000 in
theorem kc11_l07_l12 {i : Nat → Int32} {a : Nat → List Int32} {q : Nat → List Int64} {r : Nat → Nat} (hI : kI i a q) (hr : kr r)  : km 1 11 [.int 7, .int 2] (ks i a q r) (kPI (ks i a q r) (fun v => v.toInt = 4)) := by
  have hG := kG_self kW0 hI hr
  refine km_ofPI (q := (mi_h11, mi_c11)) rfl (by decide) (Nat.le_of_ble_eq_true rfl) ?_
  intro P hP
  refine ft_go mi_k11 16 26 [(3, .int 0), (2, .int 7), (0, .int 7), (1, .int 2)] [.int (7 * 4), .ref (mi_RO + 3)] i a q r (by rfl) ?_
  refine ko_eq (x1 := (26, [(3, .int 0), (2, .int 7), (0, .int 7), (1, .int 2)], [.int 28, .ref (mi_RO + 3)], (0, 0), ks i a q r)) (by rw [(by decide : (7 * 4 : Int32) = 28)]) ?_
  refine ft_go mi_k11 2 28 [(3, .int 0), (2, .int 7), (0, .int 7), (1, .int 2)] [.int (28 + 2), .ref (mi_RO + 3)] i a q r (by rfl) ?_
  refine ko_eq (x1 := (28, [(3, .int 0), (2, .int 7), (0, .int 7), (1, .int 2)], [.int 30, .ref (mi_RO + 3)], (0, 0), ks i a q r)) (by rw [(by decide : (28 + 2 : Int32) = 30)]) ?_
  refine ko_iaro2 mi_k11.1 (l := [1, 10, 11, 2, 20, 0, 0, 0, 0, 30, 0, 0, 0, 41, 40, 0, 0, 0, 50, 0, 0, 0, 0, 60, 70, 0, 0, 0, 0, 80, 0, 81]) (n := 32) (c := 32) (ax := (0, 0, 0, 0, 0)) (mi_k11.2 _ _ (by rfl)) (by rfl) (by rfl) rfl rfl (oz1502 kn30) (oz1503 kn30) ?_
  have r1 : ((0 : Int) ≤ (([1, 10, 11, 2, 20, 0, 0, 0, 0, 30, 0, 0, 0, 41, 40, 0, 0, 0, 50, 0, 0, 0, 0, 60, 70, 0, 0, 0, 0, 80, 0, 81] : List Int32).getD (30 : Int32).toNatClampNeg 0).toInt) ∧ ((([1, 10, 11, 2, 20, 0, 0, 0, 0, 30, 0, 0, 0, 41, 40, 0, 0, 0, 50, 0, 0, 0, 0, 60, 70, 0, 0, 0, 0, 80, 0, 81] : List Int32).getD (30 : Int32).toNatClampNeg 0).toInt ≤ 81) := kro_rng (lo := 0) (hi := 81) (by decide) ((30 : Int32).toNatClampNeg)
  refine ko_eq (x1 := (29, [(3, .int 0), (2, .int 7), (0, .int 7), (1, .int 2)], [.int 0], (0, 0), ks i a q r)) (by rw [(by decide : (([1, 10, 11, 2, 20, 0, 0, 0, 0, 30, 0, 0, 0, 41, 40, 0, 0, 0, 50, 0, 0, 0, 0, 60, 70, 0, 0, 0, 0, 80, 0, 81] : List Int32).getD (30 : Int32).toNatClampNeg 0) = 0)]) ?_
  refine ft_go mi_k11 3 38 [(3, .int 0), (2, .int 7), (0, .int 7), (1, .int 2)] [.int 7, .ref (mi_RO + 4)] i a q r (by rfl) ?_
  refine ko_iaro2 mi_k11.1 (l := [(-1), 0, 0, 2, 1, 3, 0, 4]) (n := 8) (c := 8) (ax := (0, 0, 0, 0, 0)) (mi_k11.2 _ _ (by rfl)) (by rfl) (by rfl) rfl rfl (oz1133 kn7) (oz1494 kn7) ?_
  have r2 : ((-1 : Int) ≤ (([(-1), 0, 0, 2, 1, 3, 0, 4] : List Int32).getD (7 : Int32).toNatClampNeg 0).toInt) ∧ ((([(-1), 0, 0, 2, 1, 3, 0, 4] : List Int32).getD (7 : Int32).toNatClampNeg 0).toInt ≤ 4) := kro_rng (lo := -1) (hi := 4) (by decide) ((7 : Int32).toNatClampNeg)
  refine ko_eq (x1 := (39, [(3, .int 0), (2, .int 7), (0, .int 7), (1, .int 2)], [.int 4], (0, 0), ks i a q r)) (by rw [(by decide : (([(-1), 0, 0, 2, 1, 3, 0, 4] : List Int32).getD (7 : Int32).toNatClampNeg 0) = 4)]) ?_
  refine ft_go mi_k11 2 43 [(3, .int (0 + 1)), (2, .int 4), (0, .int 7), (1, .int 2)] [] i a q r (by rfl) ?_
  refine ko_eq (x1 := (43, [(3, .int 1), (2, .int 4), (0, .int 7), (1, .int 2)], [], (0, 0), ks i a q r)) (by rw [(by decide : (0 + 1 : Int32) = 1)]) ?_
  refine ft_go mi_k11 13 26 [(3, .int 1), (2, .int 4), (0, .int 7), (1, .int 2)] [.int (4 * 4), .ref (mi_RO + 3)] i a q r (by rfl) ?_
  refine ko_eq (x1 := (26, [(3, .int 1), (2, .int 4), (0, .int 7), (1, .int 2)], [.int 16, .ref (mi_RO + 3)], (0, 0), ks i a q r)) (by rw [(by decide : (4 * 4 : Int32) = 16)]) ?_
  refine ft_go mi_k11 2 28 [(3, .int 1), (2, .int 4), (0, .int 7), (1, .int 2)] [.int (16 + 2), .ref (mi_RO + 3)] i a q r (by rfl) ?_
  refine ko_eq (x1 := (28, [(3, .int 1), (2, .int 4), (0, .int 7), (1, .int 2)], [.int 18, .ref (mi_RO + 3)], (0, 0), ks i a q r)) (by rw [(by decide : (16 + 2 : Int32) = 18)]) ?_
  refine ko_iaro2 mi_k11.1 (l := [1, 10, 11, 2, 20, 0, 0, 0, 0, 30, 0, 0, 0, 41, 40, 0, 0, 0, 50, 0, 0, 0, 0, 60, 70, 0, 0, 0, 0, 80, 0, 81]) (n := 32) (c := 32) (ax := (0, 0, 0, 0, 0)) (mi_k11.2 _ _ (by rfl)) (by rfl) (by rfl) rfl rfl (oz195 kn18) (oz1450 kn18) ?_
  have r3 : ((0 : Int) ≤ (([1, 10, 11, 2, 20, 0, 0, 0, 0, 30, 0, 0, 0, 41, 40, 0, 0, 0, 50, 0, 0, 0, 0, 60, 70, 0, 0, 0, 0, 80, 0, 81] : List Int32).getD (18 : Int32).toNatClampNeg 0).toInt) ∧ ((([1, 10, 11, 2, 20, 0, 0, 0, 0, 30, 0, 0, 0, 41, 40, 0, 0, 0, 50, 0, 0, 0, 0, 60, 70, 0, 0, 0, 0, 80, 0, 81] : List Int32).getD (18 : Int32).toNatClampNeg 0).toInt ≤ 81) := kro_rng (lo := 0) (hi := 81) (by decide) ((18 : Int32).toNatClampNeg)
  refine ko_eq (x1 := (29, [(3, .int 1), (2, .int 4), (0, .int 7), (1, .int 2)], [.int 50], (0, 0), ks i a q r)) (by rw [(by decide : (([1, 10, 11, 2, 20, 0, 0, 0, 0, 30, 0, 0, 0, 41, 40, 0, 0, 0, 50, 0, 0, 0, 0, 60, 70, 0, 0, 0, 0, 80, 0, 81] : List Int32).getD (18 : Int32).toNatClampNeg 0) = 50)]) ?_
  refine ft_go mi_k11 2 33 [(3, .int 1), (2, .int 4), (0, .int 7), (1, .int 2)] [.int 4] i a q r (by rfl) ?_
  exact ft_ret mi_k11 (by rfl) (hP 4 (oz1446 kn4))
