set_option maxRecDepth 100000 in
theorem kc11_l05_l13 {i : Nat → Int32} {a : Nat → List Int32} {q : Nat → List Int64} {r : Nat → Nat} (hI : kI i a q) (hr : kr r)  : km 1 11 [.int 5, .int 3] (ks i a q r) (kPI (ks i a q r) (fun v => v.toInt = 5)) := by
  have hG := kG_self kW0 hI hr
  refine km_ofPI (q := (mi_h11, mi_c11)) rfl (by decide) (Nat.le_of_ble_eq_true rfl) ?_
  intro P hP
  refine ft_go mi_k11 16 26 [(3, .int 0), (2, .int 5), (0, .int 5), (1, .int 3)] [.int (5 * 4), .ref (mi_RO + 3)] i a q r (by rfl) ?_
  refine ko_eq (x1 := (26, [(3, .int 0), (2, .int 5), (0, .int 5), (1, .int 3)], [.int 20, .ref (mi_RO + 3)], (0, 0), ks i a q r)) (by rw [(by decide : (5 * 4 : Int32) = 20)]) ?_
  refine ft_go mi_k11 2 28 [(3, .int 0), (2, .int 5), (0, .int 5), (1, .int 3)] [.int (20 + 3), .ref (mi_RO + 3)] i a q r (by rfl) ?_
  refine ko_eq (x1 := (28, [(3, .int 0), (2, .int 5), (0, .int 5), (1, .int 3)], [.int 23, .ref (mi_RO + 3)], (0, 0), ks i a q r)) (by rw [(by decide : (20 + 3 : Int32) = 23)]) ?_
  refine ko_iaro2 mi_k11.1 (l := [1, 10, 11, 2, 20, 0, 0, 0, 0, 30, 0, 0, 0, 41, 40, 0, 0, 0, 50, 0, 0, 0, 0, 60, 70, 0, 0, 0, 0, 80, 0, 81]) (n := 32) (c := 32) (ax := (0, 0, 0, 0, 0)) (mi_k11.2 _ _ (by rfl)) (by rfl) (by rfl) rfl rfl (oz1476 kn23) (oz1477 kn23) ?_
  have r1 : ((0 : Int) ≤ (([1, 10, 11, 2, 20, 0, 0, 0, 0, 30, 0, 0, 0, 41, 40, 0, 0, 0, 50, 0, 0, 0, 0, 60, 70, 0, 0, 0, 0, 80, 0, 81] : List Int32).getD (23 : Int32).toNatClampNeg 0).toInt) ∧ ((([1, 10, 11, 2, 20, 0, 0, 0, 0, 30, 0, 0, 0, 41, 40, 0, 0, 0, 50, 0, 0, 0, 0, 60, 70, 0, 0, 0, 0, 80, 0, 81] : List Int32).getD (23 : Int32).toNatClampNeg 0).toInt ≤ 81) := kro_rng (lo := 0) (hi := 81) (by decide) ((23 : Int32).toNatClampNeg)
  refine ko_eq (x1 := (29, [(3, .int 0), (2, .int 5), (0, .int 5), (1, .int 3)], [.int 60], (0, 0), ks i a q r)) (by rw [(by decide : (([1, 10, 11, 2, 20, 0, 0, 0, 0, 30, 0, 0, 0, 41, 40, 0, 0, 0, 50, 0, 0, 0, 0, 60, 70, 0, 0, 0, 0, 80, 0, 81] : List Int32).getD (23 : Int32).toNatClampNeg 0) = 60)]) ?_
  refine ft_go mi_k11 2 33 [(3, .int 0), (2, .int 5), (0, .int 5), (1, .int 3)] [.int 5] i a q r (by rfl) ?_
  exact ft_ret mi_k11 (by rfl) (hP 5 (oz1470 kn5))

