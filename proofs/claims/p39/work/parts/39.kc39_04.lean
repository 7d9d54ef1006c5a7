set_option maxRecDepth 100000 in
theorem kc11_l07_l13 {i : Nat → Int32} {a : Nat → List Int32} {q : Nat → List Int64} {r : Nat → Nat} (hI : kI i a q) (hr : kr r)  : km 1 11 [.int 7, .int 3] (ks i a q r) (kPI (ks i a q r) (fun v => v.toInt = 7)) := by
  have hG := kG_self kW0 hI hr
  refine km_ofPI (q := (mi_h11, mi_c11)) rfl (by decide) (Nat.le_of_ble_eq_true rfl) ?_
  intro P hP
  refine ft_go mi_k11 16 26 [(3, .int 0), (2, .int 7), (0, .int 7), (1, .int 3)] [.int (7 * 4), .ref (mi_RO + 3)] i a q r (by rfl) ?_
  refine ko_eq (x1 := (26, [(3, .int 0), (2, .int 7), (0, .int 7), (1, .int 3)], [.int 28, .ref (mi_RO + 3)], (0, 0), ks i a q r)) (by rw [(by decide : (7 * 4 : Int32) = 28)]) ?_
  refine ft_go mi_k11 2 28 [(3, .int 0), (2, .int 7), (0, .int 7), (1, .int 3)] [.int (28 + 3), .ref (mi_RO + 3)] i a q r (by rfl) ?_
  refine ko_eq (x1 := (28, [(3, .int 0), (2, .int 7), (0, .int 7), (1, .int 3)], [.int 31, .ref (mi_RO + 3)], (0, 0), ks i a q r)) (by rw [(by decide : (28 + 3 : Int32) = 31)]) ?_
  refine ko_iaro2 mi_k11.1 (l := [1, 10, 11, 2, 20, 0, 0, 0, 0, 30, 0, 0, 0, 41, 40, 0, 0, 0, 50, 0, 0, 0, 0, 60, 70, 0, 0, 0, 0, 80, 0, 81]) (n := 32) (c := 32) (ax := (0, 0, 0, 0, 0)) (mi_k11.2 _ _ (by rfl)) (by rfl) (by rfl) rfl rfl (oz1509 kn31) (oz1510 kn31) ?_
  have r1 : ((0 : Int) ≤ (([1, 10, 11, 2, 20, 0, 0, 0, 0, 30, 0, 0, 0, 41, 40, 0, 0, 0, 50, 0, 0, 0, 0, 60, 70, 0, 0, 0, 0, 80, 0, 81] : List Int32).getD (31 : Int32).toNatClampNeg 0).toInt) ∧ ((([1, 10, 11, 2, 20, 0, 0, 0, 0, 30, 0, 0, 0, 41, 40, 0, 0, 0, 50, 0, 0, 0, 0, 60, 70, 0, 0, 0, 0, 80, 0, 81] : List Int32).getD (31 : Int32).toNatClampNeg 0).toInt ≤ 81) := kro_rng (lo := 0) (hi := 81) (by decide) ((31 : Int32).toNatClampNeg)
  refine ko_eq (x1 := (29, [(3, .int 0), (2, .int 7), (0, .int 7), (1, .int 3)], [.int 81], (0, 0), ks i a q r)) (by rw [(by decide : (([1, 10, 11, 2, 20, 0, 0, 0, 0, 30, 0, 0, 0, 41, 40, 0, 0, 0, 50, 0, 0, 0, 0, 60, 70, 0, 0, 0, 0, 80, 0, 81] : List Int32).getD (31 : Int32).toNatClampNeg 0) = 81)]) ?_
  refine ft_go mi_k11 2 33 [(3, .int 0), (2, .int 7), (0, .int 7), (1, .int 3)] [.int 7] i a q r (by rfl) ?_
  exact ft_ret mi_k11 (by rfl) (hP 7 (oz1500 kn7))
set_option maxRecDepth 100000 in
theorem kc208_l01 {i : Nat → Int32} {a : Nat → List Int32} {q : Nat → List Int64} {r : Nat → Nat} (hI : kI i a q) (hr : kr r)  : km 1 208 [.int 1] (ks i a q r) (kPI (ks i a q r) (fun v => v.toInt = 0)) := by
  have hG := kG_self kW0 hI hr
  refine km_ofPI (q := (mi_h208, mi_c208)) rfl (by decide) (Nat.le_of_ble_eq_true rfl) ?_
  intro P hP
  refine ft_go mi_k208 3 45 [(0, .int 1)] [.int 0] i a q r (by rfl) ?_
  exact ft_ret mi_k208 (by rfl) (hP 0 (oz236 kn0))
set_option maxRecDepth 100000 in
theorem kc208_l02 {i : Nat → Int32} {a : Nat → List Int32} {q : Nat → List Int64} {r : Nat → Nat} (hI : kI i a q) (hr : kr r)  : km 1 208 [.int 2] (ks i a q r) (kPI (ks i a q r) (fun v => v.toInt = 0)) := by
  have hG := kG_self kW0 hI hr
  refine km_ofPI (q := (mi_h208, mi_c208)) rfl (by decide) (Nat.le_of_ble_eq_true rfl) ?_
  intro P hP
  refine ft_go mi_k208 3 45 [(0, .int 2)] [.int 0] i a q r (by rfl) ?_
  exact ft_ret mi_k208 (by rfl) (hP 0 (oz236 kn0))
