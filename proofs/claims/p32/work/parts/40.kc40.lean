set_option maxRecDepth 100000 in
theorem kc208_l03 {i : Nat → Int32} {a : Nat → List Int32} {q : Nat → List Int64} {r : Nat → Nat} (hI : kI i a q) (hr : kr r)  : km 1 208 [.int 3] (ks i a q r) (kPI (ks i a q r) (fun v => v.toInt = 2)) := by
  have hG := kG_self kW0 hI hr
  refine km_ofPI (q := (mi_h208, mi_c208)) rfl (by decide) (Nat.le_of_ble_eq_true rfl) ?_
  intro P hP
  refine ft_go mi_k208 3 37 [(0, .int 3)] [.int 2] i a q r (by rfl) ?_
  exact ft_ret mi_k208 (by rfl) (hP 2 (oz1411 kn2))
set_option maxRecDepth 100000 in
theorem kc208_l04 {i : Nat → Int32} {a : Nat → List Int32} {q : Nat → List Int64} {r : Nat → Nat} (hI : kI i a q) (hr : kr r)  : km 1 208 [.int 4] (ks i a q r) (kPI (ks i a q r) (fun v => v.toInt = 1)) := by
  have hG := kG_self kW0 hI hr
  refine km_ofPI (q := (mi_h208, mi_c208)) rfl (by decide) (Nat.le_of_ble_eq_true rfl) ?_
  intro P hP
  refine ft_go mi_k208 3 39 [(0, .int 4)] [.int 1] i a q r (by rfl) ?_
  exact ft_ret mi_k208 (by rfl) (hP 1 (oz1381 kn1))
set_option maxRecDepth 100000 in
theorem kc208_l05 {i : Nat → Int32} {a : Nat → List Int32} {q : Nat → List Int64} {r : Nat → Nat} (hI : kI i a q) (hr : kr r)  : km 1 208 [.int 5] (ks i a q r) (kPI (ks i a q r) (fun v => v.toInt = 3)) := by
  have hG := kG_self kW0 hI hr
  refine km_ofPI (q := (mi_h208, mi_c208)) rfl (by decide) (Nat.le_of_ble_eq_true rfl) ?_
  intro P hP
  refine ft_go mi_k208 3 41 [(0, .int 5)] [.int 3] i a q r (by rfl) ?_
  exact ft_ret mi_k208 (by rfl) (hP 3 (oz1421 kn3))
set_option maxRecDepth 100000 in
theorem kc208_l06 {i : Nat → Int32} {a : Nat → List Int32} {q : Nat → List Int64} {r : Nat → Nat} (hI : kI i a q) (hr : kr r)  : km 1 208 [.int 6] (ks i a q r) (kPI (ks i a q r) (fun v => v.toInt = 0)) := by
  have hG := kG_self kW0 hI hr
  refine km_ofPI (q := (mi_h208, mi_c208)) rfl (by decide) (Nat.le_of_ble_eq_true rfl) ?_
  intro P hP
  refine ft_go mi_k208 3 45 [(0, .int 6)] [.int 0] i a q r (by rfl) ?_
  exact ft_ret mi_k208 (by rfl) (hP 0 (oz236 kn0))
set_option maxRecDepth 100000 in
theorem kc208_l07 {i : Nat → Int32} {a : Nat → List Int32} {q : Nat → List Int64} {r : Nat → Nat} (hI : kI i a q) (hr : kr r)  : km 1 208 [.int 7] (ks i a q r) (kPI (ks i a q r) (fun v => v.toInt = 4)) := by
  have hG := kG_self kW0 hI hr
  refine km_ofPI (q := (mi_h208, mi_c208)) rfl (by decide) (Nat.le_of_ble_eq_true rfl) ?_
  intro P hP
  refine ft_go mi_k208 3 43 [(0, .int 7)] [.int 4] i a q r (by rfl) ?_
  exact ft_ret mi_k208 (by rfl) (hP 4 (oz1446 kn4))
