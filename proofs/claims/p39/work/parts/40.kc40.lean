theorem oz1550 {a0 : Int} (h0 : (0 : Int) ≤ a0) (h1 : (a0 + 7) ≤ 900) : ((0 : Int) ≤ a0) ∧ (a0 ≤ 999) := by omega
theorem oz1551 {a0 a1 : Int} (h0 : (0 : Int) ≤ a0) (h1 : (a1 + 4) ≤ 900) (h2 : a0 = (a1 + 1)) : ((0 : Int) ≤ a0) ∧ ((a0 + 3) ≤ 900) := by omega
theorem oz1552 {a0 a1 a2 : Int} (h0 : a0 = (a1 + 1)) (h1 : a2 = (a0 + 3)) : a2 = (a1 + 4) := by omega
theorem oz1553 {a0 a1 : Int} (h0 : (0 : Int) ≤ a0) (h1 : (a1 + 7) ≤ 900) (h2 : a0 = (a1 + 1)) : ((0 : Int) ≤ a0) ∧ ((a0 + 4) ≤ 900) := by omega
theorem oz1555 {a0 a1 a2 : Int} (h0 : (0 : Int) ≤ a0) (h1 : (a1 + 7) ≤ 900) (h2 : a2 = (a1 + 1)) (h3 : a0 = (a2 + 4)) : ((0 : Int) ≤ a0) ∧ ((a0 + 2) ≤ 900) := by omega
theorem oz1556 {a0 a1 a2 a3 : Int} (h0 : a0 = (a1 + 2)) (h1 : a2 = (a3 + 1)) (h2 : a1 = (a2 + 4)) : a0 = (a3 + 7) := by omega
theorem oz1557 {a0 : Int} (h0 : (0 : Int) ≤ a0) (h1 : (a0 + 7) ≤ 900) : ((0 : Int) ≤ a0) ∧ ((a0 + 7) ≤ 900) := by omega
theorem oz1558 {a0 a1 : Int} (h0 : a0 = (a1 + 7)) : a0 = (a1 + 7) := by omega
theorem oz1559 {a0 : Int} (h0 : (0 : Int) ≤ a0) (h1 : (a0 + 8) ≤ 900) : ((0 : Int) ≤ a0) ∧ (a0 ≤ 999) := by omega
theorem oz1560 {a0 a1 : Int} (h0 : (0 : Int) ≤ a0) (h1 : (a1 + 8) ≤ 900) (h2 : a0 = (a1 + 1)) : ((0 : Int) ≤ a0) ∧ ((a0 + 3) ≤ 900) := by omega
theorem oz1561 {a0 a1 : Int} (h0 : (0 : Int) ≤ a0) (h1 : (a1 + 4) ≤ 900) (h2 : a0 = (a1 + 1)) : ((0 : Int) ≤ a0) ∧ ((a0 + 1) ≤ 900) := by omega
theorem oz1562 {a0 a1 a2 : Int} (h0 : (0 : Int) ≤ a0) (h1 : (a1 + 4) ≤ 900) (h2 : a2 = (a1 + 1)) (h3 : a0 = (a2 + 1)) : ((0 : Int) ≤ a0) ∧ ((a0 + 2) ≤ 900) := by omega
theorem oz1563 {a0 a1 a2 a3 : Int} (h0 : a0 = (a1 + 2)) (h1 : a2 = (a3 + 1)) (h2 : a1 = (a2 + 1)) : a0 = (a3 + 4) := by omega
theorem oz1564 {a0 a1 a2 : Int} (h0 : (0 : Int) ≤ a0) (h1 : (a1 + 8) ≤ 900) (h2 : a2 = (a1 + 1)) (h3 : a0 = (a2 + 3)) : ((0 : Int) ≤ a0) ∧ ((a0 + 4) ≤ 900) := by omega
theorem oz1565 {a0 a1 a2 a3 : Int} (h0 : a0 = (a1 + 4)) (h1 : a2 = (a3 + 1)) (h2 : a1 = (a2 + 3)) : a0 = (a3 + 8) := by omega
theorem oz1566 {a0 : Int} (h0 : (0 : Int) ≤ a0) (h1 : (a0 + 8) ≤ 900) : ((0 : Int) ≤ a0) ∧ ((a0 + 8) ≤ 900) := by omega
theorem oz1567 {a0 a1 : Int} (h0 : a0 = (a1 + 8)) : a0 = (a1 + 8) := by omega
theorem oz1568 {a0 : Int} (h0 : (0 : Int) ≤ a0) (h1 : (a0 + 4) ≤ 900) : ((0 : Int) ≤ a0) ∧ ((a0 + 4) ≤ 900) := by omega
theorem oz1569 {a0 a1 : Int} (h0 : a0 = (a1 + 4)) : a0 = (a1 + 4) := by omega
theorem oz1571 {a0 a1 : Int} (h0 : (0 : Int) ≤ a0) (h1 : (a1 + 8) ≤ 900) (h2 : a0 = (a1 + 1)) : ((0 : Int) ≤ a0) ∧ ((a0 + 7) ≤ 900) := by omega
theorem oz1572 {a0 a1 a2 : Int} (h0 : a0 = (a1 + 1)) (h1 : a2 = (a0 + 7)) : a2 = (a1 + 8) := by omega
theorem oz1574 {a0 : Int} (h0 : (0 : Int) ≤ a0) (h1 : (a0 + 14) ≤ 900) : ((0 : Int) ≤ a0) ∧ (a0 ≤ 999) := by omega
theorem oz1575 {a0 : Int} (h0 : (0 : Int) ≤ a0) (h1 : (a0 + 13) ≤ 900) : ((0 : Int) ≤ a0) ∧ (a0 ≤ 999) := by omega
theorem oz1576 {a0 a1 : Int} (h0 : (0 : Int) ≤ a0) (h1 : (a1 + 13) ≤ 900) (h2 : a0 = (a1 + 1)) : ((0 : Int) ≤ a0) ∧ ((a0 + 8) ≤ 900) := by omega
theorem oz1577 {a0 a1 a2 : Int} (h0 : (0 : Int) ≤ a0) (h1 : (a1 + 13) ≤ 900) (h2 : a2 = (a1 + 1)) (h3 : a0 = (a2 + 8)) : ((0 : Int) ≤ a0) ∧ ((a0 + 4) ≤ 900) := by omega
theorem oz1578 {a0 a1 a2 a3 : Int} (h0 : a0 = (a1 + 4)) (h1 : a2 = (a3 + 1)) (h2 : a1 = (a2 + 8)) : a0 = (a3 + 13) := by omega
theorem oz1579 {a0 : Int} (h0 : (0 : Int) ≤ a0) (h1 : (a0 + 13) ≤ 900) : ((0 : Int) ≤ a0) ∧ ((a0 + 13) ≤ 900) := by omega
theorem oz1580 {a0 a1 : Int} (h0 : a0 = (a1 + 13)) : a0 = (a1 + 13) := by omega
theorem oz1581 {a0 a1 : Int} (h0 : (0 : Int) ≤ a0) (h1 : (a1 + 14) ≤ 900) (h2 : a0 = (a1 + 1)) : ((0 : Int) ≤ a0) ∧ ((a0 + 13) ≤ 900) := by omega
theorem oz1582 {a0 a1 a2 : Int} (h0 : a0 = (a1 + 1)) (h1 : a2 = (a0 + 13)) : a2 = (a1 + 14) := by omega
theorem oz1583 {a0 : Int} (h0 : (0 : Int) ≤ a0) (h1 : a0 ≤ 7) (h2 : ¬ (a0 = 0)) (h3 : ¬ (a0 = 1)) (h4 : ¬ (a0 = 2)) (h5 : ¬ (a0 = 3)) (h6 : ¬ (a0 = 4)) (h7 : ¬ (a0 = 5)) (h8 : ¬ (a0 = 6)) (h9 : ¬ (a0 = 7)) : False := by omega
set_option maxRecDepth 100000 in
theorem kc208_l03 {i : Nat → Int32} {a : Nat → List Int32} {q : Nat → List Int64} {r : Nat → Nat} (hI : kI i a q) (hr : kr r)  : km 1 208 [.int 3] (ks i a q r) (kPI (ks i a q r) (fun v => v.toInt = 2)) := by
  have hG := kG_self kW0 hI hr
  refine km_ofPI (q := (mi_h208, mi_c208)) rfl (by decide) (Nat.le_of_ble_eq_true rfl) ?_
  intro P hP
  refine ft_go mi_k208 3 37 [(0, .int 3)] [.int 2] i a q r (by rfl) ?_
  exact ft_ret mi_k208 (by rfl) (hP 2 (oz1411 kn2))
set_option maxRecDepth 100000 in
theorem kc208_l04 {i : Nat → Int32} {a : Nat → List Int32} {q : Nat → List Int64} {r : Nat → Nat} (hI : kI i a q) (hr : kr r)  : km 1 208 [.int 4] (ks i a q r) (kPI (ks i a q r) (fun v => v.toInt = 1)) := by
  have hG := kG_self kW0 hI hr
  refine km_ofPI (q := (mi_h208, mi_c208)) rfl (by decide) (Nat.le_of_ble_eq_true rfl) ?_
  intro P hP
  refine ft_go mi_k208 3 39 [(0, .int 4)] [.int 1] i a q r (by rfl) ?_
  exact ft_ret mi_k208 (by rfl) (hP 1 (oz1381 kn1))
set_option maxRecDepth 100000 in
theorem kc208_l05 {i : Nat → Int32} {a : Nat → List Int32} {q : Nat → List Int64} {r : Nat → Nat} (hI : kI i a q) (hr : kr r)  : km 1 208 [.int 5] (ks i a q r) (kPI (ks i a q r) (fun v => v.toInt = 3)) := by
  have hG := kG_self kW0 hI hr
  refine km_ofPI (q := (mi_h208, mi_c208)) rfl (by decide) (Nat.le_of_ble_eq_true rfl) ?_
  intro P hP
  refine ft_go mi_k208 3 41 [(0, .int 5)] [.int 3] i a q r (by rfl) ?_
  exact ft_ret mi_k208 (by rfl) (hP 3 (oz1421 kn3))
set_option maxRecDepth 100000 in
theorem kc208_l06 {i : Nat → Int32} {a : Nat → List Int32} {q : Nat → List Int64} {r : Nat → Nat} (hI : kI i a q) (hr : kr r)  : km 1 208 [.int 6] (ks i a q r) (kPI (ks i a q r) (fun v => v.toInt = 0)) := by
  have hG := kG_self kW0 hI hr
  refine km_ofPI (q := (mi_h208, mi_c208)) rfl (by decide) (Nat.le_of_ble_eq_true rfl) ?_
  intro P hP
  refine ft_go mi_k208 3 45 [(0, .int 6)] [.int 0] i a q r (by rfl) ?_
  exact ft_ret mi_k208 (by rfl) (hP 0 (oz236 kn0))
set_option maxRecDepth 100000 in
theorem kc208_l07 {i : Nat → Int32} {a : Nat → List Int32} {q : Nat → List Int64} {r : Nat → Nat} (hI : kI i a q) (hr : kr r)  : km 1 208 [.int 7] (ks i a q r) (kPI (ks i a q r) (fun v => v.toInt = 4)) := by
  have hG := kG_self kW0 hI hr
  refine km_ofPI (q := (mi_h208, mi_c208)) rfl (by decide) (Nat.le_of_ble_eq_true rfl) ?_
  intro P hP
  refine ft_go mi_k208 3 43 [(0, .int 7)] [.int 4] i a q r (by rfl) ?_
  exact ft_ret mi_k208 (by rfl) (hP 4 (oz1446 kn4))
