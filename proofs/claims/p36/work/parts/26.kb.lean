set_option maxRecDepth 100000 in
theorem kc120 {i : Nat → Int32} {a : Nat → List Int32} {q : Nat → List Int64} {r : Nat → Nat} (hI : kI i a q) (hr : kr r) (x1 : Int32) (x2 : Int32) (x3 : Int32) : km 1 120 [.int x1, .int x2, .int x3] (ks i a q r) (kPI (ks i a q r) (fun v => (v = 1 ∧ ((x2.toInt ≤ x1.toInt) ∧ (x1.toInt ≤ x3.toInt))) ∨ (v = 0 ∧ (¬ ((x2.toInt ≤ x1.toInt) ∧ (x1.toInt ≤ x3.toInt)))))) := by
  have n0 : (0 : Int32).toInt = 0 := by decide
  have n1 : (1 : Int32).toInt = 1 := by decide
  have hG := kG_self kW0 hI hr
  refine km_ofPI (q := (mi_h120, mi_c120)) rfl (by decide) (Nat.le_of_ble_eq_true rfl) ?_
  intro P hP
  refine ko_steps mi_in120 2 _ (2, [(0, .int x1), (1, .int x2), (2, .int x3)], [.int x2, .int x1], (0, 0), ks i a q r) (by rfl) ?_
  refine ko_if mi_in120 (decide (x1 < x2)) 14 5 ([(0, .int x1), (1, .int x2), (2, .int x3)], [], (0, 0), ks i a q r) (by rfl) (fun c => ?_) (fun c => ?_)
  ·
    have c1 := kd_lt c; clear c
    refine ko_steps mi_in120 1 _ (15, [(0, .int x1), (1, .int x2), (2, .int x3)], [.int 0], (0, 0), ks i a q r) (by rfl) ?_
    exact ko_ret mi_in120 (by rfl) (hP _ (Or.inr ⟨rfl, (show ¬ ((x2.toInt ≤ x1.toInt) ∧ (x1.toInt ≤ x3.toInt)) by omega)⟩))
  ·
    have c2 := kd_ltF c; clear c
    refine ko_steps mi_in120 2 _ (7, [(0, .int x1), (1, .int x2), (2, .int x3)], [.int x3, .int x1], (0, 0), ks i a q r) (by rfl) ?_
    refine ko_if mi_in120 (decide (x3 < x1)) 14 10 ([(0, .int x1), (1, .int x2), (2, .int x3)], [], (0, 0), ks i a q r) (by rfl) (fun c => ?_) (fun c => ?_)
    ·
      have c3 := kd_lt c; clear c
      refine ko_steps mi_in120 1 _ (15, [(0, .int x1), (1, .int x2), (2, .int x3)], [.int 0], (0, 0), ks i a q r) (by rfl) ?_
      exact ko_ret mi_in120 (by rfl) (hP _ (Or.inr ⟨rfl, (show ¬ ((x2.toInt ≤ x1.toInt) ∧ (x1.toInt ≤ x3.toInt)) by omega)⟩))
    ·
      have c4 := kd_ltF c; clear c
      refine ko_steps mi_in120 2 _ (15, [(0, .int x1), (1, .int x2), (2, .int x3)], [.int 1], (0, 0), ks i a q r) (by rfl) ?_
      exact ko_ret mi_in120 (by rfl) (hP _ (Or.inl ⟨rfl, (show (x2.toInt ≤ x1.toInt) ∧ (x1.toInt ≤ x3.toInt) by omega)⟩))
set_option maxRecDepth 100000 in
theorem kc131 {i : Nat → Int32} {a : Nat → List Int32} {q : Nat → List Int64} {r : Nat → Nat} (hI : kI i a q) (hr : kr r) (x1 : Int32) (x2 : Int32) (x3 : Int32) : km 1 131 [.int x1, .int x2, .int x3] (ks i a q r) (kPI (ks i a q r) (fun v => (v = 1 ∧ ((x2.toInt ≤ x1.toInt) ∧ (x1.toInt ≤ x3.toInt))) ∨ (v = 0 ∧ (¬ ((x2.toInt ≤ x1.toInt) ∧ (x1.toInt ≤ x3.toInt)))))) := by
  have n0 : (0 : Int32).toInt = 0 := by decide
  have n1 : (1 : Int32).toInt = 1 := by decide
  have hG := kG_self kW0 hI hr
  refine km_ofPI (q := (mi_h131, mi_c131)) rfl (by decide) (Nat.le_of_ble_eq_true rfl) ?_
  intro P hP
  refine ko_steps mi_in131 2 _ (2, [(0, .int x1), (1, .int x2), (2, .int x3)], [.int x2, .int x1], (0, 0), ks i a q r) (by rfl) ?_
  refine ko_if mi_in131 (decide (x1 < x2)) 14 5 ([(0, .int x1), (1, .int x2), (2, .int x3)], [], (0, 0), ks i a q r) (by rfl) (fun c => ?_) (fun c => ?_)
  ·
    have c1 := kd_lt c; clear c
    refine ko_steps mi_in131 1 _ (15, [(0, .int x1), (1, .int x2), (2, .int x3)], [.int 0], (0, 0), ks i a q r) (by rfl) ?_
    exact ko_ret mi_in131 (by rfl) (hP _ (Or.inr ⟨rfl, (show ¬ ((x2.toInt ≤ x1.toInt) ∧ (x1.toInt ≤ x3.toInt)) by omega)⟩))
  ·
    have c2 := kd_ltF c; clear c
    refine ko_steps mi_in131 2 _ (7, [(0, .int x1), (1, .int x2), (2, .int x3)], [.int x3, .int x1], (0, 0), ks i a q r) (by rfl) ?_
    refine ko_if mi_in131 (decide (x3 < x1)) 14 10 ([(0, .int x1), (1, .int x2), (2, .int x3)], [], (0, 0), ks i a q r) (by rfl) (fun c => ?_) (fun c => ?_)
    ·
      have c3 := kd_lt c; clear c
      refine ko_steps mi_in131 1 _ (15, [(0, .int x1), (1, .int x2), (2, .int x3)], [.int 0], (0, 0), ks i a q r) (by rfl) ?_
      exact ko_ret mi_in131 (by rfl) (hP _ (Or.inr ⟨rfl, (show ¬ ((x2.toInt ≤ x1.toInt) ∧ (x1.toInt ≤ x3.toInt)) by omega)⟩))
    ·
      have c4 := kd_ltF c; clear c
      refine ko_steps mi_in131 2 _ (15, [(0, .int x1), (1, .int x2), (2, .int x3)], [.int 1], (0, 0), ks i a q r) (by rfl) ?_
      exact ko_ret mi_in131 (by rfl) (hP _ (Or.inl ⟨rfl, (show (x2.toInt ≤ x1.toInt) ∧ (x1.toInt ≤ x3.toInt) by omega)⟩))
set_option maxRecDepth 100000 in
theorem kc121 {i : Nat → Int32} {a : Nat → List Int32} {q : Nat → List Int64} {r : Nat → Nat} (hI : kI i a q) (hr : kr r) (x1 : Int32) : km 3 121 [.int x1] (ks i a q r) (kPI (ks i a q r) (fun v => (v = 1 ∧ (((0 : Int) ≤ x1.toInt) ∧ (x1.toInt ≤ 5))) ∨ (v = 0 ∧ (¬ (((0 : Int) ≤ x1.toInt) ∧ (x1.toInt ≤ 5)))))) := by
  have n0 : (0 : Int32).toInt = 0 := by decide
  have n1 : (1 : Int32).toInt = 1 := by decide
  have n5 : (5 : Int32).toInt = 5 := by decide
  have hG := kG_self kW0 hI hr
  refine km_ofPI (q := (mi_h121, mi_c121)) rfl (by decide) (Nat.le_of_ble_eq_true rfl) ?_
  intro P hP
  refine ko_steps mi_in121 3 _ (3, [(0, .int x1)], [.int 5, .int 0, .int x1], (0, 0), ks i a q r) (by rfl) ?_
  refine ko_callPI mi_in121 (pc := 3) (ls := [(0, .int x1)]) (st := [.int 5, .int 0, .int x1]) (h := ks i a q r) (i := (.invokestatic 74, 3, 120, 0, 9, 0, 152)) (by rfl) (by rfl) (cy := mi_c120) rfl rfl (kc120 hG.I hG.R x1 0 5) (by decide) ?_
  intro vg1 hg1
  rcases hg1 with ⟨eg1, hg1⟩ | ⟨eg1, hg1⟩
  ·
    subst eg1
    have z2 : ((0 : Int) ≤ x1.toInt) ∧ (x1.toInt ≤ 5) := hg1
    exact ko_ret mi_in121 (by rfl) (hP _ (Or.inl ⟨rfl, (show ((0 : Int) ≤ x1.toInt) ∧ (x1.toInt ≤ 5) by omega)⟩))
  ·
    subst eg1
    have z3 : ¬ (((0 : Int) ≤ x1.toInt) ∧ (x1.toInt ≤ 5)) := hg1
    exact ko_ret mi_in121 (by rfl) (hP _ (Or.inr ⟨rfl, (show ¬ (((0 : Int) ≤ x1.toInt) ∧ (x1.toInt ≤ 5)) by omega)⟩))
set_option maxRecDepth 100000 in
theorem kc133 {i : Nat → Int32} {a : Nat → List Int32} {q : Nat → List Int64} {r : Nat → Nat} (hI : kI i a q) (hr : kr r) (x1 : Int32) : km 3 133 [.int x1] (ks i a q r) (kPI (ks i a q r) (fun v => (v = 1 ∧ (((0 : Int) ≤ x1.toInt) ∧ (x1.toInt ≤ 5))) ∨ (v = 0 ∧ (¬ (((0 : Int) ≤ x1.toInt) ∧ (x1.toInt ≤ 5)))))) := by
  have n0 : (0 : Int32).toInt = 0 := by decide
  have n1 : (1 : Int32).toInt = 1 := by decide
  have n5 : (5 : Int32).toInt = 5 := by decide
  have hG := kG_self kW0 hI hr
  refine km_ofPI (q := (mi_h133, mi_c133)) rfl (by decide) (Nat.le_of_ble_eq_true rfl) ?_
  intro P hP
  refine ko_steps mi_in133 3 _ (3, [(0, .int x1)], [.int 5, .int 0, .int x1], (0, 0), ks i a q r) (by rfl) ?_
  refine ko_callPI mi_in133 (pc := 3) (ls := [(0, .int x1)]) (st := [.int 5, .int 0, .int x1]) (h := ks i a q r) (i := (.invokestatic 119, 3, 131, 0, 9, 0, 379)) (by rfl) (by rfl) (cy := mi_c131) rfl rfl (kc131 hG.I hG.R x1 0 5) (by decide) ?_
  intro vg1 hg1
  rcases hg1 with ⟨eg1, hg1⟩ | ⟨eg1, hg1⟩
  ·
    subst eg1
    have z2 : ((0 : Int) ≤ x1.toInt) ∧ (x1.toInt ≤ 5) := hg1
    exact ko_ret mi_in133 (by rfl) (hP _ (Or.inl ⟨rfl, (show ((0 : Int) ≤ x1.toInt) ∧ (x1.toInt ≤ 5) by omega)⟩))
  ·
    subst eg1
    have z3 : ¬ (((0 : Int) ≤ x1.toInt) ∧ (x1.toInt ≤ 5)) := hg1
    exact ko_ret mi_in133 (by rfl) (hP _ (Or.inr ⟨rfl, (show ¬ (((0 : Int) ≤ x1.toInt) ∧ (x1.toInt ≤ 5)) by omega)⟩))
set_option maxRecDepth 100000 in
theorem kc24_1 {i : Nat → Int32} {a : Nat → List Int32} {q : Nat → List Int64} {r : Nat → Nat} (hI : kI i a q) (hr : kr r) (x1 : Int32) : km 1 24 [.ref 1, .int x1] (ks i a q r) (kPI (ks i a q r) (fun v => (v = 1 ∧ (((0 : Int) ≤ x1.toInt) ∧ (x1.toInt < (i 64).toInt))) ∨ (v = 0 ∧ (¬ (((0 : Int) ≤ x1.toInt) ∧ (x1.toInt < (i 64).toInt)))))) := by
  have n0 : (0 : Int32).toInt = 0 := by decide
  have n1 : (1 : Int32).toInt = 1 := by decide
  have n8 : (8 : Int32).toInt = 8 := by decide
  have hG := kG_self kW0 hI hr
  refine km_ofPI (q := (mi_h24, mi_c24)) rfl (by decide) (Nat.le_of_ble_eq_true rfl) ?_
  intro P hP
  refine ko_steps mi_in24 1 _ (1, [(0, .ref 1), (1, .int x1)], [.int x1], (0, 0), ks i a q r) (by rfl) ?_
  refine ko_if mi_in24 (decide (x1 < 0)) 22 4 ([(0, .ref 1), (1, .int x1)], [], (0, 0), ks i a q r) (by rfl) (fun c => ?_) (fun c => ?_)
  ·
    have c1 := kd_lt c; clear c
    refine ko_steps mi_in24 1 _ (23, [(0, .ref 1), (1, .int x1)], [.int 0], (0, 0), ks i a q r) (by rfl) ?_
    have fi_64 : (0 : Int) ≤ (i 64).toInt ∧ (i 64).toInt ≤ 8 := hG.I.1 64
    exact ko_ret mi_in24 (by rfl) (hP _ (Or.inr ⟨rfl, (show ¬ (((0 : Int) ≤ x1.toInt) ∧ (x1.toInt < (i 64).toInt)) by omega)⟩))
  ·
    have c2 := kd_ltF c; clear c
    have fi_64 : (0 : Int) ≤ (i 64).toInt ∧ (i 64).toInt ≤ 8 := hG.I.1 64
    refine ko_steps mi_in24 3 _ (9, [(0, .ref 1), (1, .int x1)], [.int (i 64), .int x1], (0, 0), ks i a q r) (by rfl) ?_
    refine ko_if mi_in24 (decide ((i 64) ≤ x1)) 22 12 ([(0, .ref 1), (1, .int x1)], [], (0, 0), ks i a q r) (by rfl) (fun c => ?_) (fun c => ?_)
    ·
      have c3 := kd_le c; clear c
      refine ko_steps mi_in24 1 _ (23, [(0, .ref 1), (1, .int x1)], [.int 0], (0, 0), ks i a q r) (by rfl) ?_
      exact ko_ret mi_in24 (by rfl) (hP _ (Or.inr ⟨rfl, (show ¬ (((0 : Int) ≤ x1.toInt) ∧ (x1.toInt < (i 64).toInt)) by omega)⟩))
    ·
      have c4 := kd_leF c; clear c
      refine ko_steps mi_in24 2 _ (15, [(0, .ref 1), (1, .int x1)], [.int 8, .int x1], (0, 0), ks i a q r) (by rfl) ?_
      refine ko_if mi_in24 (decide (8 ≤ x1)) 22 18 ([(0, .ref 1), (1, .int x1)], [], (0, 0), ks i a q r) (by rfl) (fun c => ?_) (fun c => ?_)
      ·
        have c5 := kd_le c; clear c
        exact absurd (show False by omega) id
      ·
        have c6 := kd_leF c; clear c
        refine ko_steps mi_in24 2 _ (23, [(0, .ref 1), (1, .int x1)], [.int 1], (0, 0), ks i a q r) (by rfl) ?_
        exact ko_ret mi_in24 (by rfl) (hP _ (Or.inl ⟨rfl, (show ((0 : Int) ≤ x1.toInt) ∧ (x1.toInt < (i 64).toInt) by omega)⟩))
set_option maxRecDepth 100000 in
theorem kc24_50 {i : Nat → Int32} {a : Nat → List Int32} {q : Nat → List Int64} {r : Nat → Nat} (hI : kI i a q) (hr : kr r) (x1 : Int32) : km 1 24 [.ref 50, .int x1] (ks i a q r) (kPI (ks i a q r) (fun v => (v = 1 ∧ (((0 : Int) ≤ x1.toInt) ∧ (x1.toInt < (i 3200).toInt))) ∨ (v = 0 ∧ (¬ (((0 : Int) ≤ x1.toInt) ∧ (x1.toInt < (i 3200).toInt)))))) := by
  have n0 : (0 : Int32).toInt = 0 := by decide
  have n1 : (1 : Int32).toInt = 1 := by decide
  have n8 : (8 : Int32).toInt = 8 := by decide
  have hG := kG_self kW0 hI hr
  refine km_ofPI (q := (mi_h24, mi_c24)) rfl (by decide) (Nat.le_of_ble_eq_true rfl) ?_
  intro P hP
  refine ko_steps mi_in24 1 _ (1, [(0, .ref 50), (1, .int x1)], [.int x1], (0, 0), ks i a q r) (by rfl) ?_
  refine ko_if mi_in24 (decide (x1 < 0)) 22 4 ([(0, .ref 50), (1, .int x1)], [], (0, 0), ks i a q r) (by rfl) (fun c => ?_) (fun c => ?_)
  ·
    have c1 := kd_lt c; clear c
    refine ko_steps mi_in24 1 _ (23, [(0, .ref 50), (1, .int x1)], [.int 0], (0, 0), ks i a q r) (by rfl) ?_
    have fi_3200 : (0 : Int) ≤ (i 3200).toInt ∧ (i 3200).toInt ≤ 8 := hG.I.1 3200
    exact ko_ret mi_in24 (by rfl) (hP _ (Or.inr ⟨rfl, (show ¬ (((0 : Int) ≤ x1.toInt) ∧ (x1.toInt < (i 3200).toInt)) by omega)⟩))
  ·
    have c2 := kd_ltF c; clear c
    have fi_3200 : (0 : Int) ≤ (i 3200).toInt ∧ (i 3200).toInt ≤ 8 := hG.I.1 3200
    refine ko_steps mi_in24 3 _ (9, [(0, .ref 50), (1, .int x1)], [.int (i 3200), .int x1], (0, 0), ks i a q r) (by rfl) ?_
    refine ko_if mi_in24 (decide ((i 3200) ≤ x1)) 22 12 ([(0, .ref 50), (1, .int x1)], [], (0, 0), ks i a q r) (by rfl) (fun c => ?_) (fun c => ?_)
    ·
      have c3 := kd_le c; clear c
      refine ko_steps mi_in24 1 _ (23, [(0, .ref 50), (1, .int x1)], [.int 0], (0, 0), ks i a q r) (by rfl) ?_
      exact ko_ret mi_in24 (by rfl) (hP _ (Or.inr ⟨rfl, (show ¬ (((0 : Int) ≤ x1.toInt) ∧ (x1.toInt < (i 3200).toInt)) by omega)⟩))
    ·
      have c4 := kd_leF c; clear c
      refine ko_steps mi_in24 2 _ (15, [(0, .ref 50), (1, .int x1)], [.int 8, .int x1], (0, 0), ks i a q r) (by rfl) ?_
      refine ko_if mi_in24 (decide (8 ≤ x1)) 22 18 ([(0, .ref 50), (1, .int x1)], [], (0, 0), ks i a q r) (by rfl) (fun c => ?_) (fun c => ?_)
      ·
        have c5 := kd_le c; clear c
        exact absurd (show False by omega) id
      ·
        have c6 := kd_leF c; clear c
        refine ko_steps mi_in24 2 _ (23, [(0, .ref 50), (1, .int x1)], [.int 1], (0, 0), ks i a q r) (by rfl) ?_
        exact ko_ret mi_in24 (by rfl) (hP _ (Or.inl ⟨rfl, (show ((0 : Int) ≤ x1.toInt) ∧ (x1.toInt < (i 3200).toInt) by omega)⟩))
set_option maxRecDepth 100000 in
theorem kc123_0 {i : Nat → Int32} {a : Nat → List Int32} {q : Nat → List Int64} {r : Nat → Nat} (hI : kI i a q) (hr : kr r) (x1 : Int32) : km 3 123 [.ref 0, .int x1] (ks i a q r) (kPI (ks i a q r) (fun v => (v = 1 ∧ (((0 : Int) ≤ x1.toInt) ∧ (x1.toInt < (i 64).toInt))) ∨ (v = 0 ∧ (¬ (((0 : Int) ≤ x1.toInt) ∧ (x1.toInt < (i 64).toInt)))))) := by
  have n0 : (0 : Int32).toInt = 0 := by decide
  have n1 : (1 : Int32).toInt = 1 := by decide
  have hG := kG_self kW0 hI hr
  refine km_ofPI (q := (mi_h123, mi_c123)) rfl (by decide) (Nat.le_of_ble_eq_true rfl) ?_
  intro P hP
  refine ko_steps mi_in123 3 _ (5, [(0, .ref 0), (1, .int x1)], [.int x1, .ref 1], (0, 0), ks i a q r) (by rfl) ?_
  refine ko_callPI mi_in123 (pc := 5) (ls := [(0, .ref 0), (1, .int x1)]) (st := [.int x1, .ref 1]) (h := ks i a q r) (i := (.invokevirtual 342, 3, 24, 0, 9, 0, 163)) (by rfl) (by rfl) (cy := mi_c24) rfl rfl (kc24_1 hG.I hG.R x1) (by decide) ?_
  intro vg1 hg1
  rcases hg1 with ⟨eg1, hg1⟩ | ⟨eg1, hg1⟩
  ·
    subst eg1
    have fi_64 : (0 : Int) ≤ (i 64).toInt ∧ (i 64).toInt ≤ 8 := hG.I.1 64
    have z2 : ((0 : Int) ≤ x1.toInt) ∧ (x1.toInt < (i 64).toInt) := hg1
    exact ko_ret mi_in123 (by rfl) (hP _ (Or.inl ⟨rfl, (show ((0 : Int) ≤ x1.toInt) ∧ (x1.toInt < (i 64).toInt) by omega)⟩))
  ·
    subst eg1
    have fi_64 : (0 : Int) ≤ (i 64).toInt ∧ (i 64).toInt ≤ 8 := hG.I.1 64
    have z3 : ¬ (((0 : Int) ≤ x1.toInt) ∧ (x1.toInt < (i 64).toInt)) := hg1
    exact ko_ret mi_in123 (by rfl) (hP _ (Or.inr ⟨rfl, (show ¬ (((0 : Int) ≤ x1.toInt) ∧ (x1.toInt < (i 64).toInt)) by omega)⟩))
set_option maxRecDepth 100000 in
theorem kc132_116 {i : Nat → Int32} {a : Nat → List Int32} {q : Nat → List Int64} {r : Nat → Nat} (hI : kI i a q) (hr : kr r) (x1 : Int32) : km 3 132 [.ref 116, .int x1] (ks i a q r) (kPI (ks i a q r) (fun v => (v = 1 ∧ (((0 : Int) ≤ x1.toInt) ∧ (x1.toInt < (i 7424).toInt))) ∨ (v = 0 ∧ (¬ (((0 : Int) ≤ x1.toInt) ∧ (x1.toInt < (i 7424).toInt)))))) := by
  have n0 : (0 : Int32).toInt = 0 := by decide
  have n1 : (1 : Int32).toInt = 1 := by decide
  have hG := kG_self kW0 hI hr
  refine km_ofPI (q := (mi_h132, mi_c132)) rfl (by decide) (Nat.le_of_ble_eq_true rfl) ?_
  intro P hP
  have fi_7424 : (0 : Int) ≤ (i 7424).toInt ∧ (i 7424).toInt ≤ 8 := hG.I.1 7424
  have s1 : ((i 7424) - 1).toInt = (i 7424).toInt - (1 : Int32).toInt := kd_sub (by omega) (by omega)
  refine ko_steps mi_in132 6 _ (8, [(0, .ref 116), (1, .int x1)], [.int ((i 7424) - 1), .int 0, .int x1], (0, 0), ks i a q r) (by rfl) ?_
  refine ko_callPI mi_in132 (pc := 8) (ls := [(0, .ref 116), (1, .int x1)]) (st := [.int ((i 7424) - 1), .int 0, .int x1]) (h := ks i a q r) (i := (.invokestatic 119, 3, 131, 0, 9, 0, 379)) (by rfl) (by rfl) (cy := mi_c131) rfl rfl (kc131 hG.I hG.R x1 0 ((i 7424) - 1)) (by decide) ?_
  intro vg2 hg2
  rcases hg2 with ⟨eg2, hg2⟩ | ⟨eg2, hg2⟩
  ·
    subst eg2
    have z3 : ((0 : Int) ≤ x1.toInt) ∧ (x1.toInt ≤ ((i 7424) - 1).toInt) := hg2
    exact ko_ret mi_in132 (by rfl) (hP _ (Or.inl ⟨rfl, (show ((0 : Int) ≤ x1.toInt) ∧ (x1.toInt < (i 7424).toInt) by omega)⟩))
  ·
    subst eg2
    have z4 : ¬ (((0 : Int) ≤ x1.toInt) ∧ (x1.toInt ≤ ((i 7424) - 1).toInt)) := hg2
    exact ko_ret mi_in132 (by rfl) (hP _ (Or.inr ⟨rfl, (show ¬ (((0 : Int) ≤ x1.toInt) ∧ (x1.toInt < (i 7424).toInt)) by omega)⟩))
set_option maxRecDepth 100000 in
theorem kc122 {i : Nat → Int32} {a : Nat → List Int32} {q : Nat → List Int64} {r : Nat → Nat} (hI : kI i a q) (hr : kr r) (x1 : Int32) : km 5 122 [.int x1] (ks i a q r) (kPI (ks i a q r) (fun v => (v = 1 ∧ (((0 : Int) ≤ x1.toInt) ∧ (((0 : Int) ≤ (x1.toInt / 10)) ∧ ((x1.toInt / 10) ≤ 5)) ∧ ((x1.toInt % 10) ≤ 5))) ∨ (v = 0 ∧ (¬ (((0 : Int) ≤ x1.toInt) ∧ (((0 : Int) ≤ (x1.toInt / 10)) ∧ ((x1.toInt / 10) ≤ 5)) ∧ ((x1.toInt % 10) ≤ 5)))))) := by
  have n0 : (0 : Int32).toInt = 0 := by decide
  have n1 : (1 : Int32).toInt = 1 := by decide
  have n10 : (10 : Int32).toInt = 10 := by decide
  have hG := kG_self kW0 hI hr
  refine km_ofPI (q := (mi_h122, mi_c122)) rfl (by decide) (Nat.le_of_ble_eq_true rfl) ?_
  intro P hP
  refine ko_steps mi_in122 1 _ (1, [(0, .int x1)], [.int x1], (0, 0), ks i a q r) (by rfl) ?_
  refine ko_if mi_in122 (decide (x1 < 0)) 28 4 ([(0, .int x1)], [], (0, 0), ks i a q r) (by rfl) (fun c => ?_) (fun c => ?_)
  ·
    have c1 := kd_lt c; clear c
    refine ko_steps mi_in122 1 _ (29, [(0, .int x1)], [.int 0], (0, 0), ks i a q r) (by rfl) ?_
    exact ko_ret mi_in122 (by rfl) (hP _ (Or.inr ⟨rfl, (show ¬ (((0 : Int) ≤ x1.toInt) ∧ (((0 : Int) ≤ (x1.toInt / 10)) ∧ ((x1.toInt / 10) ≤ 5)) ∧ ((x1.toInt % 10) ≤ 5)) by omega)⟩))
  ·
    have c2 := kd_ltF c; clear c
    have s3 : (x1 / 10).toInt = (x1.toInt / 10) := kd_div 10 (by decide) (by decide) (by omega)
    refine ko_steps mi_in122 3 _ (8, [(0, .int x1)], [.int (x1 / 10)], (0, 0), ks i a q r) (by rfl) ?_
    refine ko_callPI mi_in122 (pc := 8) (ls := [(0, .int x1)]) (st := [.int (x1 / 10)]) (h := ks i a q r) (i := (.invokestatic 70, 3, 121, 0, 9, 0, 157)) (by rfl) (by rfl) (cy := mi_c121) rfl rfl (kc121 hG.I hG.R (x1 / 10)) (by decide) ?_
    intro vg4 hg4
    rcases hg4 with ⟨eg4, hg4⟩ | ⟨eg4, hg4⟩
    ·
      subst eg4
      have z5 : ((0 : Int) ≤ (x1 / 10).toInt) ∧ ((x1 / 10).toInt ≤ 5) := hg4
      have s6 : (x1 - x1 / 10 * 10).toInt = (x1.toInt % 10) := kd_rem 10 (by decide) (by decide) (by omega)
      refine ko_steps mi_in122 4 _ (18, [(0, .int x1)], [.int (x1 - x1 / 10 * 10)], (0, 0), ks i a q r) (by rfl) ?_
      refine ko_callPI mi_in122 (pc := 18) (ls := [(0, .int x1)]) (st := [.int (x1 - x1 / 10 * 10)]) (h := ks i a q r) (i := (.invokestatic 70, 3, 121, 0, 9, 0, 157)) (by rfl) (by rfl) (cy := mi_c121) rfl rfl (kc121 hG.I hG.R (x1 - x1 / 10 * 10)) (by decide) ?_
      intro vg7 hg7
      rcases hg7 with ⟨eg7, hg7⟩ | ⟨eg7, hg7⟩
      ·
        subst eg7
        have z8 : ((0 : Int) ≤ (x1 - x1 / 10 * 10).toInt) ∧ ((x1 - x1 / 10 * 10).toInt ≤ 5) := hg7
        refine ko_steps mi_in122 3 _ (29, [(0, .int x1)], [.int 1], (0, 0), ks i a q r) (by rfl) ?_
        exact ko_ret mi_in122 (by rfl) (hP _ (Or.inl ⟨rfl, (show ((0 : Int) ≤ x1.toInt) ∧ (((0 : Int) ≤ (x1.toInt / 10)) ∧ ((x1.toInt / 10) ≤ 5)) ∧ ((x1.toInt % 10) ≤ 5) by omega)⟩))
      ·
        subst eg7
        have z9 : ¬ (((0 : Int) ≤ (x1 - x1 / 10 * 10).toInt) ∧ ((x1 - x1 / 10 * 10).toInt ≤ 5)) := hg7
        refine ko_steps mi_in122 2 _ (29, [(0, .int x1)], [.int 0], (0, 0), ks i a q r) (by rfl) ?_
        exact ko_ret mi_in122 (by rfl) (hP _ (Or.inr ⟨rfl, (show ¬ (((0 : Int) ≤ x1.toInt) ∧ (((0 : Int) ≤ (x1.toInt / 10)) ∧ ((x1.toInt / 10) ≤ 5)) ∧ ((x1.toInt % 10) ≤ 5)) by omega)⟩))
    ·
      subst eg4
      have z10 : ¬ (((0 : Int) ≤ (x1 / 10).toInt) ∧ ((x1 / 10).toInt ≤ 5)) := hg4
      refine ko_steps mi_in122 2 _ (29, [(0, .int x1)], [.int 0], (0, 0), ks i a q r) (by rfl) ?_
      exact ko_ret mi_in122 (by rfl) (hP _ (Or.inr ⟨rfl, (show ¬ (((0 : Int) ≤ x1.toInt) ∧ (((0 : Int) ≤ (x1.toInt / 10)) ∧ ((x1.toInt / 10) ≤ 5)) ∧ ((x1.toInt % 10) ≤ 5)) by omega)⟩))
set_option maxRecDepth 100000 in
theorem kc190_116 {i : Nat → Int32} {a : Nat → List Int32} {q : Nat → List Int64} {r : Nat → Nat} (hI : kI i a q) (hr : kr r) (x1 : Int32) : km 5 190 [.ref 116, .int x1] (ks i a q r) (kPI (ks i a q r) (fun v => (v = 1 ∧ (((0 : Int) ≤ x1.toInt) ∧ (((0 : Int) ≤ (x1.toInt / 10)) ∧ ((x1.toInt / 10) ≤ 5)) ∧ ((x1.toInt % 10) ≤ 5))) ∨ (v = 0 ∧ (¬ (((0 : Int) ≤ x1.toInt) ∧ (((0 : Int) ≤ (x1.toInt / 10)) ∧ ((x1.toInt / 10) ≤ 5)) ∧ ((x1.toInt % 10) ≤ 5)))))) := by
  have n0 : (0 : Int32).toInt = 0 := by decide
  have n1 : (1 : Int32).toInt = 1 := by decide
  have n10 : (10 : Int32).toInt = 10 := by decide
  have hG := kG_self kW0 hI hr
  refine km_ofPI (q := (mi_h190, mi_c190)) rfl (by decide) (Nat.le_of_ble_eq_true rfl) ?_
  intro P hP
  refine ko_steps mi_in190 1 _ (1, [(0, .ref 116), (1, .int x1)], [.int x1], (0, 0), ks i a q r) (by rfl) ?_
  refine ko_if mi_in190 (decide (x1 < 0)) 28 4 ([(0, .ref 116), (1, .int x1)], [], (0, 0), ks i a q r) (by rfl) (fun c => ?_) (fun c => ?_)
  ·
    have c1 := kd_lt c; clear c
    refine ko_steps mi_in190 1 _ (29, [(0, .ref 116), (1, .int x1)], [.int 0], (0, 0), ks i a q r) (by rfl) ?_
    exact ko_ret mi_in190 (by rfl) (hP _ (Or.inr ⟨rfl, (show ¬ (((0 : Int) ≤ x1.toInt) ∧ (((0 : Int) ≤ (x1.toInt / 10)) ∧ ((x1.toInt / 10) ≤ 5)) ∧ ((x1.toInt % 10) ≤ 5)) by omega)⟩))
  ·
    have c2 := kd_ltF c; clear c
    have s3 : (x1 / 10).toInt = (x1.toInt / 10) := kd_div 10 (by decide) (by decide) (by omega)
    refine ko_steps mi_in190 3 _ (8, [(0, .ref 116), (1, .int x1)], [.int (x1 / 10)], (0, 0), ks i a q r) (by rfl) ?_
    refine ko_callPI mi_in190 (pc := 8) (ls := [(0, .ref 116), (1, .int x1)]) (st := [.int (x1 / 10)]) (h := ks i a q r) (i := (.invokestatic 127, 3, 133, 0, 9, 0, 382)) (by rfl) (by rfl) (cy := mi_c133) rfl rfl (kc133 hG.I hG.R (x1 / 10)) (by decide) ?_
    intro vg4 hg4
    rcases hg4 with ⟨eg4, hg4⟩ | ⟨eg4, hg4⟩
    ·
      subst eg4
      have z5 : ((0 : Int) ≤ (x1 / 10).toInt) ∧ ((x1 / 10).toInt ≤ 5) := hg4
      have s6 : (x1 - x1 / 10 * 10).toInt = (x1.toInt % 10) := kd_rem 10 (by decide) (by decide) (by omega)
      refine ko_steps mi_in190 4 _ (18, [(0, .ref 116), (1, .int x1)], [.int (x1 - x1 / 10 * 10)], (0, 0), ks i a q r) (by rfl) ?_
      refine ko_callPI mi_in190 (pc := 18) (ls := [(0, .ref 116), (1, .int x1)]) (st := [.int (x1 - x1 / 10 * 10)]) (h := ks i a q r) (i := (.invokestatic 127, 3, 133, 0, 9, 0, 382)) (by rfl) (by rfl) (cy := mi_c133) rfl rfl (kc133 hG.I hG.R (x1 - x1 / 10 * 10)) (by decide) ?_
      intro vg7 hg7
      rcases hg7 with ⟨eg7, hg7⟩ | ⟨eg7, hg7⟩
      ·
        subst eg7
        have z8 : ((0 : Int) ≤ (x1 - x1 / 10 * 10).toInt) ∧ ((x1 - x1 / 10 * 10).toInt ≤ 5) := hg7
        refine ko_steps mi_in190 3 _ (29, [(0, .ref 116), (1, .int x1)], [.int 1], (0, 0), ks i a q r) (by rfl) ?_
        exact ko_ret mi_in190 (by rfl) (hP _ (Or.inl ⟨rfl, (show ((0 : Int) ≤ x1.toInt) ∧ (((0 : Int) ≤ (x1.toInt / 10)) ∧ ((x1.toInt / 10) ≤ 5)) ∧ ((x1.toInt % 10) ≤ 5) by omega)⟩))
      ·
        subst eg7
        have z9 : ¬ (((0 : Int) ≤ (x1 - x1 / 10 * 10).toInt) ∧ ((x1 - x1 / 10 * 10).toInt ≤ 5)) := hg7
        refine ko_steps mi_in190 2 _ (29, [(0, .ref 116), (1, .int x1)], [.int 0], (0, 0), ks i a q r) (by rfl) ?_
        exact ko_ret mi_in190 (by rfl) (hP _ (Or.inr ⟨rfl, (show ¬ (((0 : Int) ≤ x1.toInt) ∧ (((0 : Int) ≤ (x1.toInt / 10)) ∧ ((x1.toInt / 10) ≤ 5)) ∧ ((x1.toInt % 10) ≤ 5)) by omega)⟩))
    ·
      subst eg4
      have z10 : ¬ (((0 : Int) ≤ (x1 / 10).toInt) ∧ ((x1 / 10).toInt ≤ 5)) := hg4
      refine ko_steps mi_in190 2 _ (29, [(0, .ref 116), (1, .int x1)], [.int 0], (0, 0), ks i a q r) (by rfl) ?_
      exact ko_ret mi_in190 (by rfl) (hP _ (Or.inr ⟨rfl, (show ¬ (((0 : Int) ≤ x1.toInt) ∧ (((0 : Int) ≤ (x1.toInt / 10)) ∧ ((x1.toInt / 10) ≤ 5)) ∧ ((x1.toInt % 10) ≤ 5)) by omega)⟩))
set_option maxRecDepth 100000 in
theorem kc124_0 {i : Nat → Int32} {a : Nat → List Int32} {q : Nat → List Int64} {r : Nat → Nat} (hI : kI i a q) (hr : kr r) (x1 : Int32) : km 5 124 [.ref 0, .int x1] (ks i a q r) (kPI (ks i a q r) (fun v => (v = 1 ∧ (((0 : Int) ≤ x1.toInt) ∧ (((x1.toInt / 10) < (i 64).toInt) ∧ ((x1.toInt % 10) < (i 64).toInt)) ∧ ((x1.toInt / 10) ≠ (x1.toInt % 10)))) ∨ (v = 0 ∧ (¬ (((0 : Int) ≤ x1.toInt) ∧ (((x1.toInt / 10) < (i 64).toInt) ∧ ((x1.toInt % 10) < (i 64).toInt)) ∧ ((x1.toInt / 10) ≠ (x1.toInt % 10))))))) := by
  have n0 : (0 : Int32).toInt = 0 := by decide
  have n1 : (1 : Int32).toInt = 1 := by decide
  have n10 : (10 : Int32).toInt = 10 := by decide
  have hG := kG_self kW0 hI hr
  refine km_ofPI (q := (mi_h124, mi_c124)) rfl (by decide) (Nat.le_of_ble_eq_true rfl) ?_
  intro P hP
  refine ko_steps mi_in124 1 _ (1, [(0, .ref 0), (1, .int x1)], [.int x1], (0, 0), ks i a q r) (by rfl) ?_
  refine ko_if mi_in124 (decide (x1 < 0)) 41 4 ([(0, .ref 0), (1, .int x1)], [], (0, 0), ks i a q r) (by rfl) (fun c => ?_) (fun c => ?_)
  ·
    have c1 := kd_lt c; clear c
    refine ko_steps mi_in124 1 _ (42, [(0, .ref 0), (1, .int x1)], [.int 0], (0, 0), ks i a q r) (by rfl) ?_
    have fi_64 : (0 : Int) ≤ (i 64).toInt ∧ (i 64).toInt ≤ 8 := hG.I.1 64
    exact ko_ret mi_in124 (by rfl) (hP _ (Or.inr ⟨rfl, (show ¬ (((0 : Int) ≤ x1.toInt) ∧ (((x1.toInt / 10) < (i 64).toInt) ∧ ((x1.toInt % 10) < (i 64).toInt)) ∧ ((x1.toInt / 10) ≠ (x1.toInt % 10))) by omega)⟩))
  ·
    have c2 := kd_ltF c; clear c
    have s3 : (x1 / 10).toInt = (x1.toInt / 10) := kd_div 10 (by decide) (by decide) (by omega)
    refine ko_steps mi_in124 4 _ (9, [(0, .ref 0), (1, .int x1)], [.int (x1 / 10), .ref 0], (0, 0), ks i a q r) (by rfl) ?_
    refine ko_callPI mi_in124 (pc := 9) (ls := [(0, .ref 0), (1, .int x1)]) (st := [.int (x1 / 10), .ref 0]) (h := ks i a q r) (i := (.invokevirtual 141, 3, 123, 0, 9, 0, 162)) (by rfl) (by rfl) (cy := mi_c123) rfl rfl (kc123_0 hG.I hG.R (x1 / 10)) (by decide) ?_
    intro vg4 hg4
    rcases hg4 with ⟨eg4, hg4⟩ | ⟨eg4, hg4⟩
    ·
      subst eg4
      have fi_64 : (0 : Int) ≤ (i 64).toInt ∧ (i 64).toInt ≤ 8 := hG.I.1 64
      have z5 : ((0 : Int) ≤ (x1 / 10).toInt) ∧ ((x1 / 10).toInt < (i 64).toInt) := hg4
      have s6 : (x1 - x1 / 10 * 10).toInt = (x1.toInt % 10) := kd_rem 10 (by decide) (by decide) (by omega)
      refine ko_steps mi_in124 5 _ (20, [(0, .ref 0), (1, .int x1)], [.int (x1 - x1 / 10 * 10), .ref 0], (0, 0), ks i a q r) (by rfl) ?_
      refine ko_callPI mi_in124 (pc := 20) (ls := [(0, .ref 0), (1, .int x1)]) (st := [.int (x1 - x1 / 10 * 10), .ref 0]) (h := ks i a q r) (i := (.invokevirtual 141, 3, 123, 0, 9, 0, 162)) (by rfl) (by rfl) (cy := mi_c123) rfl rfl (kc123_0 hG.I hG.R (x1 - x1 / 10 * 10)) (by decide) ?_
      intro vg7 hg7
      rcases hg7 with ⟨eg7, hg7⟩ | ⟨eg7, hg7⟩
      ·
        subst eg7
        have z8 : ((0 : Int) ≤ (x1 - x1 / 10 * 10).toInt) ∧ ((x1 - x1 / 10 * 10).toInt < (i 64).toInt) := hg7
        refine ko_steps mi_in124 7 _ (34, [(0, .ref 0), (1, .int x1)], [.int (x1 - x1 / 10 * 10), .int (x1 / 10)], (0, 0), ks i a q r) (by rfl) ?_
        refine ko_if mi_in124 ((x1 / 10) == (x1 - x1 / 10 * 10)) 41 37 ([(0, .ref 0), (1, .int x1)], [], (0, 0), ks i a q r) (by rfl) (fun c => ?_) (fun c => ?_)
        ·
          have c9 := kd_eq c; clear c
          refine ko_steps mi_in124 1 _ (42, [(0, .ref 0), (1, .int x1)], [.int 0], (0, 0), ks i a q r) (by rfl) ?_
          exact ko_ret mi_in124 (by rfl) (hP _ (Or.inr ⟨rfl, (show ¬ (((0 : Int) ≤ x1.toInt) ∧ (((x1.toInt / 10) < (i 64).toInt) ∧ ((x1.toInt % 10) < (i 64).toInt)) ∧ ((x1.toInt / 10) ≠ (x1.toInt % 10))) by omega)⟩))
        ·
          have c10 := kd_eqF c; clear c
          refine ko_steps mi_in124 2 _ (42, [(0, .ref 0), (1, .int x1)], [.int 1], (0, 0), ks i a q r) (by rfl) ?_
          exact ko_ret mi_in124 (by rfl) (hP _ (Or.inl ⟨rfl, (show ((0 : Int) ≤ x1.toInt) ∧ (((x1.toInt / 10) < (i 64).toInt) ∧ ((x1.toInt % 10) < (i 64).toInt)) ∧ ((x1.toInt / 10) ≠ (x1.toInt % 10)) by omega)⟩))
      ·
        subst eg7
        have z11 : ¬ (((0 : Int) ≤ (x1 - x1 / 10 * 10).toInt) ∧ ((x1 - x1 / 10 * 10).toInt < (i 64).toInt)) := hg7
        refine ko_steps mi_in124 2 _ (42, [(0, .ref 0), (1, .int x1)], [.int 0], (0, 0), ks i a q r) (by rfl) ?_
        exact ko_ret mi_in124 (by rfl) (hP _ (Or.inr ⟨rfl, (show ¬ (((0 : Int) ≤ x1.toInt) ∧ (((x1.toInt / 10) < (i 64).toInt) ∧ ((x1.toInt % 10) < (i 64).toInt)) ∧ ((x1.toInt / 10) ≠ (x1.toInt % 10))) by omega)⟩))
    ·
      subst eg4
      have fi_64 : (0 : Int) ≤ (i 64).toInt ∧ (i 64).toInt ≤ 8 := hG.I.1 64
      have z12 : ¬ (((0 : Int) ≤ (x1 / 10).toInt) ∧ ((x1 / 10).toInt < (i 64).toInt)) := hg4
      refine ko_steps mi_in124 2 _ (42, [(0, .ref 0), (1, .int x1)], [.int 0], (0, 0), ks i a q r) (by rfl) ?_
      exact ko_ret mi_in124 (by rfl) (hP _ (Or.inr ⟨rfl, (show ¬ (((0 : Int) ≤ x1.toInt) ∧ (((x1.toInt / 10) < (i 64).toInt) ∧ ((x1.toInt % 10) < (i 64).toInt)) ∧ ((x1.toInt / 10) ≠ (x1.toInt % 10))) by omega)⟩))
set_option maxRecDepth 100000 in
theorem kc186_116 {i : Nat → Int32} {a : Nat → List Int32} {q : Nat → List Int64} {r : Nat → Nat} (hI : kI i a q) (hr : kr r) (x1 : Int32) : km 5 186 [.ref 116, .int x1] (ks i a q r) (kPI (ks i a q r) (fun v => (v = 1 ∧ (((0 : Int) ≤ x1.toInt) ∧ (((x1.toInt / 10) < (i 7424).toInt) ∧ ((x1.toInt % 10) < (i 7424).toInt)) ∧ ((x1.toInt / 10) ≠ (x1.toInt % 10)))) ∨ (v = 0 ∧ (¬ (((0 : Int) ≤ x1.toInt) ∧ (((x1.toInt / 10) < (i 7424).toInt) ∧ ((x1.toInt % 10) < (i 7424).toInt)) ∧ ((x1.toInt / 10) ≠ (x1.toInt % 10))))))) := by
  have n0 : (0 : Int32).toInt = 0 := by decide
  have n1 : (1 : Int32).toInt = 1 := by decide
  have n10 : (10 : Int32).toInt = 10 := by decide
  have hG := kG_self kW0 hI hr
  refine km_ofPI (q := (mi_h186, mi_c186)) rfl (by decide) (Nat.le_of_ble_eq_true rfl) ?_
  intro P hP
  refine ko_steps mi_in186 1 _ (1, [(0, .ref 116), (1, .int x1)], [.int x1], (0, 0), ks i a q r) (by rfl) ?_
  refine ko_if mi_in186 (decide (x1 < 0)) 41 4 ([(0, .ref 116), (1, .int x1)], [], (0, 0), ks i a q r) (by rfl) (fun c => ?_) (fun c => ?_)
  ·
    have c1 := kd_lt c; clear c
    refine ko_steps mi_in186 1 _ (42, [(0, .ref 116), (1, .int x1)], [.int 0], (0, 0), ks i a q r) (by rfl) ?_
    have fi_7424 : (0 : Int) ≤ (i 7424).toInt ∧ (i 7424).toInt ≤ 8 := hG.I.1 7424
    exact ko_ret mi_in186 (by rfl) (hP _ (Or.inr ⟨rfl, (show ¬ (((0 : Int) ≤ x1.toInt) ∧ (((x1.toInt / 10) < (i 7424).toInt) ∧ ((x1.toInt % 10) < (i 7424).toInt)) ∧ ((x1.toInt / 10) ≠ (x1.toInt % 10))) by omega)⟩))
  ·
    have c2 := kd_ltF c; clear c
    have s3 : (x1 / 10).toInt = (x1.toInt / 10) := kd_div 10 (by decide) (by decide) (by omega)
    refine ko_steps mi_in186 4 _ (9, [(0, .ref 116), (1, .int x1)], [.int (x1 / 10), .ref 116], (0, 0), ks i a q r) (by rfl) ?_
    refine ko_callPI mi_in186 (pc := 9) (ls := [(0, .ref 116), (1, .int x1)]) (st := [.int (x1 / 10), .ref 116]) (h := ks i a q r) (i := (.invokevirtual 137, 3, 132, 0, 9, 0, 387)) (by rfl) (by rfl) (cy := mi_c132) rfl rfl (kc132_116 hG.I hG.R (x1 / 10)) (by decide) ?_
    intro vg4 hg4
    rcases hg4 with ⟨eg4, hg4⟩ | ⟨eg4, hg4⟩
    ·
      subst eg4
      have fi_7424 : (0 : Int) ≤ (i 7424).toInt ∧ (i 7424).toInt ≤ 8 := hG.I.1 7424
      have z5 : ((0 : Int) ≤ (x1 / 10).toInt) ∧ ((x1 / 10).toInt < (i 7424).toInt) := hg4
      have s6 : (x1 - x1 / 10 * 10).toInt = (x1.toInt % 10) := kd_rem 10 (by decide) (by decide) (by omega)
      refine ko_steps mi_in186 5 _ (20, [(0, .ref 116), (1, .int x1)], [.int (x1 - x1 / 10 * 10), .ref 116], (0, 0), ks i a q r) (by rfl) ?_
      refine ko_callPI mi_in186 (pc := 20) (ls := [(0, .ref 116), (1, .int x1)]) (st := [.int (x1 - x1 / 10 * 10), .ref 116]) (h := ks i a q r) (i := (.invokevirtual 137, 3, 132, 0, 9, 0, 387)) (by rfl) (by rfl) (cy := mi_c132) rfl rfl (kc132_116 hG.I hG.R (x1 - x1 / 10 * 10)) (by decide) ?_
      intro vg7 hg7
      rcases hg7 with ⟨eg7, hg7⟩ | ⟨eg7, hg7⟩
      ·
        subst eg7
        have z8 : ((0 : Int) ≤ (x1 - x1 / 10 * 10).toInt) ∧ ((x1 - x1 / 10 * 10).toInt < (i 7424).toInt) := hg7
        refine ko_steps mi_in186 7 _ (34, [(0, .ref 116), (1, .int x1)], [.int (x1 - x1 / 10 * 10), .int (x1 / 10)], (0, 0), ks i a q r) (by rfl) ?_
        refine ko_if mi_in186 ((x1 / 10) == (x1 - x1 / 10 * 10)) 41 37 ([(0, .ref 116), (1, .int x1)], [], (0, 0), ks i a q r) (by rfl) (fun c => ?_) (fun c => ?_)
        ·
          have c9 := kd_eq c; clear c
          refine ko_steps mi_in186 1 _ (42, [(0, .ref 116), (1, .int x1)], [.int 0], (0, 0), ks i a q r) (by rfl) ?_
          exact ko_ret mi_in186 (by rfl) (hP _ (Or.inr ⟨rfl, (show ¬ (((0 : Int) ≤ x1.toInt) ∧ (((x1.toInt / 10) < (i 7424).toInt) ∧ ((x1.toInt % 10) < (i 7424).toInt)) ∧ ((x1.toInt / 10) ≠ (x1.toInt % 10))) by omega)⟩))
        ·
          have c10 := kd_eqF c; clear c
          refine ko_steps mi_in186 2 _ (42, [(0, .ref 116), (1, .int x1)], [.int 1], (0, 0), ks i a q r) (by rfl) ?_
          exact ko_ret mi_in186 (by rfl) (hP _ (Or.inl ⟨rfl, (show ((0 : Int) ≤ x1.toInt) ∧ (((x1.toInt / 10) < (i 7424).toInt) ∧ ((x1.toInt % 10) < (i 7424).toInt)) ∧ ((x1.toInt / 10) ≠ (x1.toInt % 10)) by omega)⟩))
      ·
        subst eg7
        have z11 : ¬ (((0 : Int) ≤ (x1 - x1 / 10 * 10).toInt) ∧ ((x1 - x1 / 10 * 10).toInt < (i 7424).toInt)) := hg7
        refine ko_steps mi_in186 2 _ (42, [(0, .ref 116), (1, .int x1)], [.int 0], (0, 0), ks i a q r) (by rfl) ?_
        exact ko_ret mi_in186 (by rfl) (hP _ (Or.inr ⟨rfl, (show ¬ (((0 : Int) ≤ x1.toInt) ∧ (((x1.toInt / 10) < (i 7424).toInt) ∧ ((x1.toInt % 10) < (i 7424).toInt)) ∧ ((x1.toInt / 10) ≠ (x1.toInt % 10))) by omega)⟩))
    ·
      subst eg4
      have fi_7424 : (0 : Int) ≤ (i 7424).toInt ∧ (i 7424).toInt ≤ 8 := hG.I.1 7424
      have z12 : ¬ (((0 : Int) ≤ (x1 / 10).toInt) ∧ ((x1 / 10).toInt < (i 7424).toInt)) := hg4
      refine ko_steps mi_in186 2 _ (42, [(0, .ref 116), (1, .int x1)], [.int 0], (0, 0), ks i a q r) (by rfl) ?_
      exact ko_ret mi_in186 (by rfl) (hP _ (Or.inr ⟨rfl, (show ¬ (((0 : Int) ≤ x1.toInt) ∧ (((x1.toInt / 10) < (i 7424).toInt) ∧ ((x1.toInt % 10) < (i 7424).toInt)) ∧ ((x1.toInt / 10) ≠ (x1.toInt % 10))) by omega)⟩))
set_option maxRecDepth 100000 in
theorem kc125_0 {i : Nat → Int32} {a : Nat → List Int32} {q : Nat → List Int64} {r : Nat → Nat} (hI : kI i a q) (hr : kr r) (x1 : Int32) (x2 : Int32) : km 5 125 [.ref 0, .int x1, .int x2] (ks i a q r) (kPI (ks i a q r) (fun v => (v = 1 ∧ ((((0 : Int) ≤ x2.toInt) ∧ (x2.toInt ≤ 3) ∧ ((0 : Int) ≤ x1.toInt) ∧ (x1.toInt < (i 64).toInt)) ∨ (((4 : Int) ≤ x2.toInt) ∧ (x2.toInt ≤ 6) ∧ (x1.toInt = 0)))) ∨ (v = 0 ∧ (¬ ((((0 : Int) ≤ x2.toInt) ∧ (x2.toInt ≤ 3) ∧ ((0 : Int) ≤ x1.toInt) ∧ (x1.toInt < (i 64).toInt)) ∨ (((4 : Int) ≤ x2.toInt) ∧ (x2.toInt ≤ 6) ∧ (x1.toInt = 0))))))) := by
  have n0 : (0 : Int32).toInt = 0 := by decide
  have n1 : (1 : Int32).toInt = 1 := by decide
  have n4 : (4 : Int32).toInt = 4 := by decide
  have n6 : (6 : Int32).toInt = 6 := by decide
  have hG := kG_self kW0 hI hr
  refine km_ofPI (q := (mi_h125, mi_c125)) rfl (by decide) (Nat.le_of_ble_eq_true rfl) ?_
  intro P hP
  refine ko_steps mi_in125 1 _ (1, [(0, .ref 0), (1, .int x1), (2, .int x2)], [.int x2], (0, 0), ks i a q r) (by rfl) ?_
  refine ko_if mi_in125 (decide (x2 < 0)) 17 4 ([(0, .ref 0), (1, .int x1), (2, .int x2)], [], (0, 0), ks i a q r) (by rfl) (fun c => ?_) (fun c => ?_)
  ·
    have c1 := kd_lt c; clear c
    refine ko_steps mi_in125 2 _ (19, [(0, .ref 0), (1, .int x1), (2, .int x2)], [.int 4, .int x2], (0, 0), ks i a q r) (by rfl) ?_
    refine ko_if mi_in125 (decide (x2 < 4)) 36 22 ([(0, .ref 0), (1, .int x1), (2, .int x2)], [], (0, 0), ks i a q r) (by rfl) (fun c => ?_) (fun c => ?_)
    ·
      have c2 := kd_lt c; clear c
      refine ko_steps mi_in125 1 _ (37, [(0, .ref 0), (1, .int x1), (2, .int x2)], [.int 0], (0, 0), ks i a q r) (by rfl) ?_
      have fi_64 : (0 : Int) ≤ (i 64).toInt ∧ (i 64).toInt ≤ 8 := hG.I.1 64
      exact ko_ret mi_in125 (by rfl) (hP _ (Or.inr ⟨rfl, (show ¬ ((((0 : Int) ≤ x2.toInt) ∧ (x2.toInt ≤ 3) ∧ ((0 : Int) ≤ x1.toInt) ∧ (x1.toInt < (i 64).toInt)) ∨ (((4 : Int) ≤ x2.toInt) ∧ (x2.toInt ≤ 6) ∧ (x1.toInt = 0))) by omega)⟩))
    ·
      have c3 := kd_ltF c; clear c
      exact absurd (show False by omega) id
  ·
    have c4 := kd_ltF c; clear c
    refine ko_steps mi_in125 2 _ (6, [(0, .ref 0), (1, .int x1), (2, .int x2)], [.int 4, .int x2], (0, 0), ks i a q r) (by rfl) ?_
    refine ko_if mi_in125 (decide (4 ≤ x2)) 17 9 ([(0, .ref 0), (1, .int x1), (2, .int x2)], [], (0, 0), ks i a q r) (by rfl) (fun c => ?_) (fun c => ?_)
    ·
      have c5 := kd_le c; clear c
      refine ko_steps mi_in125 2 _ (19, [(0, .ref 0), (1, .int x1), (2, .int x2)], [.int 4, .int x2], (0, 0), ks i a q r) (by rfl) ?_
      refine ko_if mi_in125 (decide (x2 < 4)) 36 22 ([(0, .ref 0), (1, .int x1), (2, .int x2)], [], (0, 0), ks i a q r) (by rfl) (fun c => ?_) (fun c => ?_)
      ·
        have c6 := kd_lt c; clear c
        exact absurd (show False by omega) id
      ·
        have c7 := kd_ltF c; clear c
        refine ko_steps mi_in125 2 _ (25, [(0, .ref 0), (1, .int x1), (2, .int x2)], [.int 6, .int x2], (0, 0), ks i a q r) (by rfl) ?_
        refine ko_if mi_in125 (decide (6 < x2)) 36 28 ([(0, .ref 0), (1, .int x1), (2, .int x2)], [], (0, 0), ks i a q r) (by rfl) (fun c => ?_) (fun c => ?_)
        ·
          have c8 := kd_lt c; clear c
          refine ko_steps mi_in125 1 _ (37, [(0, .ref 0), (1, .int x1), (2, .int x2)], [.int 0], (0, 0), ks i a q r) (by rfl) ?_
          have fi_64 : (0 : Int) ≤ (i 64).toInt ∧ (i 64).toInt ≤ 8 := hG.I.1 64
          exact ko_ret mi_in125 (by rfl) (hP _ (Or.inr ⟨rfl, (show ¬ ((((0 : Int) ≤ x2.toInt) ∧ (x2.toInt ≤ 3) ∧ ((0 : Int) ≤ x1.toInt) ∧ (x1.toInt < (i 64).toInt)) ∨ (((4 : Int) ≤ x2.toInt) ∧ (x2.toInt ≤ 6) ∧ (x1.toInt = 0))) by omega)⟩))
        ·
          have c9 := kd_ltF c; clear c
          refine ko_steps mi_in125 1 _ (29, [(0, .ref 0), (1, .int x1), (2, .int x2)], [.int x1], (0, 0), ks i a q r) (by rfl) ?_
          refine ko_if mi_in125 (x1 != 0) 36 32 ([(0, .ref 0), (1, .int x1), (2, .int x2)], [], (0, 0), ks i a q r) (by rfl) (fun c => ?_) (fun c => ?_)
          ·
            have c10 := kd_ne c; clear c
            refine ko_steps mi_in125 1 _ (37, [(0, .ref 0), (1, .int x1), (2, .int x2)], [.int 0], (0, 0), ks i a q r) (by rfl) ?_
            have fi_64 : (0 : Int) ≤ (i 64).toInt ∧ (i 64).toInt ≤ 8 := hG.I.1 64
            exact ko_ret mi_in125 (by rfl) (hP _ (Or.inr ⟨rfl, (show ¬ ((((0 : Int) ≤ x2.toInt) ∧ (x2.toInt ≤ 3) ∧ ((0 : Int) ≤ x1.toInt) ∧ (x1.toInt < (i 64).toInt)) ∨ (((4 : Int) ≤ x2.toInt) ∧ (x2.toInt ≤ 6) ∧ (x1.toInt = 0))) by omega)⟩))
          ·
            have c11 := kd_neF c; clear c
            refine ko_steps mi_in125 2 _ (37, [(0, .ref 0), (1, .int x1), (2, .int x2)], [.int 1], (0, 0), ks i a q r) (by rfl) ?_
            have fi_64 : (0 : Int) ≤ (i 64).toInt ∧ (i 64).toInt ≤ 8 := hG.I.1 64
            exact ko_ret mi_in125 (by rfl) (hP _ (Or.inl ⟨rfl, (show (((0 : Int) ≤ x2.toInt) ∧ (x2.toInt ≤ 3) ∧ ((0 : Int) ≤ x1.toInt) ∧ (x1.toInt < (i 64).toInt)) ∨ (((4 : Int) ≤ x2.toInt) ∧ (x2.toInt ≤ 6) ∧ (x1.toInt = 0)) by omega)⟩))
    ·
      have c12 := kd_leF c; clear c
      refine ko_steps mi_in125 2 _ (11, [(0, .ref 0), (1, .int x1), (2, .int x2)], [.int x1, .ref 0], (0, 0), ks i a q r) (by rfl) ?_
      refine ko_callPI mi_in125 (pc := 11) (ls := [(0, .ref 0), (1, .int x1), (2, .int x2)]) (st := [.int x1, .ref 0]) (h := ks i a q r) (i := (.invokevirtual 141, 3, 123, 0, 9, 0, 162)) (by rfl) (by rfl) (cy := mi_c123) rfl rfl (kc123_0 hG.I hG.R x1) (by decide) ?_
      intro vg13 hg13
      rcases hg13 with ⟨eg13, hg13⟩ | ⟨eg13, hg13⟩
      ·
        subst eg13
        have fi_64 : (0 : Int) ≤ (i 64).toInt ∧ (i 64).toInt ≤ 8 := hG.I.1 64
        have z14 : ((0 : Int) ≤ x1.toInt) ∧ (x1.toInt < (i 64).toInt) := hg13
        refine ko_steps mi_in125 3 _ (37, [(0, .ref 0), (1, .int x1), (2, .int x2)], [.int 1], (0, 0), ks i a q r) (by rfl) ?_
        exact ko_ret mi_in125 (by rfl) (hP _ (Or.inl ⟨rfl, (show (((0 : Int) ≤ x2.toInt) ∧ (x2.toInt ≤ 3) ∧ ((0 : Int) ≤ x1.toInt) ∧ (x1.toInt < (i 64).toInt)) ∨ (((4 : Int) ≤ x2.toInt) ∧ (x2.toInt ≤ 6) ∧ (x1.toInt = 0)) by omega)⟩))
      ·
        subst eg13
        have fi_64 : (0 : Int) ≤ (i 64).toInt ∧ (i 64).toInt ≤ 8 := hG.I.1 64
        have z15 : ¬ (((0 : Int) ≤ x1.toInt) ∧ (x1.toInt < (i 64).toInt)) := hg13
        refine ko_steps mi_in125 3 _ (19, [(0, .ref 0), (1, .int x1), (2, .int x2)], [.int 4, .int x2], (0, 0), ks i a q r) (by rfl) ?_
        refine ko_if mi_in125 (decide (x2 < 4)) 36 22 ([(0, .ref 0), (1, .int x1), (2, .int x2)], [], (0, 0), ks i a q r) (by rfl) (fun c => ?_) (fun c => ?_)
        ·
          have c16 := kd_lt c; clear c
          refine ko_steps mi_in125 1 _ (37, [(0, .ref 0), (1, .int x1), (2, .int x2)], [.int 0], (0, 0), ks i a q r) (by rfl) ?_
          exact ko_ret mi_in125 (by rfl) (hP _ (Or.inr ⟨rfl, (show ¬ ((((0 : Int) ≤ x2.toInt) ∧ (x2.toInt ≤ 3) ∧ ((0 : Int) ≤ x1.toInt) ∧ (x1.toInt < (i 64).toInt)) ∨ (((4 : Int) ≤ x2.toInt) ∧ (x2.toInt ≤ 6) ∧ (x1.toInt = 0))) by omega)⟩))
        ·
          have c17 := kd_ltF c; clear c
          exact absurd (show False by omega) id
set_option maxRecDepth 100000 in
theorem kc126 {i : Nat → Int32} {a : Nat → List Int32} {q : Nat → List Int64} {r : Nat → Nat} (hI : kI i a q) (hr : kr r) (x1 : Int32) (x2 : Int32) : km 3 126 [.int x1, .int x2] (ks i a q r) (kPI (ks i a q r) (fun v => (v = 1 ∧ (((0 : Int) ≤ x1.toInt) ∧ (x1.toInt ≤ 6))) ∨ (v = 0 ∧ (True)))) := by
  have n0 : (0 : Int32).toInt = 0 := by decide
  have n1 : (1 : Int32).toInt = 1 := by decide
  have n6 : (6 : Int32).toInt = 6 := by decide
  have hG := kG_self kW0 hI hr
  refine km_ofPI (q := (mi_h126, mi_c126)) rfl (by decide) (Nat.le_of_ble_eq_true rfl) ?_
  intro P hP
  refine ko_steps mi_in126 3 _ (4, [(0, .int x1), (1, .int x2)], [.int 6, .int 0, .int x1], (0, 0), ks i a q r) (by rfl) ?_
  refine ko_callPI mi_in126 (pc := 4) (ls := [(0, .int x1), (1, .int x2)]) (st := [.int 6, .int 0, .int x1]) (h := ks i a q r) (i := (.invokestatic 74, 3, 120, 0, 9, 0, 152)) (by rfl) (by rfl) (cy := mi_c120) rfl rfl (kc120 hG.I hG.R x1 0 6) (by decide) ?_
  intro vg1 hg1
  rcases hg1 with ⟨eg1, hg1⟩ | ⟨eg1, hg1⟩
  ·
    subst eg1
    have z2 : ((0 : Int) ≤ x1.toInt) ∧ (x1.toInt ≤ 6) := hg1
    refine ko_steps mi_in126 4 _ (15, [(0, .int x1), (1, .int x2)], [.int x1, .ref (mi_RO + 1), .int x2], (0, 0), ks i a q r) (by rfl) ?_
    refine ko_iaro mi_in126 (l := [0, 0, 0, 0, 1, 0, 0]) (ax := (0, 0, 0, 0, 0)) (by rfl) (by rfl) (by rfl) (by omega) (by show _ < (7 : Int); omega) ?_
    have r3 : (0 : Int) ≤ (([0, 0, 0, 0, 1, 0, 0] : List Int32).getD x1.toNatClampNeg 0).toInt ∧ (([0, 0, 0, 0, 1, 0, 0] : List Int32).getD x1.toNatClampNeg 0).toInt ≤ 1 := kro_rng (lo := 0) (hi := 1) (by decide) (x1.toNatClampNeg)
    refine ko_steps mi_in126 2 _ (20, [(0, .int x1), (1, .int x2)], [.int x1, .ref (mi_RO + 2), .int (([0, 0, 0, 0, 1, 0, 0] : List Int32).getD x1.toNatClampNeg 0), .int x2], (0, 0), ks i a q r) (by rfl) ?_
    refine ko_iaro mi_in126 (l := [999, 9, 9, 1, 5, 1, 99]) (ax := (0, 0, 0, 0, 0)) (by rfl) (by rfl) (by rfl) (by omega) (by show _ < (7 : Int); omega) ?_
    have r4 : (0 : Int) ≤ (([999, 9, 9, 1, 5, 1, 99] : List Int32).getD x1.toNatClampNeg 0).toInt ∧ (([999, 9, 9, 1, 5, 1, 99] : List Int32).getD x1.toNatClampNeg 0).toInt ≤ 999 := kro_rng (lo := 0) (hi := 999) (by decide) (x1.toNatClampNeg)
    refine ko_callPI mi_in126 (pc := 21) (ls := [(0, .int x1), (1, .int x2)]) (st := [.int (([999, 9, 9, 1, 5, 1, 99] : List Int32).getD x1.toNatClampNeg 0), .int (([0, 0, 0, 0, 1, 0, 0] : List Int32).getD x1.toNatClampNeg 0), .int x2]) (h := ks i a q r) (i := (.invokestatic 74, 3, 120, 0, 9, 0, 152)) (by rfl) (by rfl) (cy := mi_c120) rfl rfl (kc120 hG.I hG.R x2 (([0, 0, 0, 0, 1, 0, 0] : List Int32).getD x1.toNatClampNeg 0) (([999, 9, 9, 1, 5, 1, 99] : List Int32).getD x1.toNatClampNeg 0)) (by decide) ?_
    intro vg5 hg5
    rcases hg5 with ⟨eg5, hg5⟩ | ⟨eg5, hg5⟩
    ·
      subst eg5
      have z6 : ((([0, 0, 0, 0, 1, 0, 0] : List Int32).getD x1.toNatClampNeg 0).toInt ≤ x2.toInt) ∧ (x2.toInt ≤ (([999, 9, 9, 1, 5, 1, 99] : List Int32).getD x1.toNatClampNeg 0).toInt) := hg5
      refine ko_steps mi_in126 3 _ (32, [(0, .int x1), (1, .int x2)], [.int 1], (0, 0), ks i a q r) (by rfl) ?_
      exact ko_ret mi_in126 (by rfl) (hP _ (Or.inl ⟨rfl, (show ((0 : Int) ≤ x1.toInt) ∧ (x1.toInt ≤ 6) by omega)⟩))
    ·
      subst eg5
      have z7 : ¬ (((([0, 0, 0, 0, 1, 0, 0] : List Int32).getD x1.toNatClampNeg 0).toInt ≤ x2.toInt) ∧ (x2.toInt ≤ (([999, 9, 9, 1, 5, 1, 99] : List Int32).getD x1.toNatClampNeg 0).toInt)) := hg5
      refine ko_steps mi_in126 2 _ (32, [(0, .int x1), (1, .int x2)], [.int 0], (0, 0), ks i a q r) (by rfl) ?_
      exact ko_ret mi_in126 (by rfl) (hP _ (Or.inr ⟨rfl, trivial⟩))
  ·
    subst eg1
    have z8 : ¬ (((0 : Int) ≤ x1.toInt) ∧ (x1.toInt ≤ 6)) := hg1
    refine ko_steps mi_in126 2 _ (32, [(0, .int x1), (1, .int x2)], [.int 0], (0, 0), ks i a q r) (by rfl) ?_
    exact ko_ret mi_in126 (by rfl) (hP _ (Or.inr ⟨rfl, trivial⟩))
set_option maxRecDepth 100000 in
theorem kc8_94 {i : Nat → Int32} {a : Nat → List Int32} {q : Nat → List Int64} {r : Nat → Nat} (hI : kI i a q) (hr : kr r) (x1 : Int32) : km 1 8 [.ref 94, .int x1] (ks i a q r) (kPI (ks i a q r) (fun v => (v = 1 ∧ (((0 : Int) ≤ x1.toInt) ∧ (x1.toInt < (i 6017).toInt))) ∨ (v = 0 ∧ (¬ (((0 : Int) ≤ x1.toInt) ∧ (x1.toInt < (i 6017).toInt)))))) := by
  have n0 : (0 : Int32).toInt = 0 := by decide
  have n1 : (1 : Int32).toInt = 1 := by decide
  have n50 : (50 : Int32).toInt = 50 := by decide
  have hG := kG_self kW0 hI hr
  refine km_ofPI (q := (mi_h8, mi_c8)) rfl (by decide) (Nat.le_of_ble_eq_true rfl) ?_
  intro P hP
  refine ko_steps mi_in8 1 _ (1, [(0, .ref 94), (1, .int x1)], [.int x1], (0, 0), ks i a q r) (by rfl) ?_
  refine ko_if mi_in8 (decide (x1 < 0)) 22 4 ([(0, .ref 94), (1, .int x1)], [], (0, 0), ks i a q r) (by rfl) (fun c => ?_) (fun c => ?_)
  ·
    have c1 := kd_lt c; clear c
    refine ko_steps mi_in8 1 _ (23, [(0, .ref 94), (1, .int x1)], [.int 0], (0, 0), ks i a q r) (by rfl) ?_
    have fi_6017 : (0 : Int) ≤ (i 6017).toInt ∧ (i 6017).toInt ≤ 50 := hG.I.1 6017
    exact ko_ret mi_in8 (by rfl) (hP _ (Or.inr ⟨rfl, (show ¬ (((0 : Int) ≤ x1.toInt) ∧ (x1.toInt < (i 6017).toInt)) by omega)⟩))
  ·
    have c2 := kd_ltF c; clear c
    have fi_6017 : (0 : Int) ≤ (i 6017).toInt ∧ (i 6017).toInt ≤ 50 := hG.I.1 6017
    refine ko_steps mi_in8 3 _ (9, [(0, .ref 94), (1, .int x1)], [.int (i 6017), .int x1], (0, 0), ks i a q r) (by rfl) ?_
    refine ko_if mi_in8 (decide ((i 6017) ≤ x1)) 22 12 ([(0, .ref 94), (1, .int x1)], [], (0, 0), ks i a q r) (by rfl) (fun c => ?_) (fun c => ?_)
    ·
      have c3 := kd_le c; clear c
      refine ko_steps mi_in8 1 _ (23, [(0, .ref 94), (1, .int x1)], [.int 0], (0, 0), ks i a q r) (by rfl) ?_
      exact ko_ret mi_in8 (by rfl) (hP _ (Or.inr ⟨rfl, (show ¬ (((0 : Int) ≤ x1.toInt) ∧ (x1.toInt < (i 6017).toInt)) by omega)⟩))
    ·
      have c4 := kd_leF c; clear c
      refine ko_steps mi_in8 2 _ (15, [(0, .ref 94), (1, .int x1)], [.int 50, .int x1], (0, 0), ks i a q r) (by rfl) ?_
      refine ko_if mi_in8 (decide (50 ≤ x1)) 22 18 ([(0, .ref 94), (1, .int x1)], [], (0, 0), ks i a q r) (by rfl) (fun c => ?_) (fun c => ?_)
      ·
        have c5 := kd_le c; clear c
        exact absurd (show False by omega) id
      ·
        have c6 := kd_leF c; clear c
        refine ko_steps mi_in8 2 _ (23, [(0, .ref 94), (1, .int x1)], [.int 1], (0, 0), ks i a q r) (by rfl) ?_
        exact ko_ret mi_in8 (by rfl) (hP _ (Or.inl ⟨rfl, (show ((0 : Int) ≤ x1.toInt) ∧ (x1.toInt < (i 6017).toInt) by omega)⟩))
set_option maxRecDepth 100000 in
theorem kc36_104 {i : Nat → Int32} {a : Nat → List Int32} {q : Nat → List Int64} {r : Nat → Nat} (hI : kI i a q) (hr : kr r) (x1 : Int32) : km 1 36 [.ref 104, .int x1] (ks i a q r) (kPI (ks i a q r) (fun v => (v = 1 ∧ (((i 6656).toInt = 2) ∧ ((i 6658).toInt = x1.toInt))) ∨ (v = 0 ∧ (¬ (((i 6656).toInt = 2) ∧ ((i 6658).toInt = x1.toInt)))))) := by
  have n0 : (0 : Int32).toInt = 0 := by decide
  have n1 : (1 : Int32).toInt = 1 := by decide
  have n2 : (2 : Int32).toInt = 2 := by decide
  have hG := kG_self kW0 hI hr
  refine km_ofPI (q := (mi_h36, mi_c36)) rfl (by decide) (Nat.le_of_ble_eq_true rfl) ?_
  intro P hP
  have fi_6656 : (0 : Int) ≤ (i 6656).toInt ∧ (i 6656).toInt ≤ 2 := hG.I.1 6656
  refine ko_steps mi_in36 3 _ (5, [(0, .ref 104), (1, .int x1)], [.int 2, .int (i 6656)], (0, 0), ks i a q r) (by rfl) ?_
  refine ko_if mi_in36 ((i 6656) != 2) 20 8 ([(0, .ref 104), (1, .int x1)], [], (0, 0), ks i a q r) (by rfl) (fun c => ?_) (fun c => ?_)
  ·
    have c1 := kd_ne c; clear c
    refine ko_steps mi_in36 1 _ (21, [(0, .ref 104), (1, .int x1)], [.int 0], (0, 0), ks i a q r) (by rfl) ?_
    have fi_6658 : (0 : Int) ≤ (i 6658).toInt ∧ (i 6658).toInt ≤ 4 := hG.I.1 6658
    exact ko_ret mi_in36 (by rfl) (hP _ (Or.inr ⟨rfl, (show ¬ (((i 6656).toInt = 2) ∧ ((i 6658).toInt = x1.toInt)) by omega)⟩))
  ·
    have c2 := kd_neF c; clear c
    have fi_6658 : (0 : Int) ≤ (i 6658).toInt ∧ (i 6658).toInt ≤ 4 := hG.I.1 6658
    refine ko_steps mi_in36 3 _ (13, [(0, .ref 104), (1, .int x1)], [.int x1, .int (i 6658)], (0, 0), ks i a q r) (by rfl) ?_
    refine ko_if mi_in36 ((i 6658) != x1) 20 16 ([(0, .ref 104), (1, .int x1)], [], (0, 0), ks i a q r) (by rfl) (fun c => ?_) (fun c => ?_)
    ·
      have c3 := kd_ne c; clear c
      refine ko_steps mi_in36 1 _ (21, [(0, .ref 104), (1, .int x1)], [.int 0], (0, 0), ks i a q r) (by rfl) ?_
      exact ko_ret mi_in36 (by rfl) (hP _ (Or.inr ⟨rfl, (show ¬ (((i 6656).toInt = 2) ∧ ((i 6658).toInt = x1.toInt)) by omega)⟩))
    ·
      have c4 := kd_neF c; clear c
      refine ko_steps mi_in36 2 _ (21, [(0, .ref 104), (1, .int x1)], [.int 1], (0, 0), ks i a q r) (by rfl) ?_
      exact ko_ret mi_in36 (by rfl) (hP _ (Or.inl ⟨rfl, (show ((i 6656).toInt = 2) ∧ ((i 6658).toInt = x1.toInt) by omega)⟩))
set_option maxRecDepth 100000 in
theorem kc37_104 {i : Nat → Int32} {a : Nat → List Int32} {q : Nat → List Int64} {r : Nat → Nat} (hI : kI i a q) (hr : kr r) (x1 : Int32) (x2 : Int32) : km 1 37 [.ref 104, .int x1, .int x2] (ks i a q r) (kPI (ks i a q r) (fun v => (v = 1 ∧ (((0 : Int) ≤ x2.toInt) ∧ (x2.toInt ≤ (i 6659).toInt) ∧ ((0 : Int) ≤ x1.toInt) ∧ ((x1.toInt + x2.toInt) ≤ (i 6659).toInt))) ∨ (v = 0 ∧ (¬ (((0 : Int) ≤ x2.toInt) ∧ (x2.toInt ≤ (i 6659).toInt) ∧ ((0 : Int) ≤ x1.toInt) ∧ ((x1.toInt + x2.toInt) ≤ (i 6659).toInt)))))) := by
  have n0 : (0 : Int32).toInt = 0 := by decide
  have n1 : (1 : Int32).toInt = 1 := by decide
  have hG := kG_self kW0 hI hr
  refine km_ofPI (q := (mi_h37, mi_c37)) rfl (by decide) (Nat.le_of_ble_eq_true rfl) ?_
  intro P hP
  refine ko_steps mi_in37 1 _ (1, [(0, .ref 104), (1, .int x1), (2, .int x2)], [.int x2], (0, 0), ks i a q r) (by rfl) ?_
  refine ko_if mi_in37 (decide (x2 < 0)) 30 4 ([(0, .ref 104), (1, .int x1), (2, .int x2)], [], (0, 0), ks i a q r) (by rfl) (fun c => ?_) (fun c => ?_)
  ·
    have c1 := kd_lt c; clear c
    refine ko_steps mi_in37 1 _ (31, [(0, .ref 104), (1, .int x1), (2, .int x2)], [.int 0], (0, 0), ks i a q r) (by rfl) ?_
    have fi_6659 : (0 : Int) ≤ (i 6659).toInt ∧ (i 6659).toInt ≤ 60 := hG.I.1 6659
    exact ko_ret mi_in37 (by rfl) (hP _ (Or.inr ⟨rfl, (show ¬ (((0 : Int) ≤ x2.toInt) ∧ (x2.toInt ≤ (i 6659).toInt) ∧ ((0 : Int) ≤ x1.toInt) ∧ ((x1.toInt + x2.toInt) ≤ (i 6659).toInt)) by omega)⟩))
  ·
    have c2 := kd_ltF c; clear c
    have fi_6659 : (0 : Int) ≤ (i 6659).toInt ∧ (i 6659).toInt ≤ 60 := hG.I.1 6659
    refine ko_steps mi_in37 3 _ (9, [(0, .ref 104), (1, .int x1), (2, .int x2)], [.int (i 6659), .int x2], (0, 0), ks i a q r) (by rfl) ?_
    refine ko_if mi_in37 (decide ((i 6659) < x2)) 30 12 ([(0, .ref 104), (1, .int x1), (2, .int x2)], [], (0, 0), ks i a q r) (by rfl) (fun c => ?_) (fun c => ?_)
    ·
      have c3 := kd_lt c; clear c
      refine ko_steps mi_in37 1 _ (31, [(0, .ref 104), (1, .int x1), (2, .int x2)], [.int 0], (0, 0), ks i a q r) (by rfl) ?_
      exact ko_ret mi_in37 (by rfl) (hP _ (Or.inr ⟨rfl, (show ¬ (((0 : Int) ≤ x2.toInt) ∧ (x2.toInt ≤ (i 6659).toInt) ∧ ((0 : Int) ≤ x1.toInt) ∧ ((x1.toInt + x2.toInt) ≤ (i 6659).toInt)) by omega)⟩))
    ·
      have c4 := kd_ltF c; clear c
      refine ko_steps mi_in37 1 _ (13, [(0, .ref 104), (1, .int x1), (2, .int x2)], [.int x1], (0, 0), ks i a q r) (by rfl) ?_
      refine ko_if mi_in37 (decide (x1 < 0)) 30 16 ([(0, .ref 104), (1, .int x1), (2, .int x2)], [], (0, 0), ks i a q r) (by rfl) (fun c => ?_) (fun c => ?_)
      ·
        have c5 := kd_lt c; clear c
        refine ko_steps mi_in37 1 _ (31, [(0, .ref 104), (1, .int x1), (2, .int x2)], [.int 0], (0, 0), ks i a q r) (by rfl) ?_
        exact ko_ret mi_in37 (by rfl) (hP _ (Or.inr ⟨rfl, (show ¬ (((0 : Int) ≤ x2.toInt) ∧ (x2.toInt ≤ (i 6659).toInt) ∧ ((0 : Int) ≤ x1.toInt) ∧ ((x1.toInt + x2.toInt) ≤ (i 6659).toInt)) by omega)⟩))
      ·
        have c6 := kd_ltF c; clear c
        have s7 : ((i 6659) - x2).toInt = (i 6659).toInt - x2.toInt := kd_sub (by omega) (by omega)
        refine ko_steps mi_in37 5 _ (23, [(0, .ref 104), (1, .int x1), (2, .int x2)], [.int ((i 6659) - x2), .int x1], (0, 0), ks i a q r) (by rfl) ?_
        refine ko_if mi_in37 (decide (((i 6659) - x2) < x1)) 30 26 ([(0, .ref 104), (1, .int x1), (2, .int x2)], [], (0, 0), ks i a q r) (by rfl) (fun c => ?_) (fun c => ?_)
        ·
          have c8 := kd_lt c; clear c
          refine ko_steps mi_in37 1 _ (31, [(0, .ref 104), (1, .int x1), (2, .int x2)], [.int 0], (0, 0), ks i a q r) (by rfl) ?_
          exact ko_ret mi_in37 (by rfl) (hP _ (Or.inr ⟨rfl, (show ¬ (((0 : Int) ≤ x2.toInt) ∧ (x2.toInt ≤ (i 6659).toInt) ∧ ((0 : Int) ≤ x1.toInt) ∧ ((x1.toInt + x2.toInt) ≤ (i 6659).toInt)) by omega)⟩))
        ·
          have c9 := kd_ltF c; clear c
          refine ko_steps mi_in37 2 _ (31, [(0, .ref 104), (1, .int x1), (2, .int x2)], [.int 1], (0, 0), ks i a q r) (by rfl) ?_
          exact ko_ret mi_in37 (by rfl) (hP _ (Or.inl ⟨rfl, (show ((0 : Int) ≤ x2.toInt) ∧ (x2.toInt ≤ (i 6659).toInt) ∧ ((0 : Int) ≤ x1.toInt) ∧ ((x1.toInt + x2.toInt) ≤ (i 6659).toInt) by omega)⟩))
set_option maxRecDepth 100000 in
theorem kc36_106 {i : Nat → Int32} {a : Nat → List Int32} {q : Nat → List Int64} {r : Nat → Nat} (hI : kI i a q) (hr : kr r) (x1 : Int32) : km 1 36 [.ref 106, .int x1] (ks i a q r) (kPI (ks i a q r) (fun v => (v = 1 ∧ (((i 6784).toInt = 2) ∧ ((i 6786).toInt = x1.toInt))) ∨ (v = 0 ∧ (¬ (((i 6784).toInt = 2) ∧ ((i 6786).toInt = x1.toInt)))))) := by
  have n0 : (0 : Int32).toInt = 0 := by decide
  have n1 : (1 : Int32).toInt = 1 := by decide
  have n2 : (2 : Int32).toInt = 2 := by decide
  have hG := kG_self kW0 hI hr
  refine km_ofPI (q := (mi_h36, mi_c36)) rfl (by decide) (Nat.le_of_ble_eq_true rfl) ?_
  intro P hP
  have fi_6784 : (0 : Int) ≤ (i 6784).toInt ∧ (i 6784).toInt ≤ 2 := hG.I.1 6784
  refine ko_steps mi_in36 3 _ (5, [(0, .ref 106), (1, .int x1)], [.int 2, .int (i 6784)], (0, 0), ks i a q r) (by rfl) ?_
  refine ko_if mi_in36 ((i 6784) != 2) 20 8 ([(0, .ref 106), (1, .int x1)], [], (0, 0), ks i a q r) (by rfl) (fun c => ?_) (fun c => ?_)
  ·
    have c1 := kd_ne c; clear c
    refine ko_steps mi_in36 1 _ (21, [(0, .ref 106), (1, .int x1)], [.int 0], (0, 0), ks i a q r) (by rfl) ?_
    have fi_6786 : (0 : Int) ≤ (i 6786).toInt ∧ (i 6786).toInt ≤ 4 := hG.I.1 6786
    exact ko_ret mi_in36 (by rfl) (hP _ (Or.inr ⟨rfl, (show ¬ (((i 6784).toInt = 2) ∧ ((i 6786).toInt = x1.toInt)) by omega)⟩))
  ·
    have c2 := kd_neF c; clear c
    have fi_6786 : (0 : Int) ≤ (i 6786).toInt ∧ (i 6786).toInt ≤ 4 := hG.I.1 6786
    refine ko_steps mi_in36 3 _ (13, [(0, .ref 106), (1, .int x1)], [.int x1, .int (i 6786)], (0, 0), ks i a q r) (by rfl) ?_
    refine ko_if mi_in36 ((i 6786) != x1) 20 16 ([(0, .ref 106), (1, .int x1)], [], (0, 0), ks i a q r) (by rfl) (fun c => ?_) (fun c => ?_)
    ·
      have c3 := kd_ne c; clear c
      refine ko_steps mi_in36 1 _ (21, [(0, .ref 106), (1, .int x1)], [.int 0], (0, 0), ks i a q r) (by rfl) ?_
      exact ko_ret mi_in36 (by rfl) (hP _ (Or.inr ⟨rfl, (show ¬ (((i 6784).toInt = 2) ∧ ((i 6786).toInt = x1.toInt)) by omega)⟩))
    ·
      have c4 := kd_neF c; clear c
      refine ko_steps mi_in36 2 _ (21, [(0, .ref 106), (1, .int x1)], [.int 1], (0, 0), ks i a q r) (by rfl) ?_
      exact ko_ret mi_in36 (by rfl) (hP _ (Or.inl ⟨rfl, (show ((i 6784).toInt = 2) ∧ ((i 6786).toInt = x1.toInt) by omega)⟩))
set_option maxRecDepth 100000 in
theorem kc37_106 {i : Nat → Int32} {a : Nat → List Int32} {q : Nat → List Int64} {r : Nat → Nat} (hI : kI i a q) (hr : kr r) (x1 : Int32) (x2 : Int32) : km 1 37 [.ref 106, .int x1, .int x2] (ks i a q r) (kPI (ks i a q r) (fun v => (v = 1 ∧ (((0 : Int) ≤ x2.toInt) ∧ (x2.toInt ≤ (i 6787).toInt) ∧ ((0 : Int) ≤ x1.toInt) ∧ ((x1.toInt + x2.toInt) ≤ (i 6787).toInt))) ∨ (v = 0 ∧ (¬ (((0 : Int) ≤ x2.toInt) ∧ (x2.toInt ≤ (i 6787).toInt) ∧ ((0 : Int) ≤ x1.toInt) ∧ ((x1.toInt + x2.toInt) ≤ (i 6787).toInt)))))) := by
  have n0 : (0 : Int32).toInt = 0 := by decide
  have n1 : (1 : Int32).toInt = 1 := by decide
  have hG := kG_self kW0 hI hr
  refine km_ofPI (q := (mi_h37, mi_c37)) rfl (by decide) (Nat.le_of_ble_eq_true rfl) ?_
  intro P hP
  refine ko_steps mi_in37 1 _ (1, [(0, .ref 106), (1, .int x1), (2, .int x2)], [.int x2], (0, 0), ks i a q r) (by rfl) ?_
  refine ko_if mi_in37 (decide (x2 < 0)) 30 4 ([(0, .ref 106), (1, .int x1), (2, .int x2)], [], (0, 0), ks i a q r) (by rfl) (fun c => ?_) (fun c => ?_)
  ·
    have c1 := kd_lt c; clear c
    refine ko_steps mi_in37 1 _ (31, [(0, .ref 106), (1, .int x1), (2, .int x2)], [.int 0], (0, 0), ks i a q r) (by rfl) ?_
    have fi_6787 : (0 : Int) ≤ (i 6787).toInt ∧ (i 6787).toInt ≤ 60 := hG.I.1 6787
    exact ko_ret mi_in37 (by rfl) (hP _ (Or.inr ⟨rfl, (show ¬ (((0 : Int) ≤ x2.toInt) ∧ (x2.toInt ≤ (i 6787).toInt) ∧ ((0 : Int) ≤ x1.toInt) ∧ ((x1.toInt + x2.toInt) ≤ (i 6787).toInt)) by omega)⟩))
  ·
    have c2 := kd_ltF c; clear c
    have fi_6787 : (0 : Int) ≤ (i 6787).toInt ∧ (i 6787).toInt ≤ 60 := hG.I.1 6787
    refine ko_steps mi_in37 3 _ (9, [(0, .ref 106), (1, .int x1), (2, .int x2)], [.int (i 6787), .int x2], (0, 0), ks i a q r) (by rfl) ?_
    refine ko_if mi_in37 (decide ((i 6787) < x2)) 30 12 ([(0, .ref 106), (1, .int x1), (2, .int x2)], [], (0, 0), ks i a q r) (by rfl) (fun c => ?_) (fun c => ?_)
    ·
      have c3 := kd_lt c; clear c
      refine ko_steps mi_in37 1 _ (31, [(0, .ref 106), (1, .int x1), (2, .int x2)], [.int 0], (0, 0), ks i a q r) (by rfl) ?_
      exact ko_ret mi_in37 (by rfl) (hP _ (Or.inr ⟨rfl, (show ¬ (((0 : Int) ≤ x2.toInt) ∧ (x2.toInt ≤ (i 6787).toInt) ∧ ((0 : Int) ≤ x1.toInt) ∧ ((x1.toInt + x2.toInt) ≤ (i 6787).toInt)) by omega)⟩))
    ·
      have c4 := kd_ltF c; clear c
      refine ko_steps mi_in37 1 _ (13, [(0, .ref 106), (1, .int x1), (2, .int x2)], [.int x1], (0, 0), ks i a q r) (by rfl) ?_
      refine ko_if mi_in37 (decide (x1 < 0)) 30 16 ([(0, .ref 106), (1, .int x1), (2, .int x2)], [], (0, 0), ks i a q r) (by rfl) (fun c => ?_) (fun c => ?_)
      ·
        have c5 := kd_lt c; clear c
        refine ko_steps mi_in37 1 _ (31, [(0, .ref 106), (1, .int x1), (2, .int x2)], [.int 0], (0, 0), ks i a q r) (by rfl) ?_
        exact ko_ret mi_in37 (by rfl) (hP _ (Or.inr ⟨rfl, (show ¬ (((0 : Int) ≤ x2.toInt) ∧ (x2.toInt ≤ (i 6787).toInt) ∧ ((0 : Int) ≤ x1.toInt) ∧ ((x1.toInt + x2.toInt) ≤ (i 6787).toInt)) by omega)⟩))
      ·
        have c6 := kd_ltF c; clear c
        have s7 : ((i 6787) - x2).toInt = (i 6787).toInt - x2.toInt := kd_sub (by omega) (by omega)
        refine ko_steps mi_in37 5 _ (23, [(0, .ref 106), (1, .int x1), (2, .int x2)], [.int ((i 6787) - x2), .int x1], (0, 0), ks i a q r) (by rfl) ?_
        refine ko_if mi_in37 (decide (((i 6787) - x2) < x1)) 30 26 ([(0, .ref 106), (1, .int x1), (2, .int x2)], [], (0, 0), ks i a q r) (by rfl) (fun c => ?_) (fun c => ?_)
        ·
          have c8 := kd_lt c; clear c
          refine ko_steps mi_in37 1 _ (31, [(0, .ref 106), (1, .int x1), (2, .int x2)], [.int 0], (0, 0), ks i a q r) (by rfl) ?_
          exact ko_ret mi_in37 (by rfl) (hP _ (Or.inr ⟨rfl, (show ¬ (((0 : Int) ≤ x2.toInt) ∧ (x2.toInt ≤ (i 6787).toInt) ∧ ((0 : Int) ≤ x1.toInt) ∧ ((x1.toInt + x2.toInt) ≤ (i 6787).toInt)) by omega)⟩))
        ·
          have c9 := kd_ltF c; clear c
          refine ko_steps mi_in37 2 _ (31, [(0, .ref 106), (1, .int x1), (2, .int x2)], [.int 1], (0, 0), ks i a q r) (by rfl) ?_
          exact ko_ret mi_in37 (by rfl) (hP _ (Or.inl ⟨rfl, (show ((0 : Int) ≤ x2.toInt) ∧ (x2.toInt ≤ (i 6787).toInt) ∧ ((0 : Int) ≤ x1.toInt) ∧ ((x1.toInt + x2.toInt) ≤ (i 6787).toInt) by omega)⟩))
set_option maxRecDepth 100000 in
theorem kc36_108 {i : Nat → Int32} {a : Nat → List Int32} {q : Nat → List Int64} {r : Nat → Nat} (hI : kI i a q) (hr : kr r) (x1 : Int32) : km 1 36 [.ref 108, .int x1] (ks i a q r) (kPI (ks i a q r) (fun v => (v = 1 ∧ (((i 6912).toInt = 2) ∧ ((i 6914).toInt = x1.toInt))) ∨ (v = 0 ∧ (¬ (((i 6912).toInt = 2) ∧ ((i 6914).toInt = x1.toInt)))))) := by
  have n0 : (0 : Int32).toInt = 0 := by decide
  have n1 : (1 : Int32).toInt = 1 := by decide
  have n2 : (2 : Int32).toInt = 2 := by decide
  have hG := kG_self kW0 hI hr
  refine km_ofPI (q := (mi_h36, mi_c36)) rfl (by decide) (Nat.le_of_ble_eq_true rfl) ?_
  intro P hP
  have fi_6912 : (0 : Int) ≤ (i 6912).toInt ∧ (i 6912).toInt ≤ 2 := hG.I.1 6912
  refine ko_steps mi_in36 3 _ (5, [(0, .ref 108), (1, .int x1)], [.int 2, .int (i 6912)], (0, 0), ks i a q r) (by rfl) ?_
  refine ko_if mi_in36 ((i 6912) != 2) 20 8 ([(0, .ref 108), (1, .int x1)], [], (0, 0), ks i a q r) (by rfl) (fun c => ?_) (fun c => ?_)
  ·
    have c1 := kd_ne c; clear c
    refine ko_steps mi_in36 1 _ (21, [(0, .ref 108), (1, .int x1)], [.int 0], (0, 0), ks i a q r) (by rfl) ?_
    have fi_6914 : (0 : Int) ≤ (i 6914).toInt ∧ (i 6914).toInt ≤ 4 := hG.I.1 6914
    exact ko_ret mi_in36 (by rfl) (hP _ (Or.inr ⟨rfl, (show ¬ (((i 6912).toInt = 2) ∧ ((i 6914).toInt = x1.toInt)) by omega)⟩))
  ·
    have c2 := kd_neF c; clear c
    have fi_6914 : (0 : Int) ≤ (i 6914).toInt ∧ (i 6914).toInt ≤ 4 := hG.I.1 6914
    refine ko_steps mi_in36 3 _ (13, [(0, .ref 108), (1, .int x1)], [.int x1, .int (i 6914)], (0, 0), ks i a q r) (by rfl) ?_
    refine ko_if mi_in36 ((i 6914) != x1) 20 16 ([(0, .ref 108), (1, .int x1)], [], (0, 0), ks i a q r) (by rfl) (fun c => ?_) (fun c => ?_)
    ·
      have c3 := kd_ne c; clear c
      refine ko_steps mi_in36 1 _ (21, [(0, .ref 108), (1, .int x1)], [.int 0], (0, 0), ks i a q r) (by rfl) ?_
      exact ko_ret mi_in36 (by rfl) (hP _ (Or.inr ⟨rfl, (show ¬ (((i 6912).toInt = 2) ∧ ((i 6914).toInt = x1.toInt)) by omega)⟩))
    ·
      have c4 := kd_neF c; clear c
      refine ko_steps mi_in36 2 _ (21, [(0, .ref 108), (1, .int x1)], [.int 1], (0, 0), ks i a q r) (by rfl) ?_
      exact ko_ret mi_in36 (by rfl) (hP _ (Or.inl ⟨rfl, (show ((i 6912).toInt = 2) ∧ ((i 6914).toInt = x1.toInt) by omega)⟩))
set_option maxRecDepth 100000 in
theorem kc37_108 {i : Nat → Int32} {a : Nat → List Int32} {q : Nat → List Int64} {r : Nat → Nat} (hI : kI i a q) (hr : kr r) (x1 : Int32) (x2 : Int32) : km 1 37 [.ref 108, .int x1, .int x2] (ks i a q r) (kPI (ks i a q r) (fun v => (v = 1 ∧ (((0 : Int) ≤ x2.toInt) ∧ (x2.toInt ≤ (i 6915).toInt) ∧ ((0 : Int) ≤ x1.toInt) ∧ ((x1.toInt + x2.toInt) ≤ (i 6915).toInt))) ∨ (v = 0 ∧ (¬ (((0 : Int) ≤ x2.toInt) ∧ (x2.toInt ≤ (i 6915).toInt) ∧ ((0 : Int) ≤ x1.toInt) ∧ ((x1.toInt + x2.toInt) ≤ (i 6915).toInt)))))) := by
  have n0 : (0 : Int32).toInt = 0 := by decide
  have n1 : (1 : Int32).toInt = 1 := by decide
  have hG := kG_self kW0 hI hr
  refine km_ofPI (q := (mi_h37, mi_c37)) rfl (by decide) (Nat.le_of_ble_eq_true rfl) ?_
  intro P hP
  refine ko_steps mi_in37 1 _ (1, [(0, .ref 108), (1, .int x1), (2, .int x2)], [.int x2], (0, 0), ks i a q r) (by rfl) ?_
  refine ko_if mi_in37 (decide (x2 < 0)) 30 4 ([(0, .ref 108), (1, .int x1), (2, .int x2)], [], (0, 0), ks i a q r) (by rfl) (fun c => ?_) (fun c => ?_)
  ·
    have c1 := kd_lt c; clear c
    refine ko_steps mi_in37 1 _ (31, [(0, .ref 108), (1, .int x1), (2, .int x2)], [.int 0], (0, 0), ks i a q r) (by rfl) ?_
    have fi_6915 : (0 : Int) ≤ (i 6915).toInt ∧ (i 6915).toInt ≤ 60 := hG.I.1 6915
    exact ko_ret mi_in37 (by rfl) (hP _ (Or.inr ⟨rfl, (show ¬ (((0 : Int) ≤ x2.toInt) ∧ (x2.toInt ≤ (i 6915).toInt) ∧ ((0 : Int) ≤ x1.toInt) ∧ ((x1.toInt + x2.toInt) ≤ (i 6915).toInt)) by omega)⟩))
  ·
    have c2 := kd_ltF c; clear c
    have fi_6915 : (0 : Int) ≤ (i 6915).toInt ∧ (i 6915).toInt ≤ 60 := hG.I.1 6915
    refine ko_steps mi_in37 3 _ (9, [(0, .ref 108), (1, .int x1), (2, .int x2)], [.int (i 6915), .int x2], (0, 0), ks i a q r) (by rfl) ?_
    refine ko_if mi_in37 (decide ((i 6915) < x2)) 30 12 ([(0, .ref 108), (1, .int x1), (2, .int x2)], [], (0, 0), ks i a q r) (by rfl) (fun c => ?_) (fun c => ?_)
    ·
      have c3 := kd_lt c; clear c
      refine ko_steps mi_in37 1 _ (31, [(0, .ref 108), (1, .int x1), (2, .int x2)], [.int 0], (0, 0), ks i a q r) (by rfl) ?_
      exact ko_ret mi_in37 (by rfl) (hP _ (Or.inr ⟨rfl, (show ¬ (((0 : Int) ≤ x2.toInt) ∧ (x2.toInt ≤ (i 6915).toInt) ∧ ((0 : Int) ≤ x1.toInt) ∧ ((x1.toInt + x2.toInt) ≤ (i 6915).toInt)) by omega)⟩))
    ·
      have c4 := kd_ltF c; clear c
      refine ko_steps mi_in37 1 _ (13, [(0, .ref 108), (1, .int x1), (2, .int x2)], [.int x1], (0, 0), ks i a q r) (by rfl) ?_
      refine ko_if mi_in37 (decide (x1 < 0)) 30 16 ([(0, .ref 108), (1, .int x1), (2, .int x2)], [], (0, 0), ks i a q r) (by rfl) (fun c => ?_) (fun c => ?_)
      ·
        have c5 := kd_lt c; clear c
        refine ko_steps mi_in37 1 _ (31, [(0, .ref 108), (1, .int x1), (2, .int x2)], [.int 0], (0, 0), ks i a q r) (by rfl) ?_
        exact ko_ret mi_in37 (by rfl) (hP _ (Or.inr ⟨rfl, (show ¬ (((0 : Int) ≤ x2.toInt) ∧ (x2.toInt ≤ (i 6915).toInt) ∧ ((0 : Int) ≤ x1.toInt) ∧ ((x1.toInt + x2.toInt) ≤ (i 6915).toInt)) by omega)⟩))
      ·
        have c6 := kd_ltF c; clear c
        have s7 : ((i 6915) - x2).toInt = (i 6915).toInt - x2.toInt := kd_sub (by omega) (by omega)
        refine ko_steps mi_in37 5 _ (23, [(0, .ref 108), (1, .int x1), (2, .int x2)], [.int ((i 6915) - x2), .int x1], (0, 0), ks i a q r) (by rfl) ?_
        refine ko_if mi_in37 (decide (((i 6915) - x2) < x1)) 30 26 ([(0, .ref 108), (1, .int x1), (2, .int x2)], [], (0, 0), ks i a q r) (by rfl) (fun c => ?_) (fun c => ?_)
        ·
          have c8 := kd_lt c; clear c
          refine ko_steps mi_in37 1 _ (31, [(0, .ref 108), (1, .int x1), (2, .int x2)], [.int 0], (0, 0), ks i a q r) (by rfl) ?_
          exact ko_ret mi_in37 (by rfl) (hP _ (Or.inr ⟨rfl, (show ¬ (((0 : Int) ≤ x2.toInt) ∧ (x2.toInt ≤ (i 6915).toInt) ∧ ((0 : Int) ≤ x1.toInt) ∧ ((x1.toInt + x2.toInt) ≤ (i 6915).toInt)) by omega)⟩))
        ·
          have c9 := kd_ltF c; clear c
          refine ko_steps mi_in37 2 _ (31, [(0, .ref 108), (1, .int x1), (2, .int x2)], [.int 1], (0, 0), ks i a q r) (by rfl) ?_
          exact ko_ret mi_in37 (by rfl) (hP _ (Or.inl ⟨rfl, (show ((0 : Int) ≤ x2.toInt) ∧ (x2.toInt ≤ (i 6915).toInt) ∧ ((0 : Int) ≤ x1.toInt) ∧ ((x1.toInt + x2.toInt) ≤ (i 6915).toInt) by omega)⟩))
set_option maxRecDepth 100000 in
theorem kc36_110 {i : Nat → Int32} {a : Nat → List Int32} {q : Nat → List Int64} {r : Nat → Nat} (hI : kI i a q) (hr : kr r) (x1 : Int32) : km 1 36 [.ref 110, .int x1] (ks i a q r) (kPI (ks i a q r) (fun v => (v = 1 ∧ (((i 7040).toInt = 2) ∧ ((i 7042).toInt = x1.toInt))) ∨ (v = 0 ∧ (¬ (((i 7040).toInt = 2) ∧ ((i 7042).toInt = x1.toInt)))))) := by
  have n0 : (0 : Int32).toInt = 0 := by decide
  have n1 : (1 : Int32).toInt = 1 := by decide
  have n2 : (2 : Int32).toInt = 2 := by decide
  have hG := kG_self kW0 hI hr
  refine km_ofPI (q := (mi_h36, mi_c36)) rfl (by decide) (Nat.le_of_ble_eq_true rfl) ?_
  intro P hP
  have fi_7040 : (0 : Int) ≤ (i 7040).toInt ∧ (i 7040).toInt ≤ 2 := hG.I.1 7040
  refine ko_steps mi_in36 3 _ (5, [(0, .ref 110), (1, .int x1)], [.int 2, .int (i 7040)], (0, 0), ks i a q r) (by rfl) ?_
  refine ko_if mi_in36 ((i 7040) != 2) 20 8 ([(0, .ref 110), (1, .int x1)], [], (0, 0), ks i a q r) (by rfl) (fun c => ?_) (fun c => ?_)
  ·
    have c1 := kd_ne c; clear c
    refine ko_steps mi_in36 1 _ (21, [(0, .ref 110), (1, .int x1)], [.int 0], (0, 0), ks i a q r) (by rfl) ?_
    have fi_7042 : (0 : Int) ≤ (i 7042).toInt ∧ (i 7042).toInt ≤ 4 := hG.I.1 7042
    exact ko_ret mi_in36 (by rfl) (hP _ (Or.inr ⟨rfl, (show ¬ (((i 7040).toInt = 2) ∧ ((i 7042).toInt = x1.toInt)) by omega)⟩))
  ·
    have c2 := kd_neF c; clear c
    have fi_7042 : (0 : Int) ≤ (i 7042).toInt ∧ (i 7042).toInt ≤ 4 := hG.I.1 7042
    refine ko_steps mi_in36 3 _ (13, [(0, .ref 110), (1, .int x1)], [.int x1, .int (i 7042)], (0, 0), ks i a q r) (by rfl) ?_
    refine ko_if mi_in36 ((i 7042) != x1) 20 16 ([(0, .ref 110), (1, .int x1)], [], (0, 0), ks i a q r) (by rfl) (fun c => ?_) (fun c => ?_)
    ·
      have c3 := kd_ne c; clear c
      refine ko_steps mi_in36 1 _ (21, [(0, .ref 110), (1, .int x1)], [.int 0], (0, 0), ks i a q r) (by rfl) ?_
      exact ko_ret mi_in36 (by rfl) (hP _ (Or.inr ⟨rfl, (show ¬ (((i 7040).toInt = 2) ∧ ((i 7042).toInt = x1.toInt)) by omega)⟩))
    ·
      have c4 := kd_neF c; clear c
      refine ko_steps mi_in36 2 _ (21, [(0, .ref 110), (1, .int x1)], [.int 1], (0, 0), ks i a q r) (by rfl) ?_
      exact ko_ret mi_in36 (by rfl) (hP _ (Or.inl ⟨rfl, (show ((i 7040).toInt = 2) ∧ ((i 7042).toInt = x1.toInt) by omega)⟩))
set_option maxRecDepth 100000 in
theorem kc37_110 {i : Nat → Int32} {a : Nat → List Int32} {q : Nat → List Int64} {r : Nat → Nat} (hI : kI i a q) (hr : kr r) (x1 : Int32) (x2 : Int32) : km 1 37 [.ref 110, .int x1, .int x2] (ks i a q r) (kPI (ks i a q r) (fun v => (v = 1 ∧ (((0 : Int) ≤ x2.toInt) ∧ (x2.toInt ≤ (i 7043).toInt) ∧ ((0 : Int) ≤ x1.toInt) ∧ ((x1.toInt + x2.toInt) ≤ (i 7043).toInt))) ∨ (v = 0 ∧ (¬ (((0 : Int) ≤ x2.toInt) ∧ (x2.toInt ≤ (i 7043).toInt) ∧ ((0 : Int) ≤ x1.toInt) ∧ ((x1.toInt + x2.toInt) ≤ (i 7043).toInt)))))) := by
  have n0 : (0 : Int32).toInt = 0 := by decide
  have n1 : (1 : Int32).toInt = 1 := by decide
  have hG := kG_self kW0 hI hr
  refine km_ofPI (q := (mi_h37, mi_c37)) rfl (by decide) (Nat.le_of_ble_eq_true rfl) ?_
  intro P hP
  refine ko_steps mi_in37 1 _ (1, [(0, .ref 110), (1, .int x1), (2, .int x2)], [.int x2], (0, 0), ks i a q r) (by rfl) ?_
  refine ko_if mi_in37 (decide (x2 < 0)) 30 4 ([(0, .ref 110), (1, .int x1), (2, .int x2)], [], (0, 0), ks i a q r) (by rfl) (fun c => ?_) (fun c => ?_)
  ·
    have c1 := kd_lt c; clear c
    refine ko_steps mi_in37 1 _ (31, [(0, .ref 110), (1, .int x1), (2, .int x2)], [.int 0], (0, 0), ks i a q r) (by rfl) ?_
    have fi_7043 : (0 : Int) ≤ (i 7043).toInt ∧ (i 7043).toInt ≤ 60 := hG.I.1 7043
    exact ko_ret mi_in37 (by rfl) (hP _ (Or.inr ⟨rfl, (show ¬ (((0 : Int) ≤ x2.toInt) ∧ (x2.toInt ≤ (i 7043).toInt) ∧ ((0 : Int) ≤ x1.toInt) ∧ ((x1.toInt + x2.toInt) ≤ (i 7043).toInt)) by omega)⟩))
  ·
    have c2 := kd_ltF c; clear c
    have fi_7043 : (0 : Int) ≤ (i 7043).toInt ∧ (i 7043).toInt ≤ 60 := hG.I.1 7043
    refine ko_steps mi_in37 3 _ (9, [(0, .ref 110), (1, .int x1), (2, .int x2)], [.int (i 7043), .int x2], (0, 0), ks i a q r) (by rfl) ?_
    refine ko_if mi_in37 (decide ((i 7043) < x2)) 30 12 ([(0, .ref 110), (1, .int x1), (2, .int x2)], [], (0, 0), ks i a q r) (by rfl) (fun c => ?_) (fun c => ?_)
    ·
      have c3 := kd_lt c; clear c
      refine ko_steps mi_in37 1 _ (31, [(0, .ref 110), (1, .int x1), (2, .int x2)], [.int 0], (0, 0), ks i a q r) (by rfl) ?_
      exact ko_ret mi_in37 (by rfl) (hP _ (Or.inr ⟨rfl, (show ¬ (((0 : Int) ≤ x2.toInt) ∧ (x2.toInt ≤ (i 7043).toInt) ∧ ((0 : Int) ≤ x1.toInt) ∧ ((x1.toInt + x2.toInt) ≤ (i 7043).toInt)) by omega)⟩))
    ·
      have c4 := kd_ltF c; clear c
      refine ko_steps mi_in37 1 _ (13, [(0, .ref 110), (1, .int x1), (2, .int x2)], [.int x1], (0, 0), ks i a q r) (by rfl) ?_
      refine ko_if mi_in37 (decide (x1 < 0)) 30 16 ([(0, .ref 110), (1, .int x1), (2, .int x2)], [], (0, 0), ks i a q r) (by rfl) (fun c => ?_) (fun c => ?_)
      ·
        have c5 := kd_lt c; clear c
        refine ko_steps mi_in37 1 _ (31, [(0, .ref 110), (1, .int x1), (2, .int x2)], [.int 0], (0, 0), ks i a q r) (by rfl) ?_
        exact ko_ret mi_in37 (by rfl) (hP _ (Or.inr ⟨rfl, (show ¬ (((0 : Int) ≤ x2.toInt) ∧ (x2.toInt ≤ (i 7043).toInt) ∧ ((0 : Int) ≤ x1.toInt) ∧ ((x1.toInt + x2.toInt) ≤ (i 7043).toInt)) by omega)⟩))
      ·
        have c6 := kd_ltF c; clear c
        have s7 : ((i 7043) - x2).toInt = (i 7043).toInt - x2.toInt := kd_sub (by omega) (by omega)
        refine ko_steps mi_in37 5 _ (23, [(0, .ref 110), (1, .int x1), (2, .int x2)], [.int ((i 7043) - x2), .int x1], (0, 0), ks i a q r) (by rfl) ?_
        refine ko_if mi_in37 (decide (((i 7043) - x2) < x1)) 30 26 ([(0, .ref 110), (1, .int x1), (2, .int x2)], [], (0, 0), ks i a q r) (by rfl) (fun c => ?_) (fun c => ?_)
        ·
          have c8 := kd_lt c; clear c
          refine ko_steps mi_in37 1 _ (31, [(0, .ref 110), (1, .int x1), (2, .int x2)], [.int 0], (0, 0), ks i a q r) (by rfl) ?_
          exact ko_ret mi_in37 (by rfl) (hP _ (Or.inr ⟨rfl, (show ¬ (((0 : Int) ≤ x2.toInt) ∧ (x2.toInt ≤ (i 7043).toInt) ∧ ((0 : Int) ≤ x1.toInt) ∧ ((x1.toInt + x2.toInt) ≤ (i 7043).toInt)) by omega)⟩))
        ·
          have c9 := kd_ltF c; clear c
          refine ko_steps mi_in37 2 _ (31, [(0, .ref 110), (1, .int x1), (2, .int x2)], [.int 1], (0, 0), ks i a q r) (by rfl) ?_
          exact ko_ret mi_in37 (by rfl) (hP _ (Or.inl ⟨rfl, (show ((0 : Int) ≤ x2.toInt) ∧ (x2.toInt ≤ (i 7043).toInt) ∧ ((0 : Int) ≤ x1.toInt) ∧ ((x1.toInt + x2.toInt) ≤ (i 7043).toInt) by omega)⟩))
set_option maxRecDepth 100000 in
theorem kc36_112 {i : Nat → Int32} {a : Nat → List Int32} {q : Nat → List Int64} {r : Nat → Nat} (hI : kI i a q) (hr : kr r) (x1 : Int32) : km 1 36 [.ref 112, .int x1] (ks i a q r) (kPI (ks i a q r) (fun v => (v = 1 ∧ (((i 7168).toInt = 2) ∧ ((i 7170).toInt = x1.toInt))) ∨ (v = 0 ∧ (¬ (((i 7168).toInt = 2) ∧ ((i 7170).toInt = x1.toInt)))))) := by
  have n0 : (0 : Int32).toInt = 0 := by decide
  have n1 : (1 : Int32).toInt = 1 := by decide
  have n2 : (2 : Int32).toInt = 2 := by decide
  have hG := kG_self kW0 hI hr
  refine km_ofPI (q := (mi_h36, mi_c36)) rfl (by decide) (Nat.le_of_ble_eq_true rfl) ?_
  intro P hP
  have fi_7168 : (0 : Int) ≤ (i 7168).toInt ∧ (i 7168).toInt ≤ 2 := hG.I.1 7168
  refine ko_steps mi_in36 3 _ (5, [(0, .ref 112), (1, .int x1)], [.int 2, .int (i 7168)], (0, 0), ks i a q r) (by rfl) ?_
  refine ko_if mi_in36 ((i 7168) != 2) 20 8 ([(0, .ref 112), (1, .int x1)], [], (0, 0), ks i a q r) (by rfl) (fun c => ?_) (fun c => ?_)
  ·
    have c1 := kd_ne c; clear c
    refine ko_steps mi_in36 1 _ (21, [(0, .ref 112), (1, .int x1)], [.int 0], (0, 0), ks i a q r) (by rfl) ?_
    have fi_7170 : (0 : Int) ≤ (i 7170).toInt ∧ (i 7170).toInt ≤ 4 := hG.I.1 7170
    exact ko_ret mi_in36 (by rfl) (hP _ (Or.inr ⟨rfl, (show ¬ (((i 7168).toInt = 2) ∧ ((i 7170).toInt = x1.toInt)) by omega)⟩))
  ·
    have c2 := kd_neF c; clear c
    have fi_7170 : (0 : Int) ≤ (i 7170).toInt ∧ (i 7170).toInt ≤ 4 := hG.I.1 7170
    refine ko_steps mi_in36 3 _ (13, [(0, .ref 112), (1, .int x1)], [.int x1, .int (i 7170)], (0, 0), ks i a q r) (by rfl) ?_
    refine ko_if mi_in36 ((i 7170) != x1) 20 16 ([(0, .ref 112), (1, .int x1)], [], (0, 0), ks i a q r) (by rfl) (fun c => ?_) (fun c => ?_)
    ·
      have c3 := kd_ne c; clear c
      refine ko_steps mi_in36 1 _ (21, [(0, .ref 112), (1, .int x1)], [.int 0], (0, 0), ks i a q r) (by rfl) ?_
      exact ko_ret mi_in36 (by rfl) (hP _ (Or.inr ⟨rfl, (show ¬ (((i 7168).toInt = 2) ∧ ((i 7170).toInt = x1.toInt)) by omega)⟩))
    ·
      have c4 := kd_neF c; clear c
      refine ko_steps mi_in36 2 _ (21, [(0, .ref 112), (1, .int x1)], [.int 1], (0, 0), ks i a q r) (by rfl) ?_
      exact ko_ret mi_in36 (by rfl) (hP _ (Or.inl ⟨rfl, (show ((i 7168).toInt = 2) ∧ ((i 7170).toInt = x1.toInt) by omega)⟩))
set_option maxRecDepth 100000 in
theorem kc37_112 {i : Nat → Int32} {a : Nat → List Int32} {q : Nat → List Int64} {r : Nat → Nat} (hI : kI i a q) (hr : kr r) (x1 : Int32) (x2 : Int32) : km 1 37 [.ref 112, .int x1, .int x2] (ks i a q r) (kPI (ks i a q r) (fun v => (v = 1 ∧ (((0 : Int) ≤ x2.toInt) ∧ (x2.toInt ≤ (i 7171).toInt) ∧ ((0 : Int) ≤ x1.toInt) ∧ ((x1.toInt + x2.toInt) ≤ (i 7171).toInt))) ∨ (v = 0 ∧ (¬ (((0 : Int) ≤ x2.toInt) ∧ (x2.toInt ≤ (i 7171).toInt) ∧ ((0 : Int) ≤ x1.toInt) ∧ ((x1.toInt + x2.toInt) ≤ (i 7171).toInt)))))) := by
  have n0 : (0 : Int32).toInt = 0 := by decide
  have n1 : (1 : Int32).toInt = 1 := by decide
  have hG := kG_self kW0 hI hr
  refine km_ofPI (q := (mi_h37, mi_c37)) rfl (by decide) (Nat.le_of_ble_eq_true rfl) ?_
  intro P hP
  refine ko_steps mi_in37 1 _ (1, [(0, .ref 112), (1, .int x1), (2, .int x2)], [.int x2], (0, 0), ks i a q r) (by rfl) ?_
  refine ko_if mi_in37 (decide (x2 < 0)) 30 4 ([(0, .ref 112), (1, .int x1), (2, .int x2)], [], (0, 0), ks i a q r) (by rfl) (fun c => ?_) (fun c => ?_)
  ·
    have c1 := kd_lt c; clear c
    refine ko_steps mi_in37 1 _ (31, [(0, .ref 112), (1, .int x1), (2, .int x2)], [.int 0], (0, 0), ks i a q r) (by rfl) ?_
    have fi_7171 : (0 : Int) ≤ (i 7171).toInt ∧ (i 7171).toInt ≤ 60 := hG.I.1 7171
    exact ko_ret mi_in37 (by rfl) (hP _ (Or.inr ⟨rfl, (show ¬ (((0 : Int) ≤ x2.toInt) ∧ (x2.toInt ≤ (i 7171).toInt) ∧ ((0 : Int) ≤ x1.toInt) ∧ ((x1.toInt + x2.toInt) ≤ (i 7171).toInt)) by omega)⟩))
  ·
    have c2 := kd_ltF c; clear c
    have fi_7171 : (0 : Int) ≤ (i 7171).toInt ∧ (i 7171).toInt ≤ 60 := hG.I.1 7171
    refine ko_steps mi_in37 3 _ (9, [(0, .ref 112), (1, .int x1), (2, .int x2)], [.int (i 7171), .int x2], (0, 0), ks i a q r) (by rfl) ?_
    refine ko_if mi_in37 (decide ((i 7171) < x2)) 30 12 ([(0, .ref 112), (1, .int x1), (2, .int x2)], [], (0, 0), ks i a q r) (by rfl) (fun c => ?_) (fun c => ?_)
    ·
      have c3 := kd_lt c; clear c
      refine ko_steps mi_in37 1 _ (31, [(0, .ref 112), (1, .int x1), (2, .int x2)], [.int 0], (0, 0), ks i a q r) (by rfl) ?_
      exact ko_ret mi_in37 (by rfl) (hP _ (Or.inr ⟨rfl, (show ¬ (((0 : Int) ≤ x2.toInt) ∧ (x2.toInt ≤ (i 7171).toInt) ∧ ((0 : Int) ≤ x1.toInt) ∧ ((x1.toInt + x2.toInt) ≤ (i 7171).toInt)) by omega)⟩))
    ·
      have c4 := kd_ltF c; clear c
      refine ko_steps mi_in37 1 _ (13, [(0, .ref 112), (1, .int x1), (2, .int x2)], [.int x1], (0, 0), ks i a q r) (by rfl) ?_
      refine ko_if mi_in37 (decide (x1 < 0)) 30 16 ([(0, .ref 112), (1, .int x1), (2, .int x2)], [], (0, 0), ks i a q r) (by rfl) (fun c => ?_) (fun c => ?_)
      ·
        have c5 := kd_lt c; clear c
        refine ko_steps mi_in37 1 _ (31, [(0, .ref 112), (1, .int x1), (2, .int x2)], [.int 0], (0, 0), ks i a q r) (by rfl) ?_
        exact ko_ret mi_in37 (by rfl) (hP _ (Or.inr ⟨rfl, (show ¬ (((0 : Int) ≤ x2.toInt) ∧ (x2.toInt ≤ (i 7171).toInt) ∧ ((0 : Int) ≤ x1.toInt) ∧ ((x1.toInt + x2.toInt) ≤ (i 7171).toInt)) by omega)⟩))
      ·
        have c6 := kd_ltF c; clear c
        have s7 : ((i 7171) - x2).toInt = (i 7171).toInt - x2.toInt := kd_sub (by omega) (by omega)
        refine ko_steps mi_in37 5 _ (23, [(0, .ref 112), (1, .int x1), (2, .int x2)], [.int ((i 7171) - x2), .int x1], (0, 0), ks i a q r) (by rfl) ?_
        refine ko_if mi_in37 (decide (((i 7171) - x2) < x1)) 30 26 ([(0, .ref 112), (1, .int x1), (2, .int x2)], [], (0, 0), ks i a q r) (by rfl) (fun c => ?_) (fun c => ?_)
        ·
          have c8 := kd_lt c; clear c
          refine ko_steps mi_in37 1 _ (31, [(0, .ref 112), (1, .int x1), (2, .int x2)], [.int 0], (0, 0), ks i a q r) (by rfl) ?_
          exact ko_ret mi_in37 (by rfl) (hP _ (Or.inr ⟨rfl, (show ¬ (((0 : Int) ≤ x2.toInt) ∧ (x2.toInt ≤ (i 7171).toInt) ∧ ((0 : Int) ≤ x1.toInt) ∧ ((x1.toInt + x2.toInt) ≤ (i 7171).toInt)) by omega)⟩))
        ·
          have c9 := kd_ltF c; clear c
          refine ko_steps mi_in37 2 _ (31, [(0, .ref 112), (1, .int x1), (2, .int x2)], [.int 1], (0, 0), ks i a q r) (by rfl) ?_
          exact ko_ret mi_in37 (by rfl) (hP _ (Or.inl ⟨rfl, (show ((0 : Int) ≤ x2.toInt) ∧ (x2.toInt ≤ (i 7171).toInt) ∧ ((0 : Int) ≤ x1.toInt) ∧ ((x1.toInt + x2.toInt) ≤ (i 7171).toInt) by omega)⟩))
set_option maxRecDepth 100000 in
theorem kc36_114 {i : Nat → Int32} {a : Nat → List Int32} {q : Nat → List Int64} {r : Nat → Nat} (hI : kI i a q) (hr : kr r) (x1 : Int32) : km 1 36 [.ref 114, .int x1] (ks i a q r) (kPI (ks i a q r) (fun v => (v = 1 ∧ (((i 7296).toInt = 2) ∧ ((i 7298).toInt = x1.toInt))) ∨ (v = 0 ∧ (¬ (((i 7296).toInt = 2) ∧ ((i 7298).toInt = x1.toInt)))))) := by
  have n0 : (0 : Int32).toInt = 0 := by decide
  have n1 : (1 : Int32).toInt = 1 := by decide
  have n2 : (2 : Int32).toInt = 2 := by decide
  have hG := kG_self kW0 hI hr
  refine km_ofPI (q := (mi_h36, mi_c36)) rfl (by decide) (Nat.le_of_ble_eq_true rfl) ?_
  intro P hP
  have fi_7296 : (0 : Int) ≤ (i 7296).toInt ∧ (i 7296).toInt ≤ 2 := hG.I.1 7296
  refine ko_steps mi_in36 3 _ (5, [(0, .ref 114), (1, .int x1)], [.int 2, .int (i 7296)], (0, 0), ks i a q r) (by rfl) ?_
  refine ko_if mi_in36 ((i 7296) != 2) 20 8 ([(0, .ref 114), (1, .int x1)], [], (0, 0), ks i a q r) (by rfl) (fun c => ?_) (fun c => ?_)
  ·
    have c1 := kd_ne c; clear c
    refine ko_steps mi_in36 1 _ (21, [(0, .ref 114), (1, .int x1)], [.int 0], (0, 0), ks i a q r) (by rfl) ?_
    have fi_7298 : (0 : Int) ≤ (i 7298).toInt ∧ (i 7298).toInt ≤ 4 := hG.I.1 7298
    exact ko_ret mi_in36 (by rfl) (hP _ (Or.inr ⟨rfl, (show ¬ (((i 7296).toInt = 2) ∧ ((i 7298).toInt = x1.toInt)) by omega)⟩))
  ·
    have c2 := kd_neF c; clear c
    have fi_7298 : (0 : Int) ≤ (i 7298).toInt ∧ (i 7298).toInt ≤ 4 := hG.I.1 7298
    refine ko_steps mi_in36 3 _ (13, [(0, .ref 114), (1, .int x1)], [.int x1, .int (i 7298)], (0, 0), ks i a q r) (by rfl) ?_
    refine ko_if mi_in36 ((i 7298) != x1) 20 16 ([(0, .ref 114), (1, .int x1)], [], (0, 0), ks i a q r) (by rfl) (fun c => ?_) (fun c => ?_)
    ·
      have c3 := kd_ne c; clear c
      refine ko_steps mi_in36 1 _ (21, [(0, .ref 114), (1, .int x1)], [.int 0], (0, 0), ks i a q r) (by rfl) ?_
      exact ko_ret mi_in36 (by rfl) (hP _ (Or.inr ⟨rfl, (show ¬ (((i 7296).toInt = 2) ∧ ((i 7298).toInt = x1.toInt)) by omega)⟩))
    ·
      have c4 := kd_neF c; clear c
      refine ko_steps mi_in36 2 _ (21, [(0, .ref 114), (1, .int x1)], [.int 1], (0, 0), ks i a q r) (by rfl) ?_
      exact ko_ret mi_in36 (by rfl) (hP _ (Or.inl ⟨rfl, (show ((i 7296).toInt = 2) ∧ ((i 7298).toInt = x1.toInt) by omega)⟩))
set_option maxRecDepth 100000 in
theorem kc37_114 {i : Nat → Int32} {a : Nat → List Int32} {q : Nat → List Int64} {r : Nat → Nat} (hI : kI i a q) (hr : kr r) (x1 : Int32) (x2 : Int32) : km 1 37 [.ref 114, .int x1, .int x2] (ks i a q r) (kPI (ks i a q r) (fun v => (v = 1 ∧ (((0 : Int) ≤ x2.toInt) ∧ (x2.toInt ≤ (i 7299).toInt) ∧ ((0 : Int) ≤ x1.toInt) ∧ ((x1.toInt + x2.toInt) ≤ (i 7299).toInt))) ∨ (v = 0 ∧ (¬ (((0 : Int) ≤ x2.toInt) ∧ (x2.toInt ≤ (i 7299).toInt) ∧ ((0 : Int) ≤ x1.toInt) ∧ ((x1.toInt + x2.toInt) ≤ (i 7299).toInt)))))) := by
  have n0 : (0 : Int32).toInt = 0 := by decide
  have n1 : (1 : Int32).toInt = 1 := by decide
  have hG := kG_self kW0 hI hr
  refine km_ofPI (q := (mi_h37, mi_c37)) rfl (by decide) (Nat.le_of_ble_eq_true rfl) ?_
  intro P hP
  refine ko_steps mi_in37 1 _ (1, [(0, .ref 114), (1, .int x1), (2, .int x2)], [.int x2], (0, 0), ks i a q r) (by rfl) ?_
  refine ko_if mi_in37 (decide (x2 < 0)) 30 4 ([(0, .ref 114), (1, .int x1), (2, .int x2)], [], (0, 0), ks i a q r) (by rfl) (fun c => ?_) (fun c => ?_)
  ·
    have c1 := kd_lt c; clear c
    refine ko_steps mi_in37 1 _ (31, [(0, .ref 114), (1, .int x1), (2, .int x2)], [.int 0], (0, 0), ks i a q r) (by rfl) ?_
    have fi_7299 : (0 : Int) ≤ (i 7299).toInt ∧ (i 7299).toInt ≤ 60 := hG.I.1 7299
    exact ko_ret mi_in37 (by rfl) (hP _ (Or.inr ⟨rfl, (show ¬ (((0 : Int) ≤ x2.toInt) ∧ (x2.toInt ≤ (i 7299).toInt) ∧ ((0 : Int) ≤ x1.toInt) ∧ ((x1.toInt + x2.toInt) ≤ (i 7299).toInt)) by omega)⟩))
  ·
    have c2 := kd_ltF c; clear c
    have fi_7299 : (0 : Int) ≤ (i 7299).toInt ∧ (i 7299).toInt ≤ 60 := hG.I.1 7299
    refine ko_steps mi_in37 3 _ (9, [(0, .ref 114), (1, .int x1), (2, .int x2)], [.int (i 7299), .int x2], (0, 0), ks i a q r) (by rfl) ?_
    refine ko_if mi_in37 (decide ((i 7299) < x2)) 30 12 ([(0, .ref 114), (1, .int x1), (2, .int x2)], [], (0, 0), ks i a q r) (by rfl) (fun c => ?_) (fun c => ?_)
    ·
      have c3 := kd_lt c; clear c
      refine ko_steps mi_in37 1 _ (31, [(0, .ref 114), (1, .int x1), (2, .int x2)], [.int 0], (0, 0), ks i a q r) (by rfl) ?_
      exact ko_ret mi_in37 (by rfl) (hP _ (Or.inr ⟨rfl, (show ¬ (((0 : Int) ≤ x2.toInt) ∧ (x2.toInt ≤ (i 7299).toInt) ∧ ((0 : Int) ≤ x1.toInt) ∧ ((x1.toInt + x2.toInt) ≤ (i 7299).toInt)) by omega)⟩))
    ·
      have c4 := kd_ltF c; clear c
      refine ko_steps mi_in37 1 _ (13, [(0, .ref 114), (1, .int x1), (2, .int x2)], [.int x1], (0, 0), ks i a q r) (by rfl) ?_
      refine ko_if mi_in37 (decide (x1 < 0)) 30 16 ([(0, .ref 114), (1, .int x1), (2, .int x2)], [], (0, 0), ks i a q r) (by rfl) (fun c => ?_) (fun c => ?_)
      ·
        have c5 := kd_lt c; clear c
        refine ko_steps mi_in37 1 _ (31, [(0, .ref 114), (1, .int x1), (2, .int x2)], [.int 0], (0, 0), ks i a q r) (by rfl) ?_
        exact ko_ret mi_in37 (by rfl) (hP _ (Or.inr ⟨rfl, (show ¬ (((0 : Int) ≤ x2.toInt) ∧ (x2.toInt ≤ (i 7299).toInt) ∧ ((0 : Int) ≤ x1.toInt) ∧ ((x1.toInt + x2.toInt) ≤ (i 7299).toInt)) by omega)⟩))
      ·
        have c6 := kd_ltF c; clear c
        have s7 : ((i 7299) - x2).toInt = (i 7299).toInt - x2.toInt := kd_sub (by omega) (by omega)
        refine ko_steps mi_in37 5 _ (23, [(0, .ref 114), (1, .int x1), (2, .int x2)], [.int ((i 7299) - x2), .int x1], (0, 0), ks i a q r) (by rfl) ?_
        refine ko_if mi_in37 (decide (((i 7299) - x2) < x1)) 30 26 ([(0, .ref 114), (1, .int x1), (2, .int x2)], [], (0, 0), ks i a q r) (by rfl) (fun c => ?_) (fun c => ?_)
        ·
          have c8 := kd_lt c; clear c
          refine ko_steps mi_in37 1 _ (31, [(0, .ref 114), (1, .int x1), (2, .int x2)], [.int 0], (0, 0), ks i a q r) (by rfl) ?_
          exact ko_ret mi_in37 (by rfl) (hP _ (Or.inr ⟨rfl, (show ¬ (((0 : Int) ≤ x2.toInt) ∧ (x2.toInt ≤ (i 7299).toInt) ∧ ((0 : Int) ≤ x1.toInt) ∧ ((x1.toInt + x2.toInt) ≤ (i 7299).toInt)) by omega)⟩))
        ·
          have c9 := kd_ltF c; clear c
          refine ko_steps mi_in37 2 _ (31, [(0, .ref 114), (1, .int x1), (2, .int x2)], [.int 1], (0, 0), ks i a q r) (by rfl) ?_
          exact ko_ret mi_in37 (by rfl) (hP _ (Or.inl ⟨rfl, (show ((0 : Int) ≤ x2.toInt) ∧ (x2.toInt ≤ (i 7299).toInt) ∧ ((0 : Int) ≤ x1.toInt) ∧ ((x1.toInt + x2.toInt) ≤ (i 7299).toInt) by omega)⟩))
set_option maxRecDepth 100000 in
theorem kc56 {i : Nat → Int32} {a : Nat → List Int32} {q : Nat → List Int64} {r : Nat → Nat} (hI : kI i a q) (hr : kr r) (x1 : Int32) : km 1 56 [.int x1] (ks i a q r) (kPI (ks i a q r) (fun v => (v = 1 ∧ (((48 : Int) ≤ x1.toInt) ∧ (x1.toInt ≤ 57))) ∨ (v = 0 ∧ (¬ (((48 : Int) ≤ x1.toInt) ∧ (x1.toInt ≤ 57)))))) := by
  have n0 : (0 : Int32).toInt = 0 := by decide
  have n1 : (1 : Int32).toInt = 1 := by decide
  have n48 : (48 : Int32).toInt = 48 := by decide
  have n57 : (57 : Int32).toInt = 57 := by decide
  have hG := kG_self kW0 hI hr
  refine km_ofPI (q := (mi_h56, mi_c56)) rfl (by decide) (Nat.le_of_ble_eq_true rfl) ?_
  intro P hP
  refine ko_steps mi_in56 2 _ (3, [(0, .int x1)], [.int 48, .int x1], (0, 0), ks i a q r) (by rfl) ?_
  refine ko_if mi_in56 (decide (x1 < 48)) 16 6 ([(0, .int x1)], [], (0, 0), ks i a q r) (by rfl) (fun c => ?_) (fun c => ?_)
  ·
    have c1 := kd_lt c; clear c
    refine ko_steps mi_in56 1 _ (17, [(0, .int x1)], [.int 0], (0, 0), ks i a q r) (by rfl) ?_
    exact ko_ret mi_in56 (by rfl) (hP _ (Or.inr ⟨rfl, (show ¬ (((48 : Int) ≤ x1.toInt) ∧ (x1.toInt ≤ 57)) by omega)⟩))
  ·
    have c2 := kd_ltF c; clear c
    refine ko_steps mi_in56 2 _ (9, [(0, .int x1)], [.int 57, .int x1], (0, 0), ks i a q r) (by rfl) ?_
    refine ko_if mi_in56 (decide (57 < x1)) 16 12 ([(0, .int x1)], [], (0, 0), ks i a q r) (by rfl) (fun c => ?_) (fun c => ?_)
    ·
      have c3 := kd_lt c; clear c
      refine ko_steps mi_in56 1 _ (17, [(0, .int x1)], [.int 0], (0, 0), ks i a q r) (by rfl) ?_
      exact ko_ret mi_in56 (by rfl) (hP _ (Or.inr ⟨rfl, (show ¬ (((48 : Int) ≤ x1.toInt) ∧ (x1.toInt ≤ 57)) by omega)⟩))
    ·
      have c4 := kd_ltF c; clear c
      refine ko_steps mi_in56 2 _ (17, [(0, .int x1)], [.int 1], (0, 0), ks i a q r) (by rfl) ?_
      exact ko_ret mi_in56 (by rfl) (hP _ (Or.inl ⟨rfl, (show ((48 : Int) ≤ x1.toInt) ∧ (x1.toInt ≤ 57) by omega)⟩))
