set_option maxRecDepth 100000 in
theorem kc120 {i : Nat → Int32} {a : Nat → List Int32} {q : Nat → List Int64} {r : Nat → Nat} (hI : kI i a q) (hr : kr r) (x1 : Int32) (x2 : Int32) (x3 : Int32) : km 1 120 [.int x1, .int x2, .int x3] (ks i a q r) (kPI (ks i a q r) (fun v => (v = 1 ∧ ((x2.toInt ≤ x1.toInt) ∧ (x1.toInt ≤ x3.toInt))) ∨ (v = 0 ∧ (¬ ((x2.toInt ≤ x1.toInt) ∧ (x1.toInt ≤ x3.toInt)))))) := by
  have hG := kG_self kW0 hI hr
  refine km_ofPI (q := (mi_h120, mi_c120)) rfl (by decide) (Nat.le_of_ble_eq_true rfl) ?_
  intro P hP
  refine ko_steps mi_in120 2 _ (2, [(0, .int x1), (1, .int x2), (2, .int x3)], [.int x2, .int x1], (0, 0), ks i a q r) (by rfl) ?_
  refine ko_if mi_in120 (decide (x1 < x2)) 14 5 ([(0, .int x1), (1, .int x2), (2, .int x3)], [], (0, 0), ks i a q r) (by rfl) (fun c => ?_) (fun c => ?_)
  ·
    have c1 : x1.toInt < x2.toInt := kd_lt c; clear c
    refine ko_steps mi_in120 1 _ (15, [(0, .int x1), (1, .int x2), (2, .int x3)], [.int 0], (0, 0), ks i a q r) (by rfl) ?_
    exact ko_ret mi_in120 (by rfl) (hP 0 (Or.inr ⟨rfl, (oz0 c1)⟩))
  ·
    have c2 : x2.toInt ≤ x1.toInt := kd_ltF c; clear c
    refine ko_steps mi_in120 2 _ (7, [(0, .int x1), (1, .int x2), (2, .int x3)], [.int x3, .int x1], (0, 0), ks i a q r) (by rfl) ?_
    refine ko_if mi_in120 (decide (x3 < x1)) 14 10 ([(0, .int x1), (1, .int x2), (2, .int x3)], [], (0, 0), ks i a q r) (by rfl) (fun c => ?_) (fun c => ?_)
    ·
      have c3 : x3.toInt < x1.toInt := kd_lt c; clear c
      refine ko_steps mi_in120 1 _ (15, [(0, .int x1), (1, .int x2), (2, .int x3)], [.int 0], (0, 0), ks i a q r) (by rfl) ?_
      exact ko_ret mi_in120 (by rfl) (hP 0 (Or.inr ⟨rfl, (oz1 c3)⟩))
    ·
      have c4 : x1.toInt ≤ x3.toInt := kd_ltF c; clear c
      refine ko_steps mi_in120 2 _ (15, [(0, .int x1), (1, .int x2), (2, .int x3)], [.int 1], (0, 0), ks i a q r) (by rfl) ?_
      exact ko_ret mi_in120 (by rfl) (hP 1 (Or.inl ⟨rfl, (oz2 c2 c4)⟩))
set_option maxRecDepth 100000 in
theorem kc121 {i : Nat → Int32} {a : Nat → List Int32} {q : Nat → List Int64} {r : Nat → Nat} (hI : kI i a q) (hr : kr r) (x1 : Int32) : km 3 121 [.int x1] (ks i a q r) (kPI (ks i a q r) (fun v => (v = 1 ∧ (((0 : Int) ≤ x1.toInt) ∧ (x1.toInt ≤ 5))) ∨ (v = 0 ∧ (¬ (((0 : Int) ≤ x1.toInt) ∧ (x1.toInt ≤ 5)))))) := by
  have hG := kG_self kW0 hI hr
  refine km_ofPI (q := (mi_h121, mi_c121)) rfl (by decide) (Nat.le_of_ble_eq_true rfl) ?_
  intro P hP
  refine ko_steps mi_in121 3 _ (3, [(0, .int x1)], [.int 5, .int 0, .int x1], (0, 0), ks i a q r) (by rfl) ?_
  refine ko_callPI mi_in121 (pc := 3) (ls := [(0, .int x1)]) (st := [.int 5, .int 0, .int x1]) (h := ks i a q r) (i := (.invokestatic 74, 3, 120, 0, 9, 0, 152)) (by rfl) (by rfl) (cy := mi_c120) rfl rfl (kc120 hG.I hG.R x1 0 5) (by decide) ?_
  intro vg1 hg1
  rcases hg1 with ⟨eg1, hg1⟩ | ⟨eg1, hg1⟩
  ·
    subst eg1
    have z2 : ((0 : Int32).toInt ≤ x1.toInt) ∧ (x1.toInt ≤ (5 : Int32).toInt) := hg1
    exact ko_ret mi_in121 (by rfl) (hP 1 (Or.inl ⟨rfl, (oz3 z2.1 z2.2 kn0 kn5)⟩))
  ·
    subst eg1
    have z3 : ¬ (((0 : Int32).toInt ≤ x1.toInt) ∧ (x1.toInt ≤ (5 : Int32).toInt)) := hg1
    exact ko_ret mi_in121 (by rfl) (hP 0 (Or.inr ⟨rfl, (oz4 z3 kn0 kn5)⟩))
set_option maxRecDepth 100000 in
theorem kc131 {i : Nat → Int32} {a : Nat → List Int32} {q : Nat → List Int64} {r : Nat → Nat} (hI : kI i a q) (hr : kr r) (x1 : Int32) (x2 : Int32) (x3 : Int32) : km 1 131 [.int x1, .int x2, .int x3] (ks i a q r) (kPI (ks i a q r) (fun v => (v = 1 ∧ ((x2.toInt ≤ x1.toInt) ∧ (x1.toInt ≤ x3.toInt))) ∨ (v = 0 ∧ (¬ ((x2.toInt ≤ x1.toInt) ∧ (x1.toInt ≤ x3.toInt)))))) := by
  have hG := kG_self kW0 hI hr
  refine km_ofPI (q := (mi_h131, mi_c131)) rfl (by decide) (Nat.le_of_ble_eq_true rfl) ?_
  intro P hP
  refine ko_steps mi_in131 2 _ (2, [(0, .int x1), (1, .int x2), (2, .int x3)], [.int x2, .int x1], (0, 0), ks i a q r) (by rfl) ?_
  refine ko_if mi_in131 (decide (x1 < x2)) 14 5 ([(0, .int x1), (1, .int x2), (2, .int x3)], [], (0, 0), ks i a q r) (by rfl) (fun c => ?_) (fun c => ?_)
  ·
    have c1 : x1.toInt < x2.toInt := kd_lt c; clear c
    refine ko_steps mi_in131 1 _ (15, [(0, .int x1), (1, .int x2), (2, .int x3)], [.int 0], (0, 0), ks i a q r) (by rfl) ?_
    exact ko_ret mi_in131 (by rfl) (hP 0 (Or.inr ⟨rfl, (oz0 c1)⟩))
  ·
    have c2 : x2.toInt ≤ x1.toInt := kd_ltF c; clear c
    refine ko_steps mi_in131 2 _ (7, [(0, .int x1), (1, .int x2), (2, .int x3)], [.int x3, .int x1], (0, 0), ks i a q r) (by rfl) ?_
    refine ko_if mi_in131 (decide (x3 < x1)) 14 10 ([(0, .int x1), (1, .int x2), (2, .int x3)], [], (0, 0), ks i a q r) (by rfl) (fun c => ?_) (fun c => ?_)
    ·
      have c3 : x3.toInt < x1.toInt := kd_lt c; clear c
      refine ko_steps mi_in131 1 _ (15, [(0, .int x1), (1, .int x2), (2, .int x3)], [.int 0], (0, 0), ks i a q r) (by rfl) ?_
      exact ko_ret mi_in131 (by rfl) (hP 0 (Or.inr ⟨rfl, (oz1 c3)⟩))
    ·
      have c4 : x1.toInt ≤ x3.toInt := kd_ltF c; clear c
      refine ko_steps mi_in131 2 _ (15, [(0, .int x1), (1, .int x2), (2, .int x3)], [.int 1], (0, 0), ks i a q r) (by rfl) ?_
      exact ko_ret mi_in131 (by rfl) (hP 1 (Or.inl ⟨rfl, (oz2 c2 c4)⟩))
set_option maxRecDepth 100000 in
theorem kc133 {i : Nat → Int32} {a : Nat → List Int32} {q : Nat → List Int64} {r : Nat → Nat} (hI : kI i a q) (hr : kr r) (x1 : Int32) : km 3 133 [.int x1] (ks i a q r) (kPI (ks i a q r) (fun v => (v = 1 ∧ (((0 : Int) ≤ x1.toInt) ∧ (x1.toInt ≤ 5))) ∨ (v = 0 ∧ (¬ (((0 : Int) ≤ x1.toInt) ∧ (x1.toInt ≤ 5)))))) := by
  have hG := kG_self kW0 hI hr
  refine km_ofPI (q := (mi_h133, mi_c133)) rfl (by decide) (Nat.le_of_ble_eq_true rfl) ?_
  intro P hP
  refine ko_steps mi_in133 3 _ (3, [(0, .int x1)], [.int 5, .int 0, .int x1], (0, 0), ks i a q r) (by rfl) ?_
  refine ko_callPI mi_in133 (pc := 3) (ls := [(0, .int x1)]) (st := [.int 5, .int 0, .int x1]) (h := ks i a q r) (i := (.invokestatic 119, 3, 131, 0, 9, 0, 379)) (by rfl) (by rfl) (cy := mi_c131) rfl rfl (kc131 hG.I hG.R x1 0 5) (by decide) ?_
  intro vg1 hg1
  rcases hg1 with ⟨eg1, hg1⟩ | ⟨eg1, hg1⟩
  ·
    subst eg1
    have z2 : ((0 : Int32).toInt ≤ x1.toInt) ∧ (x1.toInt ≤ (5 : Int32).toInt) := hg1
    exact ko_ret mi_in133 (by rfl) (hP 1 (Or.inl ⟨rfl, (oz3 z2.1 z2.2 kn0 kn5)⟩))
  ·
    subst eg1
    have z3 : ¬ (((0 : Int32).toInt ≤ x1.toInt) ∧ (x1.toInt ≤ (5 : Int32).toInt)) := hg1
    exact ko_ret mi_in133 (by rfl) (hP 0 (Or.inr ⟨rfl, (oz4 z3 kn0 kn5)⟩))
set_option maxRecDepth 100000 in
theorem kc24_1 {i : Nat → Int32} {a : Nat → List Int32} {q : Nat → List Int64} {r : Nat → Nat} (hI : kI i a q) (hr : kr r) (x1 : Int32) : km 1 24 [.ref 1, .int x1] (ks i a q r) (kPI (ks i a q r) (fun v => (v = 1 ∧ (((0 : Int) ≤ x1.toInt) ∧ (x1.toInt < (i 64).toInt))) ∨ (v = 0 ∧ (¬ (((0 : Int) ≤ x1.toInt) ∧ (x1.toInt < (i 64).toInt)))))) := by
  have hG := kG_self kW0 hI hr
  refine km_ofPI (q := (mi_h24, mi_c24)) rfl (by decide) (Nat.le_of_ble_eq_true rfl) ?_
  intro P hP
  refine ko_steps mi_in24 1 _ (1, [(0, .ref 1), (1, .int x1)], [.int x1], (0, 0), ks i a q r) (by rfl) ?_
  refine ko_if mi_in24 (decide (x1 < 0)) 22 4 ([(0, .ref 1), (1, .int x1)], [], (0, 0), ks i a q r) (by rfl) (fun c => ?_) (fun c => ?_)
  ·
    have c1 : x1.toInt < (0 : Int32).toInt := kd_lt c; clear c
    refine ko_steps mi_in24 1 _ (23, [(0, .ref 1), (1, .int x1)], [.int 0], (0, 0), ks i a q r) (by rfl) ?_
    have fi_64 : ((0 : Int) ≤ (i 64).toInt) ∧ ((i 64).toInt ≤ 8) := hG.I.1 64
    exact ko_ret mi_in24 (by rfl) (hP 0 (Or.inr ⟨rfl, (oz5 c1 kn0)⟩))
  ·
    have c2 : (0 : Int32).toInt ≤ x1.toInt := kd_ltF c; clear c
    have fi_64 : ((0 : Int) ≤ (i 64).toInt) ∧ ((i 64).toInt ≤ 8) := hG.I.1 64
    refine ko_steps mi_in24 3 _ (9, [(0, .ref 1), (1, .int x1)], [.int (i 64), .int x1], (0, 0), ks i a q r) (by rfl) ?_
    refine ko_if mi_in24 (decide ((i 64) ≤ x1)) 22 12 ([(0, .ref 1), (1, .int x1)], [], (0, 0), ks i a q r) (by rfl) (fun c => ?_) (fun c => ?_)
    ·
      have c3 : (i 64).toInt ≤ x1.toInt := kd_le c; clear c
      refine ko_steps mi_in24 1 _ (23, [(0, .ref 1), (1, .int x1)], [.int 0], (0, 0), ks i a q r) (by rfl) ?_
      exact ko_ret mi_in24 (by rfl) (hP 0 (Or.inr ⟨rfl, (oz6 c3)⟩))
    ·
      have c4 : x1.toInt < (i 64).toInt := kd_leF c; clear c
      refine ko_steps mi_in24 2 _ (15, [(0, .ref 1), (1, .int x1)], [.int 8, .int x1], (0, 0), ks i a q r) (by rfl) ?_
      refine ko_if mi_in24 (decide (8 ≤ x1)) 22 18 ([(0, .ref 1), (1, .int x1)], [], (0, 0), ks i a q r) (by rfl) (fun c => ?_) (fun c => ?_)
      ·
        have c5 : (8 : Int32).toInt ≤ x1.toInt := kd_le c; clear c
        exact (oz7 c4 c5 fi_64.2 kn8).elim
      ·
        have c6 : x1.toInt < (8 : Int32).toInt := kd_leF c; clear c
        refine ko_steps mi_in24 2 _ (23, [(0, .ref 1), (1, .int x1)], [.int 1], (0, 0), ks i a q r) (by rfl) ?_
        exact ko_ret mi_in24 (by rfl) (hP 1 (Or.inl ⟨rfl, (oz8 c2 c4 kn0)⟩))
set_option maxRecDepth 100000 in
theorem kc24_50 {i : Nat → Int32} {a : Nat → List Int32} {q : Nat → List Int64} {r : Nat → Nat} (hI : kI i a q) (hr : kr r) (x1 : Int32) : km 1 24 [.ref 50, .int x1] (ks i a q r) (kPI (ks i a q r) (fun v => (v = 1 ∧ (((0 : Int) ≤ x1.toInt) ∧ (x1.toInt < (i 3200).toInt))) ∨ (v = 0 ∧ (¬ (((0 : Int) ≤ x1.toInt) ∧ (x1.toInt < (i 3200).toInt)))))) := by
  have hG := kG_self kW0 hI hr
  refine km_ofPI (q := (mi_h24, mi_c24)) rfl (by decide) (Nat.le_of_ble_eq_true rfl) ?_
  intro P hP
  refine ko_steps mi_in24 1 _ (1, [(0, .ref 50), (1, .int x1)], [.int x1], (0, 0), ks i a q r) (by rfl) ?_
  refine ko_if mi_in24 (decide (x1 < 0)) 22 4 ([(0, .ref 50), (1, .int x1)], [], (0, 0), ks i a q r) (by rfl) (fun c => ?_) (fun c => ?_)
  ·
    have c1 : x1.toInt < (0 : Int32).toInt := kd_lt c; clear c
    refine ko_steps mi_in24 1 _ (23, [(0, .ref 50), (1, .int x1)], [.int 0], (0, 0), ks i a q r) (by rfl) ?_
    have fi_3200 : ((0 : Int) ≤ (i 3200).toInt) ∧ ((i 3200).toInt ≤ 8) := hG.I.1 3200
    exact ko_ret mi_in24 (by rfl) (hP 0 (Or.inr ⟨rfl, (oz5 c1 kn0)⟩))
  ·
    have c2 : (0 : Int32).toInt ≤ x1.toInt := kd_ltF c; clear c
    have fi_3200 : ((0 : Int) ≤ (i 3200).toInt) ∧ ((i 3200).toInt ≤ 8) := hG.I.1 3200
    refine ko_steps mi_in24 3 _ (9, [(0, .ref 50), (1, .int x1)], [.int (i 3200), .int x1], (0, 0), ks i a q r) (by rfl) ?_
    refine ko_if mi_in24 (decide ((i 3200) ≤ x1)) 22 12 ([(0, .ref 50), (1, .int x1)], [], (0, 0), ks i a q r) (by rfl) (fun c => ?_) (fun c => ?_)
    ·
      have c3 : (i 3200).toInt ≤ x1.toInt := kd_le c; clear c
      refine ko_steps mi_in24 1 _ (23, [(0, .ref 50), (1, .int x1)], [.int 0], (0, 0), ks i a q r) (by rfl) ?_
      exact ko_ret mi_in24 (by rfl) (hP 0 (Or.inr ⟨rfl, (oz6 c3)⟩))
    ·
      have c4 : x1.toInt < (i 3200).toInt := kd_leF c; clear c
      refine ko_steps mi_in24 2 _ (15, [(0, .ref 50), (1, .int x1)], [.int 8, .int x1], (0, 0), ks i a q r) (by rfl) ?_
      refine ko_if mi_in24 (decide (8 ≤ x1)) 22 18 ([(0, .ref 50), (1, .int x1)], [], (0, 0), ks i a q r) (by rfl) (fun c => ?_) (fun c => ?_)
      ·
        have c5 : (8 : Int32).toInt ≤ x1.toInt := kd_le c; clear c
        exact (oz7 c4 c5 fi_3200.2 kn8).elim
      ·
        have c6 : x1.toInt < (8 : Int32).toInt := kd_leF c; clear c
        refine ko_steps mi_in24 2 _ (23, [(0, .ref 50), (1, .int x1)], [.int 1], (0, 0), ks i a q r) (by rfl) ?_
        exact ko_ret mi_in24 (by rfl) (hP 1 (Or.inl ⟨rfl, (oz8 c2 c4 kn0)⟩))
set_option maxRecDepth 100000 in
theorem kc123_0 {i : Nat → Int32} {a : Nat → List Int32} {q : Nat → List Int64} {r : Nat → Nat} (hI : kI i a q) (hr : kr r) (x1 : Int32) : km 3 123 [.ref 0, .int x1] (ks i a q r) (kPI (ks i a q r) (fun v => (v = 1 ∧ (((0 : Int) ≤ x1.toInt) ∧ (x1.toInt < (i 64).toInt))) ∨ (v = 0 ∧ (¬ (((0 : Int) ≤ x1.toInt) ∧ (x1.toInt < (i 64).toInt)))))) := by
  have hG := kG_self kW0 hI hr
  refine km_ofPI (q := (mi_h123, mi_c123)) rfl (by decide) (Nat.le_of_ble_eq_true rfl) ?_
  intro P hP
  refine ko_steps mi_in123 3 _ (5, [(0, .ref 0), (1, .int x1)], [.int x1, .ref 1], (0, 0), ks i a q r) (by rfl) ?_
  refine ko_callPI mi_in123 (pc := 5) (ls := [(0, .ref 0), (1, .int x1)]) (st := [.int x1, .ref 1]) (h := ks i a q r) (i := (.invokevirtual 342, 3, 24, 0, 9, 0, 163)) (by rfl) (by rfl) (cy := mi_c24) rfl rfl (kc24_1 hG.I hG.R x1) (by decide) ?_
  intro vg1 hg1
  rcases hg1 with ⟨eg1, hg1⟩ | ⟨eg1, hg1⟩
  ·
    subst eg1
    have fi_64 : ((0 : Int) ≤ (i 64).toInt) ∧ ((i 64).toInt ≤ 8) := hG.I.1 64
    have z2 : ((0 : Int) ≤ x1.toInt) ∧ (x1.toInt < (i 64).toInt) := hg1
    exact ko_ret mi_in123 (by rfl) (hP 1 (Or.inl ⟨rfl, (oz9 z2.1 z2.2)⟩))
  ·
    subst eg1
    have fi_64 : ((0 : Int) ≤ (i 64).toInt) ∧ ((i 64).toInt ≤ 8) := hG.I.1 64
    have z3 : ¬ (((0 : Int) ≤ x1.toInt) ∧ (x1.toInt < (i 64).toInt)) := hg1
    exact ko_ret mi_in123 (by rfl) (hP 0 (Or.inr ⟨rfl, (oz10 z3)⟩))
set_option maxRecDepth 100000 in
theorem kc132_116 {i : Nat → Int32} {a : Nat → List Int32} {q : Nat → List Int64} {r : Nat → Nat} (hI : kI i a q) (hr : kr r) (x1 : Int32) : km 3 132 [.ref 116, .int x1] (ks i a q r) (kPI (ks i a q r) (fun v => (v = 1 ∧ (((0 : Int) ≤ x1.toInt) ∧ (x1.toInt < (i 7424).toInt))) ∨ (v = 0 ∧ (¬ (((0 : Int) ≤ x1.toInt) ∧ (x1.toInt < (i 7424).toInt)))))) := by
  have hG := kG_self kW0 hI hr
  refine km_ofPI (q := (mi_h132, mi_c132)) rfl (by decide) (Nat.le_of_ble_eq_true rfl) ?_
  intro P hP
  have fi_7424 : ((0 : Int) ≤ (i 7424).toInt) ∧ ((i 7424).toInt ≤ 8) := hG.I.1 7424
  have s1 : ((i 7424) - 1).toInt = (i 7424).toInt - (1 : Int32).toInt := kd_sub (oz11 fi_7424.1 kn1) (oz12 fi_7424.2 kn1)
  refine ko_steps mi_in132 6 _ (8, [(0, .ref 116), (1, .int x1)], [.int ((i 7424) - 1), .int 0, .int x1], (0, 0), ks i a q r) (by rfl) ?_
  refine ko_callPI mi_in132 (pc := 8) (ls := [(0, .ref 116), (1, .int x1)]) (st := [.int ((i 7424) - 1), .int 0, .int x1]) (h := ks i a q r) (i := (.invokestatic 119, 3, 131, 0, 9, 0, 379)) (by rfl) (by rfl) (cy := mi_c131) rfl rfl (kc131 hG.I hG.R x1 0 ((i 7424) - 1)) (by decide) ?_
  intro vg2 hg2
  rcases hg2 with ⟨eg2, hg2⟩ | ⟨eg2, hg2⟩
  ·
    subst eg2
    have z3 : ((0 : Int32).toInt ≤ x1.toInt) ∧ (x1.toInt ≤ ((i 7424) - 1).toInt) := hg2
    exact ko_ret mi_in132 (by rfl) (hP 1 (Or.inl ⟨rfl, (oz13 s1 z3.1 z3.2 kn1 kn0)⟩))
  ·
    subst eg2
    have z4 : ¬ (((0 : Int32).toInt ≤ x1.toInt) ∧ (x1.toInt ≤ ((i 7424) - 1).toInt)) := hg2
    exact ko_ret mi_in132 (by rfl) (hP 0 (Or.inr ⟨rfl, (oz14 s1 z4 kn1 kn0)⟩))
set_option maxRecDepth 100000 in
theorem kc122 {i : Nat → Int32} {a : Nat → List Int32} {q : Nat → List Int64} {r : Nat → Nat} (hI : kI i a q) (hr : kr r) (x1 : Int32) : km 5 122 [.int x1] (ks i a q r) (kPI (ks i a q r) (fun v => (v = 1 ∧ (((0 : Int) ≤ x1.toInt) ∧ (((0 : Int) ≤ (x1.toInt / 10)) ∧ ((x1.toInt / 10) ≤ 5)) ∧ ((x1.toInt % 10) ≤ 5))) ∨ (v = 0 ∧ (¬ (((0 : Int) ≤ x1.toInt) ∧ (((0 : Int) ≤ (x1.toInt / 10)) ∧ ((x1.toInt / 10) ≤ 5)) ∧ ((x1.toInt % 10) ≤ 5)))))) := by
  have hG := kG_self kW0 hI hr
  refine km_ofPI (q := (mi_h122, mi_c122)) rfl (by decide) (Nat.le_of_ble_eq_true rfl) ?_
  intro P hP
  refine ko_steps mi_in122 1 _ (1, [(0, .int x1)], [.int x1], (0, 0), ks i a q r) (by rfl) ?_
  refine ko_if mi_in122 (decide (x1 < 0)) 28 4 ([(0, .int x1)], [], (0, 0), ks i a q r) (by rfl) (fun c => ?_) (fun c => ?_)
  ·
    have c1 : x1.toInt < (0 : Int32).toInt := kd_lt c; clear c
    refine ko_steps mi_in122 1 _ (29, [(0, .int x1)], [.int 0], (0, 0), ks i a q r) (by rfl) ?_
    exact ko_ret mi_in122 (by rfl) (hP 0 (Or.inr ⟨rfl, (oz15 c1 kn0)⟩))
  ·
    have c2 : (0 : Int32).toInt ≤ x1.toInt := kd_ltF c; clear c
    have s3 : (x1 / 10).toInt = (x1.toInt / 10) := kd_div 10 kn10 (by decide) (oz16 c2 kn0)
    refine ko_steps mi_in122 3 _ (8, [(0, .int x1)], [.int (x1 / 10)], (0, 0), ks i a q r) (by rfl) ?_
    refine ko_callPI mi_in122 (pc := 8) (ls := [(0, .int x1)]) (st := [.int (x1 / 10)]) (h := ks i a q r) (i := (.invokestatic 70, 3, 121, 0, 9, 0, 157)) (by rfl) (by rfl) (cy := mi_c121) rfl rfl (kc121 hG.I hG.R (x1 / 10)) (by decide) ?_
    intro vg4 hg4
    rcases hg4 with ⟨eg4, hg4⟩ | ⟨eg4, hg4⟩
    ·
      subst eg4
      have z5 : ((0 : Int) ≤ (x1 / 10).toInt) ∧ ((x1 / 10).toInt ≤ 5) := hg4
      have s6 : (x1 - x1 / 10 * 10).toInt = (x1.toInt % 10) := kd_rem 10 kn10 (by decide) (oz16 c2 kn0)
      refine ko_steps mi_in122 4 _ (18, [(0, .int x1)], [.int (x1 - x1 / 10 * 10)], (0, 0), ks i a q r) (by rfl) ?_
      refine ko_callPI mi_in122 (pc := 18) (ls := [(0, .int x1)]) (st := [.int (x1 - x1 / 10 * 10)]) (h := ks i a q r) (i := (.invokestatic 70, 3, 121, 0, 9, 0, 157)) (by rfl) (by rfl) (cy := mi_c121) rfl rfl (kc121 hG.I hG.R (x1 - x1 / 10 * 10)) (by decide) ?_
      intro vg7 hg7
      rcases hg7 with ⟨eg7, hg7⟩ | ⟨eg7, hg7⟩
      ·
        subst eg7
        have z8 : ((0 : Int) ≤ (x1 - x1 / 10 * 10).toInt) ∧ ((x1 - x1 / 10 * 10).toInt ≤ 5) := hg7
        refine ko_steps mi_in122 3 _ (29, [(0, .int x1)], [.int 1], (0, 0), ks i a q r) (by rfl) ?_
        exact ko_ret mi_in122 (by rfl) (hP 1 (Or.inl ⟨rfl, (oz17 c2 s3 s6 z5.1 z5.2 z8.2 kn0)⟩))
      ·
        subst eg7
        have z9 : ¬ (((0 : Int) ≤ (x1 - x1 / 10 * 10).toInt) ∧ ((x1 - x1 / 10 * 10).toInt ≤ 5)) := hg7
        refine ko_steps mi_in122 2 _ (29, [(0, .int x1)], [.int 0], (0, 0), ks i a q r) (by rfl) ?_
        exact ko_ret mi_in122 (by rfl) (hP 0 (Or.inr ⟨rfl, (oz18 s6 z9)⟩))
    ·
      subst eg4
      have z10 : ¬ (((0 : Int) ≤ (x1 / 10).toInt) ∧ ((x1 / 10).toInt ≤ 5)) := hg4
      refine ko_steps mi_in122 2 _ (29, [(0, .int x1)], [.int 0], (0, 0), ks i a q r) (by rfl) ?_
      exact ko_ret mi_in122 (by rfl) (hP 0 (Or.inr ⟨rfl, (oz19 c2 s3 z10 kn0)⟩))
set_option maxRecDepth 100000 in
theorem kc190_116 {i : Nat → Int32} {a : Nat → List Int32} {q : Nat → List Int64} {r : Nat → Nat} (hI : kI i a q) (hr : kr r) (x1 : Int32) : km 5 190 [.ref 116, .int x1] (ks i a q r) (kPI (ks i a q r) (fun v => (v = 1 ∧ (((0 : Int) ≤ x1.toInt) ∧ (((0 : Int) ≤ (x1.toInt / 10)) ∧ ((x1.toInt / 10) ≤ 5)) ∧ ((x1.toInt % 10) ≤ 5))) ∨ (v = 0 ∧ (¬ (((0 : Int) ≤ x1.toInt) ∧ (((0 : Int) ≤ (x1.toInt / 10)) ∧ ((x1.toInt / 10) ≤ 5)) ∧ ((x1.toInt % 10) ≤ 5)))))) := by
  have hG := kG_self kW0 hI hr
  refine km_ofPI (q := (mi_h190, mi_c190)) rfl (by decide) (Nat.le_of_ble_eq_true rfl) ?_
  intro P hP
  refine ko_steps mi_in190 1 _ (1, [(0, .ref 116), (1, .int x1)], [.int x1], (0, 0), ks i a q r) (by rfl) ?_
  refine ko_if mi_in190 (decide (x1 < 0)) 28 4 ([(0, .ref 116), (1, .int x1)], [], (0, 0), ks i a q r) (by rfl) (fun c => ?_) (fun c => ?_)
  ·
    have c1 : x1.toInt < (0 : Int32).toInt := kd_lt c; clear c
    refine ko_steps mi_in190 1 _ (29, [(0, .ref 116), (1, .int x1)], [.int 0], (0, 0), ks i a q r) (by rfl) ?_
    exact ko_ret mi_in190 (by rfl) (hP 0 (Or.inr ⟨rfl, (oz15 c1 kn0)⟩))
  ·
    have c2 : (0 : Int32).toInt ≤ x1.toInt := kd_ltF c; clear c
    have s3 : (x1 / 10).toInt = (x1.toInt / 10) := kd_div 10 kn10 (by decide) (oz16 c2 kn0)
    refine ko_steps mi_in190 3 _ (8, [(0, .ref 116), (1, .int x1)], [.int (x1 / 10)], (0, 0), ks i a q r) (by rfl) ?_
    refine ko_callPI mi_in190 (pc := 8) (ls := [(0, .ref 116), (1, .int x1)]) (st := [.int (x1 / 10)]) (h := ks i a q r) (i := (.invokestatic 127, 3, 133, 0, 9, 0, 382)) (by rfl) (by rfl) (cy := mi_c133) rfl rfl (kc133 hG.I hG.R (x1 / 10)) (by decide) ?_
    intro vg4 hg4
    rcases hg4 with ⟨eg4, hg4⟩ | ⟨eg4, hg4⟩
    ·
      subst eg4
      have z5 : ((0 : Int) ≤ (x1 / 10).toInt) ∧ ((x1 / 10).toInt ≤ 5) := hg4
      have s6 : (x1 - x1 / 10 * 10).toInt = (x1.toInt % 10) := kd_rem 10 kn10 (by decide) (oz16 c2 kn0)
      refine ko_steps mi_in190 4 _ (18, [(0, .ref 116), (1, .int x1)], [.int (x1 - x1 / 10 * 10)], (0, 0), ks i a q r) (by rfl) ?_
      refine ko_callPI mi_in190 (pc := 18) (ls := [(0, .ref 116), (1, .int x1)]) (st := [.int (x1 - x1 / 10 * 10)]) (h := ks i a q r) (i := (.invokestatic 127, 3, 133, 0, 9, 0, 382)) (by rfl) (by rfl) (cy := mi_c133) rfl rfl (kc133 hG.I hG.R (x1 - x1 / 10 * 10)) (by decide) ?_
      intro vg7 hg7
      rcases hg7 with ⟨eg7, hg7⟩ | ⟨eg7, hg7⟩
      ·
        subst eg7
        have z8 : ((0 : Int) ≤ (x1 - x1 / 10 * 10).toInt) ∧ ((x1 - x1 / 10 * 10).toInt ≤ 5) := hg7
        refine ko_steps mi_in190 3 _ (29, [(0, .ref 116), (1, .int x1)], [.int 1], (0, 0), ks i a q r) (by rfl) ?_
        exact ko_ret mi_in190 (by rfl) (hP 1 (Or.inl ⟨rfl, (oz17 c2 s3 s6 z5.1 z5.2 z8.2 kn0)⟩))
      ·
        subst eg7
        have z9 : ¬ (((0 : Int) ≤ (x1 - x1 / 10 * 10).toInt) ∧ ((x1 - x1 / 10 * 10).toInt ≤ 5)) := hg7
        refine ko_steps mi_in190 2 _ (29, [(0, .ref 116), (1, .int x1)], [.int 0], (0, 0), ks i a q r) (by rfl) ?_
        exact ko_ret mi_in190 (by rfl) (hP 0 (Or.inr ⟨rfl, (oz18 s6 z9)⟩))
    ·
      subst eg4
      have z10 : ¬ (((0 : Int) ≤ (x1 / 10).toInt) ∧ ((x1 / 10).toInt ≤ 5)) := hg4
      refine ko_steps mi_in190 2 _ (29, [(0, .ref 116), (1, .int x1)], [.int 0], (0, 0), ks i a q r) (by rfl) ?_
      exact ko_ret mi_in190 (by rfl) (hP 0 (Or.inr ⟨rfl, (oz19 c2 s3 z10 kn0)⟩))
set_option maxRecDepth 100000 in
theorem kc124_0 {i : Nat → Int32} {a : Nat → List Int32} {q : Nat → List Int64} {r : Nat → Nat} (hI : kI i a q) (hr : kr r) (x1 : Int32) : km 5 124 [.ref 0, .int x1] (ks i a q r) (kPI (ks i a q r) (fun v => (v = 1 ∧ (((0 : Int) ≤ x1.toInt) ∧ (((x1.toInt / 10) < (i 64).toInt) ∧ ((x1.toInt % 10) < (i 64).toInt)) ∧ ((x1.toInt / 10) ≠ (x1.toInt % 10)))) ∨ (v = 0 ∧ (¬ (((0 : Int) ≤ x1.toInt) ∧ (((x1.toInt / 10) < (i 64).toInt) ∧ ((x1.toInt % 10) < (i 64).toInt)) ∧ ((x1.toInt / 10) ≠ (x1.toInt % 10))))))) := by
  have hG := kG_self kW0 hI hr
  refine km_ofPI (q := (mi_h124, mi_c124)) rfl (by decide) (Nat.le_of_ble_eq_true rfl) ?_
  intro P hP
  refine ko_steps mi_in124 1 _ (1, [(0, .ref 0), (1, .int x1)], [.int x1], (0, 0), ks i a q r) (by rfl) ?_
  refine ko_if mi_in124 (decide (x1 < 0)) 41 4 ([(0, .ref 0), (1, .int x1)], [], (0, 0), ks i a q r) (by rfl) (fun c => ?_) (fun c => ?_)
  ·
    have c1 : x1.toInt < (0 : Int32).toInt := kd_lt c; clear c
    refine ko_steps mi_in124 1 _ (42, [(0, .ref 0), (1, .int x1)], [.int 0], (0, 0), ks i a q r) (by rfl) ?_
    have fi_64 : ((0 : Int) ≤ (i 64).toInt) ∧ ((i 64).toInt ≤ 8) := hG.I.1 64
    exact ko_ret mi_in124 (by rfl) (hP 0 (Or.inr ⟨rfl, (oz20 c1 kn0)⟩))
  ·
    have c2 : (0 : Int32).toInt ≤ x1.toInt := kd_ltF c; clear c
    have s3 : (x1 / 10).toInt = (x1.toInt / 10) := kd_div 10 kn10 (by decide) (oz16 c2 kn0)
    refine ko_steps mi_in124 4 _ (9, [(0, .ref 0), (1, .int x1)], [.int (x1 / 10), .ref 0], (0, 0), ks i a q r) (by rfl) ?_
    refine ko_callPI mi_in124 (pc := 9) (ls := [(0, .ref 0), (1, .int x1)]) (st := [.int (x1 / 10), .ref 0]) (h := ks i a q r) (i := (.invokevirtual 141, 3, 123, 0, 9, 0, 162)) (by rfl) (by rfl) (cy := mi_c123) rfl rfl (kc123_0 hG.I hG.R (x1 / 10)) (by decide) ?_
    intro vg4 hg4
    rcases hg4 with ⟨eg4, hg4⟩ | ⟨eg4, hg4⟩
    ·
      subst eg4
      have fi_64 : ((0 : Int) ≤ (i 64).toInt) ∧ ((i 64).toInt ≤ 8) := hG.I.1 64
      have z5 : ((0 : Int) ≤ (x1 / 10).toInt) ∧ ((x1 / 10).toInt < (i 64).toInt) := hg4
      have s6 : (x1 - x1 / 10 * 10).toInt = (x1.toInt % 10) := kd_rem 10 kn10 (by decide) (oz16 c2 kn0)
      refine ko_steps mi_in124 5 _ (20, [(0, .ref 0), (1, .int x1)], [.int (x1 - x1 / 10 * 10), .ref 0], (0, 0), ks i a q r) (by rfl) ?_
      refine ko_callPI mi_in124 (pc := 20) (ls := [(0, .ref 0), (1, .int x1)]) (st := [.int (x1 - x1 / 10 * 10), .ref 0]) (h := ks i a q r) (i := (.invokevirtual 141, 3, 123, 0, 9, 0, 162)) (by rfl) (by rfl) (cy := mi_c123) rfl rfl (kc123_0 hG.I hG.R (x1 - x1 / 10 * 10)) (by decide) ?_
      intro vg7 hg7
      rcases hg7 with ⟨eg7, hg7⟩ | ⟨eg7, hg7⟩
      ·
        subst eg7
        have z8 : ((0 : Int) ≤ (x1 - x1 / 10 * 10).toInt) ∧ ((x1 - x1 / 10 * 10).toInt < (i 64).toInt) := hg7
        refine ko_steps mi_in124 7 _ (34, [(0, .ref 0), (1, .int x1)], [.int (x1 - x1 / 10 * 10), .int (x1 / 10)], (0, 0), ks i a q r) (by rfl) ?_
        refine ko_if mi_in124 ((x1 / 10) == (x1 - x1 / 10 * 10)) 41 37 ([(0, .ref 0), (1, .int x1)], [], (0, 0), ks i a q r) (by rfl) (fun c => ?_) (fun c => ?_)
        ·
          have c9 : (x1 / 10).toInt = (x1 - x1 / 10 * 10).toInt := kd_eq c; clear c
          refine ko_steps mi_in124 1 _ (42, [(0, .ref 0), (1, .int x1)], [.int 0], (0, 0), ks i a q r) (by rfl) ?_
          exact ko_ret mi_in124 (by rfl) (hP 0 (Or.inr ⟨rfl, (oz21 c9 s3 s6)⟩))
        ·
          have c10 : (x1 / 10).toInt ≠ (x1 - x1 / 10 * 10).toInt := kd_eqF c; clear c
          refine ko_steps mi_in124 2 _ (42, [(0, .ref 0), (1, .int x1)], [.int 1], (0, 0), ks i a q r) (by rfl) ?_
          exact ko_ret mi_in124 (by rfl) (hP 1 (Or.inl ⟨rfl, (oz22 c10 c2 s3 s6 z5.2 z8.2 kn0)⟩))
      ·
        subst eg7
        have z11 : ¬ (((0 : Int) ≤ (x1 - x1 / 10 * 10).toInt) ∧ ((x1 - x1 / 10 * 10).toInt < (i 64).toInt)) := hg7
        refine ko_steps mi_in124 2 _ (42, [(0, .ref 0), (1, .int x1)], [.int 0], (0, 0), ks i a q r) (by rfl) ?_
        exact ko_ret mi_in124 (by rfl) (hP 0 (Or.inr ⟨rfl, (oz23 s6 z11)⟩))
    ·
      subst eg4
      have fi_64 : ((0 : Int) ≤ (i 64).toInt) ∧ ((i 64).toInt ≤ 8) := hG.I.1 64
      have z12 : ¬ (((0 : Int) ≤ (x1 / 10).toInt) ∧ ((x1 / 10).toInt < (i 64).toInt)) := hg4
      refine ko_steps mi_in124 2 _ (42, [(0, .ref 0), (1, .int x1)], [.int 0], (0, 0), ks i a q r) (by rfl) ?_
      exact ko_ret mi_in124 (by rfl) (hP 0 (Or.inr ⟨rfl, (oz24 c2 s3 z12 kn0)⟩))
set_option maxRecDepth 100000 in
theorem kc186_116 {i : Nat → Int32} {a : Nat → List Int32} {q : Nat → List Int64} {r : Nat → Nat} (hI : kI i a q) (hr : kr r) (x1 : Int32) : km 5 186 [.ref 116, .int x1] (ks i a q r) (kPI (ks i a q r) (fun v => (v = 1 ∧ (((0 : Int) ≤ x1.toInt) ∧ (((x1.toInt / 10) < (i 7424).toInt) ∧ ((x1.toInt % 10) < (i 7424).toInt)) ∧ ((x1.toInt / 10) ≠ (x1.toInt % 10)))) ∨ (v = 0 ∧ (¬ (((0 : Int) ≤ x1.toInt) ∧ (((x1.toInt / 10) < (i 7424).toInt) ∧ ((x1.toInt % 10) < (i 7424).toInt)) ∧ ((x1.toInt / 10) ≠ (x1.toInt % 10))))))) := by
  have hG := kG_self kW0 hI hr
  refine km_ofPI (q := (mi_h186, mi_c186)) rfl (by decide) (Nat.le_of_ble_eq_true rfl) ?_
  intro P hP
  refine ko_steps mi_in186 1 _ (1, [(0, .ref 116), (1, .int x1)], [.int x1], (0, 0), ks i a q r) (by rfl) ?_
  refine ko_if mi_in186 (decide (x1 < 0)) 41 4 ([(0, .ref 116), (1, .int x1)], [], (0, 0), ks i a q r) (by rfl) (fun c => ?_) (fun c => ?_)
  ·
    have c1 : x1.toInt < (0 : Int32).toInt := kd_lt c; clear c
    refine ko_steps mi_in186 1 _ (42, [(0, .ref 116), (1, .int x1)], [.int 0], (0, 0), ks i a q r) (by rfl) ?_
    have fi_7424 : ((0 : Int) ≤ (i 7424).toInt) ∧ ((i 7424).toInt ≤ 8) := hG.I.1 7424
    exact ko_ret mi_in186 (by rfl) (hP 0 (Or.inr ⟨rfl, (oz20 c1 kn0)⟩))
  ·
    have c2 : (0 : Int32).toInt ≤ x1.toInt := kd_ltF c; clear c
    have s3 : (x1 / 10).toInt = (x1.toInt / 10) := kd_div 10 kn10 (by decide) (oz16 c2 kn0)
    refine ko_steps mi_in186 4 _ (9, [(0, .ref 116), (1, .int x1)], [.int (x1 / 10), .ref 116], (0, 0), ks i a q r) (by rfl) ?_
    refine ko_callPI mi_in186 (pc := 9) (ls := [(0, .ref 116), (1, .int x1)]) (st := [.int (x1 / 10), .ref 116]) (h := ks i a q r) (i := (.invokevirtual 137, 3, 132, 0, 9, 0, 387)) (by rfl) (by rfl) (cy := mi_c132) rfl rfl (kc132_116 hG.I hG.R (x1 / 10)) (by decide) ?_
    intro vg4 hg4
    rcases hg4 with ⟨eg4, hg4⟩ | ⟨eg4, hg4⟩
    ·
      subst eg4
      have fi_7424 : ((0 : Int) ≤ (i 7424).toInt) ∧ ((i 7424).toInt ≤ 8) := hG.I.1 7424
      have z5 : ((0 : Int) ≤ (x1 / 10).toInt) ∧ ((x1 / 10).toInt < (i 7424).toInt) := hg4
      have s6 : (x1 - x1 / 10 * 10).toInt = (x1.toInt % 10) := kd_rem 10 kn10 (by decide) (oz16 c2 kn0)
      refine ko_steps mi_in186 5 _ (20, [(0, .ref 116), (1, .int x1)], [.int (x1 - x1 / 10 * 10), .ref 116], (0, 0), ks i a q r) (by rfl) ?_
      refine ko_callPI mi_in186 (pc := 20) (ls := [(0, .ref 116), (1, .int x1)]) (st := [.int (x1 - x1 / 10 * 10), .ref 116]) (h := ks i a q r) (i := (.invokevirtual 137, 3, 132, 0, 9, 0, 387)) (by rfl) (by rfl) (cy := mi_c132) rfl rfl (kc132_116 hG.I hG.R (x1 - x1 / 10 * 10)) (by decide) ?_
      intro vg7 hg7
      rcases hg7 with ⟨eg7, hg7⟩ | ⟨eg7, hg7⟩
      ·
        subst eg7
        have z8 : ((0 : Int) ≤ (x1 - x1 / 10 * 10).toInt) ∧ ((x1 - x1 / 10 * 10).toInt < (i 7424).toInt) := hg7
        refine ko_steps mi_in186 7 _ (34, [(0, .ref 116), (1, .int x1)], [.int (x1 - x1 / 10 * 10), .int (x1 / 10)], (0, 0), ks i a q r) (by rfl) ?_
        refine ko_if mi_in186 ((x1 / 10) == (x1 - x1 / 10 * 10)) 41 37 ([(0, .ref 116), (1, .int x1)], [], (0, 0), ks i a q r) (by rfl) (fun c => ?_) (fun c => ?_)
        ·
          have c9 : (x1 / 10).toInt = (x1 - x1 / 10 * 10).toInt := kd_eq c; clear c
          refine ko_steps mi_in186 1 _ (42, [(0, .ref 116), (1, .int x1)], [.int 0], (0, 0), ks i a q r) (by rfl) ?_
          exact ko_ret mi_in186 (by rfl) (hP 0 (Or.inr ⟨rfl, (oz21 c9 s3 s6)⟩))
        ·
          have c10 : (x1 / 10).toInt ≠ (x1 - x1 / 10 * 10).toInt := kd_eqF c; clear c
          refine ko_steps mi_in186 2 _ (42, [(0, .ref 116), (1, .int x1)], [.int 1], (0, 0), ks i a q r) (by rfl) ?_
          exact ko_ret mi_in186 (by rfl) (hP 1 (Or.inl ⟨rfl, (oz22 c10 c2 s3 s6 z5.2 z8.2 kn0)⟩))
      ·
        subst eg7
        have z11 : ¬ (((0 : Int) ≤ (x1 - x1 / 10 * 10).toInt) ∧ ((x1 - x1 / 10 * 10).toInt < (i 7424).toInt)) := hg7
        refine ko_steps mi_in186 2 _ (42, [(0, .ref 116), (1, .int x1)], [.int 0], (0, 0), ks i a q r) (by rfl) ?_
        exact ko_ret mi_in186 (by rfl) (hP 0 (Or.inr ⟨rfl, (oz23 s6 z11)⟩))
    ·
      subst eg4
      have fi_7424 : ((0 : Int) ≤ (i 7424).toInt) ∧ ((i 7424).toInt ≤ 8) := hG.I.1 7424
      have z12 : ¬ (((0 : Int) ≤ (x1 / 10).toInt) ∧ ((x1 / 10).toInt < (i 7424).toInt)) := hg4
      refine ko_steps mi_in186 2 _ (42, [(0, .ref 116), (1, .int x1)], [.int 0], (0, 0), ks i a q r) (by rfl) ?_
      exact ko_ret mi_in186 (by rfl) (hP 0 (Or.inr ⟨rfl, (oz24 c2 s3 z12 kn0)⟩))
set_option maxRecDepth 100000 in
theorem kc125_0 {i : Nat → Int32} {a : Nat → List Int32} {q : Nat → List Int64} {r : Nat → Nat} (hI : kI i a q) (hr : kr r) (x1 : Int32) (x2 : Int32) : km 5 125 [.ref 0, .int x1, .int x2] (ks i a q r) (kPI (ks i a q r) (fun v => (v = 1 ∧ ((((0 : Int) ≤ x2.toInt) ∧ (x2.toInt ≤ 3) ∧ ((0 : Int) ≤ x1.toInt) ∧ (x1.toInt < (i 64).toInt)) ∨ (((4 : Int) ≤ x2.toInt) ∧ (x2.toInt ≤ 6) ∧ (x1.toInt = 0)))) ∨ (v = 0 ∧ (¬ ((((0 : Int) ≤ x2.toInt) ∧ (x2.toInt ≤ 3) ∧ ((0 : Int) ≤ x1.toInt) ∧ (x1.toInt < (i 64).toInt)) ∨ (((4 : Int) ≤ x2.toInt) ∧ (x2.toInt ≤ 6) ∧ (x1.toInt = 0))))))) := by
  have hG := kG_self kW0 hI hr
  refine km_ofPI (q := (mi_h125, mi_c125)) rfl (by decide) (Nat.le_of_ble_eq_true rfl) ?_
  intro P hP
  refine ko_steps mi_in125 1 _ (1, [(0, .ref 0), (1, .int x1), (2, .int x2)], [.int x2], (0, 0), ks i a q r) (by rfl) ?_
  refine ko_if mi_in125 (decide (x2 < 0)) 17 4 ([(0, .ref 0), (1, .int x1), (2, .int x2)], [], (0, 0), ks i a q r) (by rfl) (fun c => ?_) (fun c => ?_)
  ·
    have c1 : x2.toInt < (0 : Int32).toInt := kd_lt c; clear c
    refine ko_steps mi_in125 2 _ (19, [(0, .ref 0), (1, .int x1), (2, .int x2)], [.int 4, .int x2], (0, 0), ks i a q r) (by rfl) ?_
    refine ko_if mi_in125 (decide (x2 < 4)) 36 22 ([(0, .ref 0), (1, .int x1), (2, .int x2)], [], (0, 0), ks i a q r) (by rfl) (fun c => ?_) (fun c => ?_)
    ·
      have c2 : x2.toInt < (4 : Int32).toInt := kd_lt c; clear c
      refine ko_steps mi_in125 1 _ (37, [(0, .ref 0), (1, .int x1), (2, .int x2)], [.int 0], (0, 0), ks i a q r) (by rfl) ?_
      have fi_64 : ((0 : Int) ≤ (i 64).toInt) ∧ ((i 64).toInt ≤ 8) := hG.I.1 64
      exact ko_ret mi_in125 (by rfl) (hP 0 (Or.inr ⟨rfl, (oz25 c1 kn0)⟩))
    ·
      have c3 : (4 : Int32).toInt ≤ x2.toInt := kd_ltF c; clear c
      exact (oz26 c1 c3 kn0 kn4).elim
  ·
    have c4 : (0 : Int32).toInt ≤ x2.toInt := kd_ltF c; clear c
    refine ko_steps mi_in125 2 _ (6, [(0, .ref 0), (1, .int x1), (2, .int x2)], [.int 4, .int x2], (0, 0), ks i a q r) (by rfl) ?_
    refine ko_if mi_in125 (decide (4 ≤ x2)) 17 9 ([(0, .ref 0), (1, .int x1), (2, .int x2)], [], (0, 0), ks i a q r) (by rfl) (fun c => ?_) (fun c => ?_)
    ·
      have c5 : (4 : Int32).toInt ≤ x2.toInt := kd_le c; clear c
      refine ko_steps mi_in125 2 _ (19, [(0, .ref 0), (1, .int x1), (2, .int x2)], [.int 4, .int x2], (0, 0), ks i a q r) (by rfl) ?_
      refine ko_if mi_in125 (decide (x2 < 4)) 36 22 ([(0, .ref 0), (1, .int x1), (2, .int x2)], [], (0, 0), ks i a q r) (by rfl) (fun c => ?_) (fun c => ?_)
      ·
        have c6 : x2.toInt < (4 : Int32).toInt := kd_lt c; clear c
        exact (oz27 c5 c6 kn4).elim
      ·
        have c7 : (4 : Int32).toInt ≤ x2.toInt := kd_ltF c; clear c
        refine ko_steps mi_in125 2 _ (25, [(0, .ref 0), (1, .int x1), (2, .int x2)], [.int 6, .int x2], (0, 0), ks i a q r) (by rfl) ?_
        refine ko_if mi_in125 (decide (6 < x2)) 36 28 ([(0, .ref 0), (1, .int x1), (2, .int x2)], [], (0, 0), ks i a q r) (by rfl) (fun c => ?_) (fun c => ?_)
        ·
          have c8 : (6 : Int32).toInt < x2.toInt := kd_lt c; clear c
          refine ko_steps mi_in125 1 _ (37, [(0, .ref 0), (1, .int x1), (2, .int x2)], [.int 0], (0, 0), ks i a q r) (by rfl) ?_
          have fi_64 : ((0 : Int) ≤ (i 64).toInt) ∧ ((i 64).toInt ≤ 8) := hG.I.1 64
          exact ko_ret mi_in125 (by rfl) (hP 0 (Or.inr ⟨rfl, (oz28 c8 kn6)⟩))
        ·
          have c9 : x2.toInt ≤ (6 : Int32).toInt := kd_ltF c; clear c
          refine ko_steps mi_in125 1 _ (29, [(0, .ref 0), (1, .int x1), (2, .int x2)], [.int x1], (0, 0), ks i a q r) (by rfl) ?_
          refine ko_if mi_in125 (x1 != 0) 36 32 ([(0, .ref 0), (1, .int x1), (2, .int x2)], [], (0, 0), ks i a q r) (by rfl) (fun c => ?_) (fun c => ?_)
          ·
            have c10 : x1.toInt ≠ (0 : Int32).toInt := kd_ne c; clear c
            refine ko_steps mi_in125 1 _ (37, [(0, .ref 0), (1, .int x1), (2, .int x2)], [.int 0], (0, 0), ks i a q r) (by rfl) ?_
            have fi_64 : ((0 : Int) ≤ (i 64).toInt) ∧ ((i 64).toInt ≤ 8) := hG.I.1 64
            exact ko_ret mi_in125 (by rfl) (hP 0 (Or.inr ⟨rfl, (oz29 c10 c5 kn0 kn4)⟩))
          ·
            have c11 : x1.toInt = (0 : Int32).toInt := kd_neF c; clear c
            refine ko_steps mi_in125 2 _ (37, [(0, .ref 0), (1, .int x1), (2, .int x2)], [.int 1], (0, 0), ks i a q r) (by rfl) ?_
            have fi_64 : ((0 : Int) ≤ (i 64).toInt) ∧ ((i 64).toInt ≤ 8) := hG.I.1 64
            exact ko_ret mi_in125 (by rfl) (hP 1 (Or.inl ⟨rfl, (oz30 c11 c5 c9 kn0 kn4 kn6)⟩))
    ·
      have c12 : x2.toInt < (4 : Int32).toInt := kd_leF c; clear c
      refine ko_steps mi_in125 2 _ (11, [(0, .ref 0), (1, .int x1), (2, .int x2)], [.int x1, .ref 0], (0, 0), ks i a q r) (by rfl) ?_
      refine ko_callPI mi_in125 (pc := 11) (ls := [(0, .ref 0), (1, .int x1), (2, .int x2)]) (st := [.int x1, .ref 0]) (h := ks i a q r) (i := (.invokevirtual 141, 3, 123, 0, 9, 0, 162)) (by rfl) (by rfl) (cy := mi_c123) rfl rfl (kc123_0 hG.I hG.R x1) (by decide) ?_
      intro vg13 hg13
      rcases hg13 with ⟨eg13, hg13⟩ | ⟨eg13, hg13⟩
      ·
        subst eg13
        have fi_64 : ((0 : Int) ≤ (i 64).toInt) ∧ ((i 64).toInt ≤ 8) := hG.I.1 64
        have z14 : ((0 : Int) ≤ x1.toInt) ∧ (x1.toInt < (i 64).toInt) := hg13
        refine ko_steps mi_in125 3 _ (37, [(0, .ref 0), (1, .int x1), (2, .int x2)], [.int 1], (0, 0), ks i a q r) (by rfl) ?_
        exact ko_ret mi_in125 (by rfl) (hP 1 (Or.inl ⟨rfl, (oz31 c12 c4 z14.1 z14.2 kn4 kn0)⟩))
      ·
        subst eg13
        have fi_64 : ((0 : Int) ≤ (i 64).toInt) ∧ ((i 64).toInt ≤ 8) := hG.I.1 64
        have z15 : ¬ (((0 : Int) ≤ x1.toInt) ∧ (x1.toInt < (i 64).toInt)) := hg13
        refine ko_steps mi_in125 3 _ (19, [(0, .ref 0), (1, .int x1), (2, .int x2)], [.int 4, .int x2], (0, 0), ks i a q r) (by rfl) ?_
        refine ko_if mi_in125 (decide (x2 < 4)) 36 22 ([(0, .ref 0), (1, .int x1), (2, .int x2)], [], (0, 0), ks i a q r) (by rfl) (fun c => ?_) (fun c => ?_)
        ·
          have c16 : x2.toInt < (4 : Int32).toInt := kd_lt c; clear c
          refine ko_steps mi_in125 1 _ (37, [(0, .ref 0), (1, .int x1), (2, .int x2)], [.int 0], (0, 0), ks i a q r) (by rfl) ?_
          exact ko_ret mi_in125 (by rfl) (hP 0 (Or.inr ⟨rfl, (oz32 c12 z15 kn4)⟩))
        ·
          have c17 : (4 : Int32).toInt ≤ x2.toInt := kd_ltF c; clear c
          exact (oz33 c12 c17 kn4).elim
set_option maxRecDepth 100000 in
theorem kc126 {i : Nat → Int32} {a : Nat → List Int32} {q : Nat → List Int64} {r : Nat → Nat} (hI : kI i a q) (hr : kr r) (x1 : Int32) (x2 : Int32) : km 3 126 [.int x1, .int x2] (ks i a q r) (kPI (ks i a q r) (fun v => (v = 1 ∧ (((0 : Int) ≤ x1.toInt) ∧ (x1.toInt ≤ 6))) ∨ (v = 0 ∧ (True)))) := by
  have hG := kG_self kW0 hI hr
  refine km_ofPI (q := (mi_h126, mi_c126)) rfl (by decide) (Nat.le_of_ble_eq_true rfl) ?_
  intro P hP
  refine ko_steps mi_in126 3 _ (4, [(0, .int x1), (1, .int x2)], [.int 6, .int 0, .int x1], (0, 0), ks i a q r) (by rfl) ?_
  refine ko_callPI mi_in126 (pc := 4) (ls := [(0, .int x1), (1, .int x2)]) (st := [.int 6, .int 0, .int x1]) (h := ks i a q r) (i := (.invokestatic 74, 3, 120, 0, 9, 0, 152)) (by rfl) (by rfl) (cy := mi_c120) rfl rfl (kc120 hG.I hG.R x1 0 6) (by decide) ?_
  intro vg1 hg1
  rcases hg1 with ⟨eg1, hg1⟩ | ⟨eg1, hg1⟩
  ·
    subst eg1
    have z2 : ((0 : Int32).toInt ≤ x1.toInt) ∧ (x1.toInt ≤ (6 : Int32).toInt) := hg1
    refine ko_steps mi_in126 4 _ (15, [(0, .int x1), (1, .int x2)], [.int x1, .ref (mi_RO + 1), .int x2], (0, 0), ks i a q r) (by rfl) ?_
    refine ko_iaro2 mi_in126 (l := [0, 0, 0, 0, 1, 0, 0]) (n := 7) (c := 7) (ax := (0, 0, 0, 0, 0)) (by rfl) (by rfl) (by rfl) rfl rfl (oz16 z2.1 kn0) (oz34 z2.2 kn6) ?_
    have r3 : ((0 : Int) ≤ (([0, 0, 0, 0, 1, 0, 0] : List Int32).getD x1.toNatClampNeg 0).toInt) ∧ ((([0, 0, 0, 0, 1, 0, 0] : List Int32).getD x1.toNatClampNeg 0).toInt ≤ 1) := kro_rng (lo := 0) (hi := 1) (by decide) (x1.toNatClampNeg)
    refine ko_steps mi_in126 2 _ (20, [(0, .int x1), (1, .int x2)], [.int x1, .ref (mi_RO + 2), .int (([0, 0, 0, 0, 1, 0, 0] : List Int32).getD x1.toNatClampNeg 0), .int x2], (0, 0), ks i a q r) (by rfl) ?_
    refine ko_iaro2 mi_in126 (l := [999, 9, 9, 1, 5, 1, 99]) (n := 7) (c := 7) (ax := (0, 0, 0, 0, 0)) (by rfl) (by rfl) (by rfl) rfl rfl (oz16 z2.1 kn0) (oz34 z2.2 kn6) ?_
    have r4 : ((0 : Int) ≤ (([999, 9, 9, 1, 5, 1, 99] : List Int32).getD x1.toNatClampNeg 0).toInt) ∧ ((([999, 9, 9, 1, 5, 1, 99] : List Int32).getD x1.toNatClampNeg 0).toInt ≤ 999) := kro_rng (lo := 0) (hi := 999) (by decide) (x1.toNatClampNeg)
    refine ko_callPI mi_in126 (pc := 21) (ls := [(0, .int x1), (1, .int x2)]) (st := [.int (([999, 9, 9, 1, 5, 1, 99] : List Int32).getD x1.toNatClampNeg 0), .int (([0, 0, 0, 0, 1, 0, 0] : List Int32).getD x1.toNatClampNeg 0), .int x2]) (h := ks i a q r) (i := (.invokestatic 74, 3, 120, 0, 9, 0, 152)) (by rfl) (by rfl) (cy := mi_c120) rfl rfl (kc120 hG.I hG.R x2 (([0, 0, 0, 0, 1, 0, 0] : List Int32).getD x1.toNatClampNeg 0) (([999, 9, 9, 1, 5, 1, 99] : List Int32).getD x1.toNatClampNeg 0)) (by decide) ?_
    intro vg5 hg5
    rcases hg5 with ⟨eg5, hg5⟩ | ⟨eg5, hg5⟩
    ·
      subst eg5
      have z6 : ((([0, 0, 0, 0, 1, 0, 0] : List Int32).getD x1.toNatClampNeg 0).toInt ≤ x2.toInt) ∧ (x2.toInt ≤ (([999, 9, 9, 1, 5, 1, 99] : List Int32).getD x1.toNatClampNeg 0).toInt) := hg5
      refine ko_steps mi_in126 3 _ (32, [(0, .int x1), (1, .int x2)], [.int 1], (0, 0), ks i a q r) (by rfl) ?_
      exact ko_ret mi_in126 (by rfl) (hP 1 (Or.inl ⟨rfl, (oz35 z2.1 z2.2 kn0 kn6)⟩))
    ·
      subst eg5
      have z7 : ¬ (((([0, 0, 0, 0, 1, 0, 0] : List Int32).getD x1.toNatClampNeg 0).toInt ≤ x2.toInt) ∧ (x2.toInt ≤ (([999, 9, 9, 1, 5, 1, 99] : List Int32).getD x1.toNatClampNeg 0).toInt)) := hg5
      refine ko_steps mi_in126 2 _ (32, [(0, .int x1), (1, .int x2)], [.int 0], (0, 0), ks i a q r) (by rfl) ?_
      exact ko_ret mi_in126 (by rfl) (hP 0 (Or.inr ⟨rfl, trivial⟩))
  ·
    subst eg1
    have z8 : ¬ (((0 : Int32).toInt ≤ x1.toInt) ∧ (x1.toInt ≤ (6 : Int32).toInt)) := hg1
    refine ko_steps mi_in126 2 _ (32, [(0, .int x1), (1, .int x2)], [.int 0], (0, 0), ks i a q r) (by rfl) ?_
    exact ko_ret mi_in126 (by rfl) (hP 0 (Or.inr ⟨rfl, trivial⟩))
set_option maxRecDepth 100000 in
theorem kc8_94 {i : Nat → Int32} {a : Nat → List Int32} {q : Nat → List Int64} {r : Nat → Nat} (hI : kI i a q) (hr : kr r) (x1 : Int32) : km 1 8 [.ref 94, .int x1] (ks i a q r) (kPI (ks i a q r) (fun v => (v = 1 ∧ (((0 : Int) ≤ x1.toInt) ∧ (x1.toInt < (i 6017).toInt))) ∨ (v = 0 ∧ (¬ (((0 : Int) ≤ x1.toInt) ∧ (x1.toInt < (i 6017).toInt)))))) := by
  have hG := kG_self kW0 hI hr
  refine km_ofPI (q := (mi_h8, mi_c8)) rfl (by decide) (Nat.le_of_ble_eq_true rfl) ?_
  intro P hP
  refine ko_steps mi_in8 1 _ (1, [(0, .ref 94), (1, .int x1)], [.int x1], (0, 0), ks i a q r) (by rfl) ?_
  refine ko_if mi_in8 (decide (x1 < 0)) 22 4 ([(0, .ref 94), (1, .int x1)], [], (0, 0), ks i a q r) (by rfl) (fun c => ?_) (fun c => ?_)
  ·
    have c1 : x1.toInt < (0 : Int32).toInt := kd_lt c; clear c
    refine ko_steps mi_in8 1 _ (23, [(0, .ref 94), (1, .int x1)], [.int 0], (0, 0), ks i a q r) (by rfl) ?_
    have fi_6017 : ((0 : Int) ≤ (i 6017).toInt) ∧ ((i 6017).toInt ≤ 50) := hG.I.1 6017
    exact ko_ret mi_in8 (by rfl) (hP 0 (Or.inr ⟨rfl, (oz5 c1 kn0)⟩))
  ·
    have c2 : (0 : Int32).toInt ≤ x1.toInt := kd_ltF c; clear c
    have fi_6017 : ((0 : Int) ≤ (i 6017).toInt) ∧ ((i 6017).toInt ≤ 50) := hG.I.1 6017
    refine ko_steps mi_in8 3 _ (9, [(0, .ref 94), (1, .int x1)], [.int (i 6017), .int x1], (0, 0), ks i a q r) (by rfl) ?_
    refine ko_if mi_in8 (decide ((i 6017) ≤ x1)) 22 12 ([(0, .ref 94), (1, .int x1)], [], (0, 0), ks i a q r) (by rfl) (fun c => ?_) (fun c => ?_)
    ·
      have c3 : (i 6017).toInt ≤ x1.toInt := kd_le c; clear c
      refine ko_steps mi_in8 1 _ (23, [(0, .ref 94), (1, .int x1)], [.int 0], (0, 0), ks i a q r) (by rfl) ?_
      exact ko_ret mi_in8 (by rfl) (hP 0 (Or.inr ⟨rfl, (oz6 c3)⟩))
    ·
      have c4 : x1.toInt < (i 6017).toInt := kd_leF c; clear c
      refine ko_steps mi_in8 2 _ (15, [(0, .ref 94), (1, .int x1)], [.int 50, .int x1], (0, 0), ks i a q r) (by rfl) ?_
      refine ko_if mi_in8 (decide (50 ≤ x1)) 22 18 ([(0, .ref 94), (1, .int x1)], [], (0, 0), ks i a q r) (by rfl) (fun c => ?_) (fun c => ?_)
      ·
        have c5 : (50 : Int32).toInt ≤ x1.toInt := kd_le c; clear c
        exact (oz36 c4 c5 fi_6017.2 kn50).elim
      ·
        have c6 : x1.toInt < (50 : Int32).toInt := kd_leF c; clear c
        refine ko_steps mi_in8 2 _ (23, [(0, .ref 94), (1, .int x1)], [.int 1], (0, 0), ks i a q r) (by rfl) ?_
        exact ko_ret mi_in8 (by rfl) (hP 1 (Or.inl ⟨rfl, (oz8 c2 c4 kn0)⟩))
set_option maxRecDepth 100000 in
theorem kc36_104 {i : Nat → Int32} {a : Nat → List Int32} {q : Nat → List Int64} {r : Nat → Nat} (hI : kI i a q) (hr : kr r) (x1 : Int32) : km 1 36 [.ref 104, .int x1] (ks i a q r) (kPI (ks i a q r) (fun v => (v = 1 ∧ (((i 6656).toInt = 2) ∧ ((i 6658).toInt = x1.toInt))) ∨ (v = 0 ∧ (¬ (((i 6656).toInt = 2) ∧ ((i 6658).toInt = x1.toInt)))))) := by
  have hG := kG_self kW0 hI hr
  refine km_ofPI (q := (mi_h36, mi_c36)) rfl (by decide) (Nat.le_of_ble_eq_true rfl) ?_
  intro P hP
  have fi_6656 : ((0 : Int) ≤ (i 6656).toInt) ∧ ((i 6656).toInt ≤ 2) := hG.I.1 6656
  refine ko_steps mi_in36 3 _ (5, [(0, .ref 104), (1, .int x1)], [.int 2, .int (i 6656)], (0, 0), ks i a q r) (by rfl) ?_
  refine ko_if mi_in36 ((i 6656) != 2) 20 8 ([(0, .ref 104), (1, .int x1)], [], (0, 0), ks i a q r) (by rfl) (fun c => ?_) (fun c => ?_)
  ·
    have c1 : (i 6656).toInt ≠ (2 : Int32).toInt := kd_ne c; clear c
    refine ko_steps mi_in36 1 _ (21, [(0, .ref 104), (1, .int x1)], [.int 0], (0, 0), ks i a q r) (by rfl) ?_
    have fi_6658 : ((0 : Int) ≤ (i 6658).toInt) ∧ ((i 6658).toInt ≤ 4) := hG.I.1 6658
    exact ko_ret mi_in36 (by rfl) (hP 0 (Or.inr ⟨rfl, (oz37 c1 fi_6656.2 kn2)⟩))
  ·
    have c2 : (i 6656).toInt = (2 : Int32).toInt := kd_neF c; clear c
    have fi_6658 : ((0 : Int) ≤ (i 6658).toInt) ∧ ((i 6658).toInt ≤ 4) := hG.I.1 6658
    refine ko_steps mi_in36 3 _ (13, [(0, .ref 104), (1, .int x1)], [.int x1, .int (i 6658)], (0, 0), ks i a q r) (by rfl) ?_
    refine ko_if mi_in36 ((i 6658) != x1) 20 16 ([(0, .ref 104), (1, .int x1)], [], (0, 0), ks i a q r) (by rfl) (fun c => ?_) (fun c => ?_)
    ·
      have c3 : (i 6658).toInt ≠ x1.toInt := kd_ne c; clear c
      refine ko_steps mi_in36 1 _ (21, [(0, .ref 104), (1, .int x1)], [.int 0], (0, 0), ks i a q r) (by rfl) ?_
      exact ko_ret mi_in36 (by rfl) (hP 0 (Or.inr ⟨rfl, (oz38 c3)⟩))
    ·
      have c4 : (i 6658).toInt = x1.toInt := kd_neF c; clear c
      refine ko_steps mi_in36 2 _ (21, [(0, .ref 104), (1, .int x1)], [.int 1], (0, 0), ks i a q r) (by rfl) ?_
      exact ko_ret mi_in36 (by rfl) (hP 1 (Or.inl ⟨rfl, (oz39 c2 c4 fi_6656.2 kn2)⟩))
set_option maxRecDepth 100000 in
theorem kc37_104 {i : Nat → Int32} {a : Nat → List Int32} {q : Nat → List Int64} {r : Nat → Nat} (hI : kI i a q) (hr : kr r) (x1 : Int32) (x2 : Int32) : km 1 37 [.ref 104, .int x1, .int x2] (ks i a q r) (kPI (ks i a q r) (fun v => (v = 1 ∧ (((0 : Int) ≤ x2.toInt) ∧ (x2.toInt ≤ (i 6659).toInt) ∧ ((0 : Int) ≤ x1.toInt) ∧ ((x1.toInt + x2.toInt) ≤ (i 6659).toInt))) ∨ (v = 0 ∧ (¬ (((0 : Int) ≤ x2.toInt) ∧ (x2.toInt ≤ (i 6659).toInt) ∧ ((0 : Int) ≤ x1.toInt) ∧ ((x1.toInt + x2.toInt) ≤ (i 6659).toInt)))))) := by
  have hG := kG_self kW0 hI hr
  refine km_ofPI (q := (mi_h37, mi_c37)) rfl (by decide) (Nat.le_of_ble_eq_true rfl) ?_
  intro P hP
  refine ko_steps mi_in37 1 _ (1, [(0, .ref 104), (1, .int x1), (2, .int x2)], [.int x2], (0, 0), ks i a q r) (by rfl) ?_
  refine ko_if mi_in37 (decide (x2 < 0)) 30 4 ([(0, .ref 104), (1, .int x1), (2, .int x2)], [], (0, 0), ks i a q r) (by rfl) (fun c => ?_) (fun c => ?_)
  ·
    have c1 : x2.toInt < (0 : Int32).toInt := kd_lt c; clear c
    refine ko_steps mi_in37 1 _ (31, [(0, .ref 104), (1, .int x1), (2, .int x2)], [.int 0], (0, 0), ks i a q r) (by rfl) ?_
    have fi_6659 : ((0 : Int) ≤ (i 6659).toInt) ∧ ((i 6659).toInt ≤ 60) := hG.I.1 6659
    exact ko_ret mi_in37 (by rfl) (hP 0 (Or.inr ⟨rfl, (oz40 c1 kn0)⟩))
  ·
    have c2 : (0 : Int32).toInt ≤ x2.toInt := kd_ltF c; clear c
    have fi_6659 : ((0 : Int) ≤ (i 6659).toInt) ∧ ((i 6659).toInt ≤ 60) := hG.I.1 6659
    refine ko_steps mi_in37 3 _ (9, [(0, .ref 104), (1, .int x1), (2, .int x2)], [.int (i 6659), .int x2], (0, 0), ks i a q r) (by rfl) ?_
    refine ko_if mi_in37 (decide ((i 6659) < x2)) 30 12 ([(0, .ref 104), (1, .int x1), (2, .int x2)], [], (0, 0), ks i a q r) (by rfl) (fun c => ?_) (fun c => ?_)
    ·
      have c3 : (i 6659).toInt < x2.toInt := kd_lt c; clear c
      refine ko_steps mi_in37 1 _ (31, [(0, .ref 104), (1, .int x1), (2, .int x2)], [.int 0], (0, 0), ks i a q r) (by rfl) ?_
      exact ko_ret mi_in37 (by rfl) (hP 0 (Or.inr ⟨rfl, (oz41 c3)⟩))
    ·
      have c4 : x2.toInt ≤ (i 6659).toInt := kd_ltF c; clear c
      refine ko_steps mi_in37 1 _ (13, [(0, .ref 104), (1, .int x1), (2, .int x2)], [.int x1], (0, 0), ks i a q r) (by rfl) ?_
      refine ko_if mi_in37 (decide (x1 < 0)) 30 16 ([(0, .ref 104), (1, .int x1), (2, .int x2)], [], (0, 0), ks i a q r) (by rfl) (fun c => ?_) (fun c => ?_)
      ·
        have c5 : x1.toInt < (0 : Int32).toInt := kd_lt c; clear c
        refine ko_steps mi_in37 1 _ (31, [(0, .ref 104), (1, .int x1), (2, .int x2)], [.int 0], (0, 0), ks i a q r) (by rfl) ?_
        exact ko_ret mi_in37 (by rfl) (hP 0 (Or.inr ⟨rfl, (oz42 c5 kn0)⟩))
      ·
        have c6 : (0 : Int32).toInt ≤ x1.toInt := kd_ltF c; clear c
        have s7 : ((i 6659) - x2).toInt = (i 6659).toInt - x2.toInt := kd_sub (oz43 c4) (oz44 c2 fi_6659.2 kn0)
        refine ko_steps mi_in37 5 _ (23, [(0, .ref 104), (1, .int x1), (2, .int x2)], [.int ((i 6659) - x2), .int x1], (0, 0), ks i a q r) (by rfl) ?_
        refine ko_if mi_in37 (decide (((i 6659) - x2) < x1)) 30 26 ([(0, .ref 104), (1, .int x1), (2, .int x2)], [], (0, 0), ks i a q r) (by rfl) (fun c => ?_) (fun c => ?_)
        ·
          have c8 : ((i 6659) - x2).toInt < x1.toInt := kd_lt c; clear c
          refine ko_steps mi_in37 1 _ (31, [(0, .ref 104), (1, .int x1), (2, .int x2)], [.int 0], (0, 0), ks i a q r) (by rfl) ?_
          exact ko_ret mi_in37 (by rfl) (hP 0 (Or.inr ⟨rfl, (oz45 c8 s7)⟩))
        ·
          have c9 : x1.toInt ≤ ((i 6659) - x2).toInt := kd_ltF c; clear c
          refine ko_steps mi_in37 2 _ (31, [(0, .ref 104), (1, .int x1), (2, .int x2)], [.int 1], (0, 0), ks i a q r) (by rfl) ?_
          exact ko_ret mi_in37 (by rfl) (hP 1 (Or.inl ⟨rfl, (oz46 c2 c4 c6 c9 s7 kn0)⟩))
set_option maxRecDepth 100000 in
theorem kc36_106 {i : Nat → Int32} {a : Nat → List Int32} {q : Nat → List Int64} {r : Nat → Nat} (hI : kI i a q) (hr : kr r) (x1 : Int32) : km 1 36 [.ref 106, .int x1] (ks i a q r) (kPI (ks i a q r) (fun v => (v = 1 ∧ (((i 6784).toInt = 2) ∧ ((i 6786).toInt = x1.toInt))) ∨ (v = 0 ∧ (¬ (((i 6784).toInt = 2) ∧ ((i 6786).toInt = x1.toInt)))))) := by
  have hG := kG_self kW0 hI hr
  refine km_ofPI (q := (mi_h36, mi_c36)) rfl (by decide) (Nat.le_of_ble_eq_true rfl) ?_
  intro P hP
  have fi_6784 : ((0 : Int) ≤ (i 6784).toInt) ∧ ((i 6784).toInt ≤ 2) := hG.I.1 6784
  refine ko_steps mi_in36 3 _ (5, [(0, .ref 106), (1, .int x1)], [.int 2, .int (i 6784)], (0, 0), ks i a q r) (by rfl) ?_
  refine ko_if mi_in36 ((i 6784) != 2) 20 8 ([(0, .ref 106), (1, .int x1)], [], (0, 0), ks i a q r) (by rfl) (fun c => ?_) (fun c => ?_)
  ·
    have c1 : (i 6784).toInt ≠ (2 : Int32).toInt := kd_ne c; clear c
    refine ko_steps mi_in36 1 _ (21, [(0, .ref 106), (1, .int x1)], [.int 0], (0, 0), ks i a q r) (by rfl) ?_
    have fi_6786 : ((0 : Int) ≤ (i 6786).toInt) ∧ ((i 6786).toInt ≤ 4) := hG.I.1 6786
    exact ko_ret mi_in36 (by rfl) (hP 0 (Or.inr ⟨rfl, (oz37 c1 fi_6784.2 kn2)⟩))
  ·
    have c2 : (i 6784).toInt = (2 : Int32).toInt := kd_neF c; clear c
    have fi_6786 : ((0 : Int) ≤ (i 6786).toInt) ∧ ((i 6786).toInt ≤ 4) := hG.I.1 6786
    refine ko_steps mi_in36 3 _ (13, [(0, .ref 106), (1, .int x1)], [.int x1, .int (i 6786)], (0, 0), ks i a q r) (by rfl) ?_
    refine ko_if mi_in36 ((i 6786) != x1) 20 16 ([(0, .ref 106), (1, .int x1)], [], (0, 0), ks i a q r) (by rfl) (fun c => ?_) (fun c => ?_)
    ·
      have c3 : (i 6786).toInt ≠ x1.toInt := kd_ne c; clear c
      refine ko_steps mi_in36 1 _ (21, [(0, .ref 106), (1, .int x1)], [.int 0], (0, 0), ks i a q r) (by rfl) ?_
      exact ko_ret mi_in36 (by rfl) (hP 0 (Or.inr ⟨rfl, (oz38 c3)⟩))
    ·
      have c4 : (i 6786).toInt = x1.toInt := kd_neF c; clear c
      refine ko_steps mi_in36 2 _ (21, [(0, .ref 106), (1, .int x1)], [.int 1], (0, 0), ks i a q r) (by rfl) ?_
      exact ko_ret mi_in36 (by rfl) (hP 1 (Or.inl ⟨rfl, (oz39 c2 c4 fi_6784.2 kn2)⟩))
set_option maxRecDepth 100000 in
theorem kc37_106 {i : Nat → Int32} {a : Nat → List Int32} {q : Nat → List Int64} {r : Nat → Nat} (hI : kI i a q) (hr : kr r) (x1 : Int32) (x2 : Int32) : km 1 37 [.ref 106, .int x1, .int x2] (ks i a q r) (kPI (ks i a q r) (fun v => (v = 1 ∧ (((0 : Int) ≤ x2.toInt) ∧ (x2.toInt ≤ (i 6787).toInt) ∧ ((0 : Int) ≤ x1.toInt) ∧ ((x1.toInt + x2.toInt) ≤ (i 6787).toInt))) ∨ (v = 0 ∧ (¬ (((0 : Int) ≤ x2.toInt) ∧ (x2.toInt ≤ (i 6787).toInt) ∧ ((0 : Int) ≤ x1.toInt) ∧ ((x1.toInt + x2.toInt) ≤ (i 6787).toInt)))))) := by
  have hG := kG_self kW0 hI hr
  refine km_ofPI (q := (mi_h37, mi_c37)) rfl (by decide) (Nat.le_of_ble_eq_true rfl) ?_
  intro P hP
  refine ko_steps mi_in37 1 _ (1, [(0, .ref 106), (1, .int x1), (2, .int x2)], [.int x2], (0, 0), ks i a q r) (by rfl) ?_
  refine ko_if mi_in37 (decide (x2 < 0)) 30 4 ([(0, .ref 106), (1, .int x1), (2, .int x2)], [], (0, 0), ks i a q r) (by rfl) (fun c => ?_) (fun c => ?_)
  ·
    have c1 : x2.toInt < (0 : Int32).toInt := kd_lt c; clear c
    refine ko_steps mi_in37 1 _ (31, [(0, .ref 106), (1, .int x1), (2, .int x2)], [.int 0], (0, 0), ks i a q r) (by rfl) ?_
    have fi_6787 : ((0 : Int) ≤ (i 6787).toInt) ∧ ((i 6787).toInt ≤ 60) := hG.I.1 6787
    exact ko_ret mi_in37 (by rfl) (hP 0 (Or.inr ⟨rfl, (oz40 c1 kn0)⟩))
  ·
    have c2 : (0 : Int32).toInt ≤ x2.toInt := kd_ltF c; clear c
    have fi_6787 : ((0 : Int) ≤ (i 6787).toInt) ∧ ((i 6787).toInt ≤ 60) := hG.I.1 6787
    refine ko_steps mi_in37 3 _ (9, [(0, .ref 106), (1, .int x1), (2, .int x2)], [.int (i 6787), .int x2], (0, 0), ks i a q r) (by rfl) ?_
    refine ko_if mi_in37 (decide ((i 6787) < x2)) 30 12 ([(0, .ref 106), (1, .int x1), (2, .int x2)], [], (0, 0), ks i a q r) (by rfl) (fun c => ?_) (fun c => ?_)
    ·
      have c3 : (i 6787).toInt < x2.toInt := kd_lt c; clear c
      refine ko_steps mi_in37 1 _ (31, [(0, .ref 106), (1, .int x1), (2, .int x2)], [.int 0], (0, 0), ks i a q r) (by rfl) ?_
      exact ko_ret mi_in37 (by rfl) (hP 0 (Or.inr ⟨rfl, (oz41 c3)⟩))
    ·
      have c4 : x2.toInt ≤ (i 6787).toInt := kd_ltF c; clear c
      refine ko_steps mi_in37 1 _ (13, [(0, .ref 106), (1, .int x1), (2, .int x2)], [.int x1], (0, 0), ks i a q r) (by rfl) ?_
      refine ko_if mi_in37 (decide (x1 < 0)) 30 16 ([(0, .ref 106), (1, .int x1), (2, .int x2)], [], (0, 0), ks i a q r) (by rfl) (fun c => ?_) (fun c => ?_)
      ·
        have c5 : x1.toInt < (0 : Int32).toInt := kd_lt c; clear c
        refine ko_steps mi_in37 1 _ (31, [(0, .ref 106), (1, .int x1), (2, .int x2)], [.int 0], (0, 0), ks i a q r) (by rfl) ?_
        exact ko_ret mi_in37 (by rfl) (hP 0 (Or.inr ⟨rfl, (oz42 c5 kn0)⟩))
      ·
        have c6 : (0 : Int32).toInt ≤ x1.toInt := kd_ltF c; clear c
        have s7 : ((i 6787) - x2).toInt = (i 6787).toInt - x2.toInt := kd_sub (oz43 c4) (oz44 c2 fi_6787.2 kn0)
        refine ko_steps mi_in37 5 _ (23, [(0, .ref 106), (1, .int x1), (2, .int x2)], [.int ((i 6787) - x2), .int x1], (0, 0), ks i a q r) (by rfl) ?_
        refine ko_if mi_in37 (decide (((i 6787) - x2) < x1)) 30 26 ([(0, .ref 106), (1, .int x1), (2, .int x2)], [], (0, 0), ks i a q r) (by rfl) (fun c => ?_) (fun c => ?_)
        ·
          have c8 : ((i 6787) - x2).toInt < x1.toInt := kd_lt c; clear c
          refine ko_steps mi_in37 1 _ (31, [(0, .ref 106), (1, .int x1), (2, .int x2)], [.int 0], (0, 0), ks i a q r) (by rfl) ?_
          exact ko_ret mi_in37 (by rfl) (hP 0 (Or.inr ⟨rfl, (oz45 c8 s7)⟩))
        ·
          have c9 : x1.toInt ≤ ((i 6787) - x2).toInt := kd_ltF c; clear c
          refine ko_steps mi_in37 2 _ (31, [(0, .ref 106), (1, .int x1), (2, .int x2)], [.int 1], (0, 0), ks i a q r) (by rfl) ?_
          exact ko_ret mi_in37 (by rfl) (hP 1 (Or.inl ⟨rfl, (oz46 c2 c4 c6 c9 s7 kn0)⟩))
set_option maxRecDepth 100000 in
theorem kc36_108 {i : Nat → Int32} {a : Nat → List Int32} {q : Nat → List Int64} {r : Nat → Nat} (hI : kI i a q) (hr : kr r) (x1 : Int32) : km 1 36 [.ref 108, .int x1] (ks i a q r) (kPI (ks i a q r) (fun v => (v = 1 ∧ (((i 6912).toInt = 2) ∧ ((i 6914).toInt = x1.toInt))) ∨ (v = 0 ∧ (¬ (((i 6912).toInt = 2) ∧ ((i 6914).toInt = x1.toInt)))))) := by
  have hG := kG_self kW0 hI hr
  refine km_ofPI (q := (mi_h36, mi_c36)) rfl (by decide) (Nat.le_of_ble_eq_true rfl) ?_
  intro P hP
  have fi_6912 : ((0 : Int) ≤ (i 6912).toInt) ∧ ((i 6912).toInt ≤ 2) := hG.I.1 6912
  refine ko_steps mi_in36 3 _ (5, [(0, .ref 108), (1, .int x1)], [.int 2, .int (i 6912)], (0, 0), ks i a q r) (by rfl) ?_
  refine ko_if mi_in36 ((i 6912) != 2) 20 8 ([(0, .ref 108), (1, .int x1)], [], (0, 0), ks i a q r) (by rfl) (fun c => ?_) (fun c => ?_)
  ·
    have c1 : (i 6912).toInt ≠ (2 : Int32).toInt := kd_ne c; clear c
    refine ko_steps mi_in36 1 _ (21, [(0, .ref 108), (1, .int x1)], [.int 0], (0, 0), ks i a q r) (by rfl) ?_
    have fi_6914 : ((0 : Int) ≤ (i 6914).toInt) ∧ ((i 6914).toInt ≤ 4) := hG.I.1 6914
    exact ko_ret mi_in36 (by rfl) (hP 0 (Or.inr ⟨rfl, (oz37 c1 fi_6912.2 kn2)⟩))
  ·
    have c2 : (i 6912).toInt = (2 : Int32).toInt := kd_neF c; clear c
    have fi_6914 : ((0 : Int) ≤ (i 6914).toInt) ∧ ((i 6914).toInt ≤ 4) := hG.I.1 6914
    refine ko_steps mi_in36 3 _ (13, [(0, .ref 108), (1, .int x1)], [.int x1, .int (i 6914)], (0, 0), ks i a q r) (by rfl) ?_
    refine ko_if mi_in36 ((i 6914) != x1) 20 16 ([(0, .ref 108), (1, .int x1)], [], (0, 0), ks i a q r) (by rfl) (fun c => ?_) (fun c => ?_)
    ·
      have c3 : (i 6914).toInt ≠ x1.toInt := kd_ne c; clear c
      refine ko_steps mi_in36 1 _ (21, [(0, .ref 108), (1, .int x1)], [.int 0], (0, 0), ks i a q r) (by rfl) ?_
      exact ko_ret mi_in36 (by rfl) (hP 0 (Or.inr ⟨rfl, (oz38 c3)⟩))
    ·
      have c4 : (i 6914).toInt = x1.toInt := kd_neF c; clear c
      refine ko_steps mi_in36 2 _ (21, [(0, .ref 108), (1, .int x1)], [.int 1], (0, 0), ks i a q r) (by rfl) ?_
      exact ko_ret mi_in36 (by rfl) (hP 1 (Or.inl ⟨rfl, (oz39 c2 c4 fi_6912.2 kn2)⟩))
set_option maxRecDepth 100000 in
theorem kc37_108 {i : Nat → Int32} {a : Nat → List Int32} {q : Nat → List Int64} {r : Nat → Nat} (hI : kI i a q) (hr : kr r) (x1 : Int32) (x2 : Int32) : km 1 37 [.ref 108, .int x1, .int x2] (ks i a q r) (kPI (ks i a q r) (fun v => (v = 1 ∧ (((0 : Int) ≤ x2.toInt) ∧ (x2.toInt ≤ (i 6915).toInt) ∧ ((0 : Int) ≤ x1.toInt) ∧ ((x1.toInt + x2.toInt) ≤ (i 6915).toInt))) ∨ (v = 0 ∧ (¬ (((0 : Int) ≤ x2.toInt) ∧ (x2.toInt ≤ (i 6915).toInt) ∧ ((0 : Int) ≤ x1.toInt) ∧ ((x1.toInt + x2.toInt) ≤ (i 6915).toInt)))))) := by
  have hG := kG_self kW0 hI hr
  refine km_ofPI (q := (mi_h37, mi_c37)) rfl (by decide) (Nat.le_of_ble_eq_true rfl) ?_
  intro P hP
  refine ko_steps mi_in37 1 _ (1, [(0, .ref 108), (1, .int x1), (2, .int x2)], [.int x2], (0, 0), ks i a q r) (by rfl) ?_
  refine ko_if mi_in37 (decide (x2 < 0)) 30 4 ([(0, .ref 108), (1, .int x1), (2, .int x2)], [], (0, 0), ks i a q r) (by rfl) (fun c => ?_) (fun c => ?_)
  ·
    have c1 : x2.toInt < (0 : Int32).toInt := kd_lt c; clear c
    refine ko_steps mi_in37 1 _ (31, [(0, .ref 108), (1, .int x1), (2, .int x2)], [.int 0], (0, 0), ks i a q r) (by rfl) ?_
    have fi_6915 : ((0 : Int) ≤ (i 6915).toInt) ∧ ((i 6915).toInt ≤ 60) := hG.I.1 6915
    exact ko_ret mi_in37 (by rfl) (hP 0 (Or.inr ⟨rfl, (oz40 c1 kn0)⟩))
  ·
    have c2 : (0 : Int32).toInt ≤ x2.toInt := kd_ltF c; clear c
    have fi_6915 : ((0 : Int) ≤ (i 6915).toInt) ∧ ((i 6915).toInt ≤ 60) := hG.I.1 6915
    refine ko_steps mi_in37 3 _ (9, [(0, .ref 108), (1, .int x1), (2, .int x2)], [.int (i 6915), .int x2], (0, 0), ks i a q r) (by rfl) ?_
    refine ko_if mi_in37 (decide ((i 6915) < x2)) 30 12 ([(0, .ref 108), (1, .int x1), (2, .int x2)], [], (0, 0), ks i a q r) (by rfl) (fun c => ?_) (fun c => ?_)
    ·
      have c3 : (i 6915).toInt < x2.toInt := kd_lt c; clear c
      refine ko_steps mi_in37 1 _ (31, [(0, .ref 108), (1, .int x1), (2, .int x2)], [.int 0], (0, 0), ks i a q r) (by rfl) ?_
      exact ko_ret mi_in37 (by rfl) (hP 0 (Or.inr ⟨rfl, (oz41 c3)⟩))
    ·
      have c4 : x2.toInt ≤ (i 6915).toInt := kd_ltF c; clear c
      refine ko_steps mi_in37 1 _ (13, [(0, .ref 108), (1, .int x1), (2, .int x2)], [.int x1], (0, 0), ks i a q r) (by rfl) ?_
      refine ko_if mi_in37 (decide (x1 < 0)) 30 16 ([(0, .ref 108), (1, .int x1), (2, .int x2)], [], (0, 0), ks i a q r) (by rfl) (fun c => ?_) (fun c => ?_)
      ·
        have c5 : x1.toInt < (0 : Int32).toInt := kd_lt c; clear c
        refine ko_steps mi_in37 1 _ (31, [(0, .ref 108), (1, .int x1), (2, .int x2)], [.int 0], (0, 0), ks i a q r) (by rfl) ?_
        exact ko_ret mi_in37 (by rfl) (hP 0 (Or.inr ⟨rfl, (oz42 c5 kn0)⟩))
      ·
        have c6 : (0 : Int32).toInt ≤ x1.toInt := kd_ltF c; clear c
        have s7 : ((i 6915) - x2).toInt = (i 6915).toInt - x2.toInt := kd_sub (oz43 c4) (oz44 c2 fi_6915.2 kn0)
        refine ko_steps mi_in37 5 _ (23, [(0, .ref 108), (1, .int x1), (2, .int x2)], [.int ((i 6915) - x2), .int x1], (0, 0), ks i a q r) (by rfl) ?_
        refine ko_if mi_in37 (decide (((i 6915) - x2) < x1)) 30 26 ([(0, .ref 108), (1, .int x1), (2, .int x2)], [], (0, 0), ks i a q r) (by rfl) (fun c => ?_) (fun c => ?_)
        ·
          have c8 : ((i 6915) - x2).toInt < x1.toInt := kd_lt c; clear c
          refine ko_steps mi_in37 1 _ (31, [(0, .ref 108), (1, .int x1), (2, .int x2)], [.int 0], (0, 0), ks i a q r) (by rfl) ?_
          exact ko_ret mi_in37 (by rfl) (hP 0 (Or.inr ⟨rfl, (oz45 c8 s7)⟩))
        ·
          have c9 : x1.toInt ≤ ((i 6915) - x2).toInt := kd_ltF c; clear c
          refine ko_steps mi_in37 2 _ (31, [(0, .ref 108), (1, .int x1), (2, .int x2)], [.int 1], (0, 0), ks i a q r) (by rfl) ?_
          exact ko_ret mi_in37 (by rfl) (hP 1 (Or.inl ⟨rfl, (oz46 c2 c4 c6 c9 s7 kn0)⟩))
set_option maxRecDepth 100000 in
theorem kc36_110 {i : Nat → Int32} {a : Nat → List Int32} {q : Nat → List Int64} {r : Nat → Nat} (hI : kI i a q) (hr : kr r) (x1 : Int32) : km 1 36 [.ref 110, .int x1] (ks i a q r) (kPI (ks i a q r) (fun v => (v = 1 ∧ (((i 7040).toInt = 2) ∧ ((i 7042).toInt = x1.toInt))) ∨ (v = 0 ∧ (¬ (((i 7040).toInt = 2) ∧ ((i 7042).toInt = x1.toInt)))))) := by
  have hG := kG_self kW0 hI hr
  refine km_ofPI (q := (mi_h36, mi_c36)) rfl (by decide) (Nat.le_of_ble_eq_true rfl) ?_
  intro P hP
  have fi_7040 : ((0 : Int) ≤ (i 7040).toInt) ∧ ((i 7040).toInt ≤ 2) := hG.I.1 7040
  refine ko_steps mi_in36 3 _ (5, [(0, .ref 110), (1, .int x1)], [.int 2, .int (i 7040)], (0, 0), ks i a q r) (by rfl) ?_
  refine ko_if mi_in36 ((i 7040) != 2) 20 8 ([(0, .ref 110), (1, .int x1)], [], (0, 0), ks i a q r) (by rfl) (fun c => ?_) (fun c => ?_)
  ·
    have c1 : (i 7040).toInt ≠ (2 : Int32).toInt := kd_ne c; clear c
    refine ko_steps mi_in36 1 _ (21, [(0, .ref 110), (1, .int x1)], [.int 0], (0, 0), ks i a q r) (by rfl) ?_
    have fi_7042 : ((0 : Int) ≤ (i 7042).toInt) ∧ ((i 7042).toInt ≤ 4) := hG.I.1 7042
    exact ko_ret mi_in36 (by rfl) (hP 0 (Or.inr ⟨rfl, (oz37 c1 fi_7040.2 kn2)⟩))
  ·
    have c2 : (i 7040).toInt = (2 : Int32).toInt := kd_neF c; clear c
    have fi_7042 : ((0 : Int) ≤ (i 7042).toInt) ∧ ((i 7042).toInt ≤ 4) := hG.I.1 7042
    refine ko_steps mi_in36 3 _ (13, [(0, .ref 110), (1, .int x1)], [.int x1, .int (i 7042)], (0, 0), ks i a q r) (by rfl) ?_
    refine ko_if mi_in36 ((i 7042) != x1) 20 16 ([(0, .ref 110), (1, .int x1)], [], (0, 0), ks i a q r) (by rfl) (fun c => ?_) (fun c => ?_)
    ·
      have c3 : (i 7042).toInt ≠ x1.toInt := kd_ne c; clear c
      refine ko_steps mi_in36 1 _ (21, [(0, .ref 110), (1, .int x1)], [.int 0], (0, 0), ks i a q r) (by rfl) ?_
      exact ko_ret mi_in36 (by rfl) (hP 0 (Or.inr ⟨rfl, (oz38 c3)⟩))
    ·
      have c4 : (i 7042).toInt = x1.toInt := kd_neF c; clear c
      refine ko_steps mi_in36 2 _ (21, [(0, .ref 110), (1, .int x1)], [.int 1], (0, 0), ks i a q r) (by rfl) ?_
      exact ko_ret mi_in36 (by rfl) (hP 1 (Or.inl ⟨rfl, (oz39 c2 c4 fi_7040.2 kn2)⟩))
set_option maxRecDepth 100000 in
theorem kc37_110 {i : Nat → Int32} {a : Nat → List Int32} {q : Nat → List Int64} {r : Nat → Nat} (hI : kI i a q) (hr : kr r) (x1 : Int32) (x2 : Int32) : km 1 37 [.ref 110, .int x1, .int x2] (ks i a q r) (kPI (ks i a q r) (fun v => (v = 1 ∧ (((0 : Int) ≤ x2.toInt) ∧ (x2.toInt ≤ (i 7043).toInt) ∧ ((0 : Int) ≤ x1.toInt) ∧ ((x1.toInt + x2.toInt) ≤ (i 7043).toInt))) ∨ (v = 0 ∧ (¬ (((0 : Int) ≤ x2.toInt) ∧ (x2.toInt ≤ (i 7043).toInt) ∧ ((0 : Int) ≤ x1.toInt) ∧ ((x1.toInt + x2.toInt) ≤ (i 7043).toInt)))))) := by
  have hG := kG_self kW0 hI hr
  refine km_ofPI (q := (mi_h37, mi_c37)) rfl (by decide) (Nat.le_of_ble_eq_true rfl) ?_
  intro P hP
  refine ko_steps mi_in37 1 _ (1, [(0, .ref 110), (1, .int x1), (2, .int x2)], [.int x2], (0, 0), ks i a q r) (by rfl) ?_
  refine ko_if mi_in37 (decide (x2 < 0)) 30 4 ([(0, .ref 110), (1, .int x1), (2, .int x2)], [], (0, 0), ks i a q r) (by rfl) (fun c => ?_) (fun c => ?_)
  ·
    have c1 : x2.toInt < (0 : Int32).toInt := kd_lt c; clear c
    refine ko_steps mi_in37 1 _ (31, [(0, .ref 110), (1, .int x1), (2, .int x2)], [.int 0], (0, 0), ks i a q r) (by rfl) ?_
    have fi_7043 : ((0 : Int) ≤ (i 7043).toInt) ∧ ((i 7043).toInt ≤ 60) := hG.I.1 7043
    exact ko_ret mi_in37 (by rfl) (hP 0 (Or.inr ⟨rfl, (oz40 c1 kn0)⟩))
  ·
    have c2 : (0 : Int32).toInt ≤ x2.toInt := kd_ltF c; clear c
    have fi_7043 : ((0 : Int) ≤ (i 7043).toInt) ∧ ((i 7043).toInt ≤ 60) := hG.I.1 7043
    refine ko_steps mi_in37 3 _ (9, [(0, .ref 110), (1, .int x1), (2, .int x2)], [.int (i 7043), .int x2], (0, 0), ks i a q r) (by rfl) ?_
    refine ko_if mi_in37 (decide ((i 7043) < x2)) 30 12 ([(0, .ref 110), (1, .int x1), (2, .int x2)], [], (0, 0), ks i a q r) (by rfl) (fun c => ?_) (fun c => ?_)
    ·
      have c3 : (i 7043).toInt < x2.toInt := kd_lt c; clear c
      refine ko_steps mi_in37 1 _ (31, [(0, .ref 110), (1, .int x1), (2, .int x2)], [.int 0], (0, 0), ks i a q r) (by rfl) ?_
      exact ko_ret mi_in37 (by rfl) (hP 0 (Or.inr ⟨rfl, (oz41 c3)⟩))
    ·
      have c4 : x2.toInt ≤ (i 7043).toInt := kd_ltF c; clear c
      refine ko_steps mi_in37 1 _ (13, [(0, .ref 110), (1, .int x1), (2, .int x2)], [.int x1], (0, 0), ks i a q r) (by rfl) ?_
      refine ko_if mi_in37 (decide (x1 < 0)) 30 16 ([(0, .ref 110), (1, .int x1), (2, .int x2)], [], (0, 0), ks i a q r) (by rfl) (fun c => ?_) (fun c => ?_)
      ·
        have c5 : x1.toInt < (0 : Int32).toInt := kd_lt c; clear c
        refine ko_steps mi_in37 1 _ (31, [(0, .ref 110), (1, .int x1), (2, .int x2)], [.int 0], (0, 0), ks i a q r) (by rfl) ?_
        exact ko_ret mi_in37 (by rfl) (hP 0 (Or.inr ⟨rfl, (oz42 c5 kn0)⟩))
      ·
        have c6 : (0 : Int32).toInt ≤ x1.toInt := kd_ltF c; clear c
        have s7 : ((i 7043) - x2).toInt = (i 7043).toInt - x2.toInt := kd_sub (oz43 c4) (oz44 c2 fi_7043.2 kn0)
        refine ko_steps mi_in37 5 _ (23, [(0, .ref 110), (1, .int x1), (2, .int x2)], [.int ((i 7043) - x2), .int x1], (0, 0), ks i a q r) (by rfl) ?_
        refine ko_if mi_in37 (decide (((i 7043) - x2) < x1)) 30 26 ([(0, .ref 110), (1, .int x1), (2, .int x2)], [], (0, 0), ks i a q r) (by rfl) (fun c => ?_) (fun c => ?_)
        ·
          have c8 : ((i 7043) - x2).toInt < x1.toInt := kd_lt c; clear c
          refine ko_steps mi_in37 1 _ (31, [(0, .ref 110), (1, .int x1), (2, .int x2)], [.int 0], (0, 0), ks i a q r) (by rfl) ?_
          exact ko_ret mi_in37 (by rfl) (hP 0 (Or.inr ⟨rfl, (oz45 c8 s7)⟩))
        ·
          have c9 : x1.toInt ≤ ((i 7043) - x2).toInt := kd_ltF c; clear c
          refine ko_steps mi_in37 2 _ (31, [(0, .ref 110), (1, .int x1), (2, .int x2)], [.int 1], (0, 0), ks i a q r) (by rfl) ?_
          exact ko_ret mi_in37 (by rfl) (hP 1 (Or.inl ⟨rfl, (oz46 c2 c4 c6 c9 s7 kn0)⟩))
set_option maxRecDepth 100000 in
theorem kc36_112 {i : Nat → Int32} {a : Nat → List Int32} {q : Nat → List Int64} {r : Nat → Nat} (hI : kI i a q) (hr : kr r) (x1 : Int32) : km 1 36 [.ref 112, .int x1] (ks i a q r) (kPI (ks i a q r) (fun v => (v = 1 ∧ (((i 7168).toInt = 2) ∧ ((i 7170).toInt = x1.toInt))) ∨ (v = 0 ∧ (¬ (((i 7168).toInt = 2) ∧ ((i 7170).toInt = x1.toInt)))))) := by
  have hG := kG_self kW0 hI hr
  refine km_ofPI (q := (mi_h36, mi_c36)) rfl (by decide) (Nat.le_of_ble_eq_true rfl) ?_
  intro P hP
  have fi_7168 : ((0 : Int) ≤ (i 7168).toInt) ∧ ((i 7168).toInt ≤ 2) := hG.I.1 7168
  refine ko_steps mi_in36 3 _ (5, [(0, .ref 112), (1, .int x1)], [.int 2, .int (i 7168)], (0, 0), ks i a q r) (by rfl) ?_
  refine ko_if mi_in36 ((i 7168) != 2) 20 8 ([(0, .ref 112), (1, .int x1)], [], (0, 0), ks i a q r) (by rfl) (fun c => ?_) (fun c => ?_)
  ·
    have c1 : (i 7168).toInt ≠ (2 : Int32).toInt := kd_ne c; clear c
    refine ko_steps mi_in36 1 _ (21, [(0, .ref 112), (1, .int x1)], [.int 0], (0, 0), ks i a q r) (by rfl) ?_
    have fi_7170 : ((0 : Int) ≤ (i 7170).toInt) ∧ ((i 7170).toInt ≤ 4) := hG.I.1 7170
    exact ko_ret mi_in36 (by rfl) (hP 0 (Or.inr ⟨rfl, (oz37 c1 fi_7168.2 kn2)⟩))
  ·
    have c2 : (i 7168).toInt = (2 : Int32).toInt := kd_neF c; clear c
    have fi_7170 : ((0 : Int) ≤ (i 7170).toInt) ∧ ((i 7170).toInt ≤ 4) := hG.I.1 7170
    refine ko_steps mi_in36 3 _ (13, [(0, .ref 112), (1, .int x1)], [.int x1, .int (i 7170)], (0, 0), ks i a q r) (by rfl) ?_
    refine ko_if mi_in36 ((i 7170) != x1) 20 16 ([(0, .ref 112), (1, .int x1)], [], (0, 0), ks i a q r) (by rfl) (fun c => ?_) (fun c => ?_)
    ·
      have c3 : (i 7170).toInt ≠ x1.toInt := kd_ne c; clear c
      refine ko_steps mi_in36 1 _ (21, [(0, .ref 112), (1, .int x1)], [.int 0], (0, 0), ks i a q r) (by rfl) ?_
      exact ko_ret mi_in36 (by rfl) (hP 0 (Or.inr ⟨rfl, (oz38 c3)⟩))
    ·
      have c4 : (i 7170).toInt = x1.toInt := kd_neF c; clear c
      refine ko_steps mi_in36 2 _ (21, [(0, .ref 112), (1, .int x1)], [.int 1], (0, 0), ks i a q r) (by rfl) ?_
      exact ko_ret mi_in36 (by rfl) (hP 1 (Or.inl ⟨rfl, (oz39 c2 c4 fi_7168.2 kn2)⟩))
set_option maxRecDepth 100000 in
theorem kc37_112 {i : Nat → Int32} {a : Nat → List Int32} {q : Nat → List Int64} {r : Nat → Nat} (hI : kI i a q) (hr : kr r) (x1 : Int32) (x2 : Int32) : km 1 37 [.ref 112, .int x1, .int x2] (ks i a q r) (kPI (ks i a q r) (fun v => (v = 1 ∧ (((0 : Int) ≤ x2.toInt) ∧ (x2.toInt ≤ (i 7171).toInt) ∧ ((0 : Int) ≤ x1.toInt) ∧ ((x1.toInt + x2.toInt) ≤ (i 7171).toInt))) ∨ (v = 0 ∧ (¬ (((0 : Int) ≤ x2.toInt) ∧ (x2.toInt ≤ (i 7171).toInt) ∧ ((0 : Int) ≤ x1.toInt) ∧ ((x1.toInt + x2.toInt) ≤ (i 7171).toInt)))))) := by
  have hG := kG_self kW0 hI hr
  refine km_ofPI (q := (mi_h37, mi_c37)) rfl (by decide) (Nat.le_of_ble_eq_true rfl) ?_
  intro P hP
  refine ko_steps mi_in37 1 _ (1, [(0, .ref 112), (1, .int x1), (2, .int x2)], [.int x2], (0, 0), ks i a q r) (by rfl) ?_
  refine ko_if mi_in37 (decide (x2 < 0)) 30 4 ([(0, .ref 112), (1, .int x1), (2, .int x2)], [], (0, 0), ks i a q r) (by rfl) (fun c => ?_) (fun c => ?_)
  ·
    have c1 : x2.toInt < (0 : Int32).toInt := kd_lt c; clear c
    refine ko_steps mi_in37 1 _ (31, [(0, .ref 112), (1, .int x1), (2, .int x2)], [.int 0], (0, 0), ks i a q r) (by rfl) ?_
    have fi_7171 : ((0 : Int) ≤ (i 7171).toInt) ∧ ((i 7171).toInt ≤ 60) := hG.I.1 7171
    exact ko_ret mi_in37 (by rfl) (hP 0 (Or.inr ⟨rfl, (oz40 c1 kn0)⟩))
  ·
    have c2 : (0 : Int32).toInt ≤ x2.toInt := kd_ltF c; clear c
    have fi_7171 : ((0 : Int) ≤ (i 7171).toInt) ∧ ((i 7171).toInt ≤ 60) := hG.I.1 7171
    refine ko_steps mi_in37 3 _ (9, [(0, .ref 112), (1, .int x1), (2, .int x2)], [.int (i 7171), .int x2], (0, 0), ks i a q r) (by rfl) ?_
    refine ko_if mi_in37 (decide ((i 7171) < x2)) 30 12 ([(0, .ref 112), (1, .int x1), (2, .int x2)], [], (0, 0), ks i a q r) (by rfl) (fun c => ?_) (fun c => ?_)
    ·
      have c3 : (i 7171).toInt < x2.toInt := kd_lt c; clear c
      refine ko_steps mi_in37 1 _ (31, [(0, .ref 112), (1, .int x1), (2, .int x2)], [.int 0], (0, 0), ks i a q r) (by rfl) ?_
      exact ko_ret mi_in37 (by rfl) (hP 0 (Or.inr ⟨rfl, (oz41 c3)⟩))
    ·
      have c4 : x2.toInt ≤ (i 7171).toInt := kd_ltF c; clear c
      refine ko_steps mi_in37 1 _ (13, [(0, .ref 112), (1, .int x1), (2, .int x2)], [.int x1], (0, 0), ks i a q r) (by rfl) ?_
      refine ko_if mi_in37 (decide (x1 < 0)) 30 16 ([(0, .ref 112), (1, .int x1), (2, .int x2)], [], (0, 0), ks i a q r) (by rfl) (fun c => ?_) (fun c => ?_)
      ·
        have c5 : x1.toInt < (0 : Int32).toInt := kd_lt c; clear c
        refine ko_steps mi_in37 1 _ (31, [(0, .ref 112), (1, .int x1), (2, .int x2)], [.int 0], (0, 0), ks i a q r) (by rfl) ?_
        exact ko_ret mi_in37 (by rfl) (hP 0 (Or.inr ⟨rfl, (oz42 c5 kn0)⟩))
      ·
        have c6 : (0 : Int32).toInt ≤ x1.toInt := kd_ltF c; clear c
        have s7 : ((i 7171) - x2).toInt = (i 7171).toInt - x2.toInt := kd_sub (oz43 c4) (oz44 c2 fi_7171.2 kn0)
        refine ko_steps mi_in37 5 _ (23, [(0, .ref 112), (1, .int x1), (2, .int x2)], [.int ((i 7171) - x2), .int x1], (0, 0), ks i a q r) (by rfl) ?_
        refine ko_if mi_in37 (decide (((i 7171) - x2) < x1)) 30 26 ([(0, .ref 112), (1, .int x1), (2, .int x2)], [], (0, 0), ks i a q r) (by rfl) (fun c => ?_) (fun c => ?_)
        ·
          have c8 : ((i 7171) - x2).toInt < x1.toInt := kd_lt c; clear c
          refine ko_steps mi_in37 1 _ (31, [(0, .ref 112), (1, .int x1), (2, .int x2)], [.int 0], (0, 0), ks i a q r) (by rfl) ?_
          exact ko_ret mi_in37 (by rfl) (hP 0 (Or.inr ⟨rfl, (oz45 c8 s7)⟩))
        ·
          have c9 : x1.toInt ≤ ((i 7171) - x2).toInt := kd_ltF c; clear c
          refine ko_steps mi_in37 2 _ (31, [(0, .ref 112), (1, .int x1), (2, .int x2)], [.int 1], (0, 0), ks i a q r) (by rfl) ?_
          exact ko_ret mi_in37 (by rfl) (hP 1 (Or.inl ⟨rfl, (oz46 c2 c4 c6 c9 s7 kn0)⟩))
set_option maxRecDepth 100000 in
theorem kc36_114 {i : Nat → Int32} {a : Nat → List Int32} {q : Nat → List Int64} {r : Nat → Nat} (hI : kI i a q) (hr : kr r) (x1 : Int32) : km 1 36 [.ref 114, .int x1] (ks i a q r) (kPI (ks i a q r) (fun v => (v = 1 ∧ (((i 7296).toInt = 2) ∧ ((i 7298).toInt = x1.toInt))) ∨ (v = 0 ∧ (¬ (((i 7296).toInt = 2) ∧ ((i 7298).toInt = x1.toInt)))))) := by
  have hG := kG_self kW0 hI hr
  refine km_ofPI (q := (mi_h36, mi_c36)) rfl (by decide) (Nat.le_of_ble_eq_true rfl) ?_
  intro P hP
  have fi_7296 : ((0 : Int) ≤ (i 7296).toInt) ∧ ((i 7296).toInt ≤ 2) := hG.I.1 7296
  refine ko_steps mi_in36 3 _ (5, [(0, .ref 114), (1, .int x1)], [.int 2, .int (i 7296)], (0, 0), ks i a q r) (by rfl) ?_
  refine ko_if mi_in36 ((i 7296) != 2) 20 8 ([(0, .ref 114), (1, .int x1)], [], (0, 0), ks i a q r) (by rfl) (fun c => ?_) (fun c => ?_)
  ·
    have c1 : (i 7296).toInt ≠ (2 : Int32).toInt := kd_ne c; clear c
    refine ko_steps mi_in36 1 _ (21, [(0, .ref 114), (1, .int x1)], [.int 0], (0, 0), ks i a q r) (by rfl) ?_
    have fi_7298 : ((0 : Int) ≤ (i 7298).toInt) ∧ ((i 7298).toInt ≤ 4) := hG.I.1 7298
    exact ko_ret mi_in36 (by rfl) (hP 0 (Or.inr ⟨rfl, (oz37 c1 fi_7296.2 kn2)⟩))
  ·
    have c2 : (i 7296).toInt = (2 : Int32).toInt := kd_neF c; clear c
    have fi_7298 : ((0 : Int) ≤ (i 7298).toInt) ∧ ((i 7298).toInt ≤ 4) := hG.I.1 7298
    refine ko_steps mi_in36 3 _ (13, [(0, .ref 114), (1, .int x1)], [.int x1, .int (i 7298)], (0, 0), ks i a q r) (by rfl) ?_
    refine ko_if mi_in36 ((i 7298) != x1) 20 16 ([(0, .ref 114), (1, .int x1)], [], (0, 0), ks i a q r) (by rfl) (fun c => ?_) (fun c => ?_)
    ·
      have c3 : (i 7298).toInt ≠ x1.toInt := kd_ne c; clear c
      refine ko_steps mi_in36 1 _ (21, [(0, .ref 114), (1, .int x1)], [.int 0], (0, 0), ks i a q r) (by rfl) ?_
      exact ko_ret mi_in36 (by rfl) (hP 0 (Or.inr ⟨rfl, (oz38 c3)⟩))
    ·
      have c4 : (i 7298).toInt = x1.toInt := kd_neF c; clear c
      refine ko_steps mi_in36 2 _ (21, [(0, .ref 114), (1, .int x1)], [.int 1], (0, 0), ks i a q r) (by rfl) ?_
      exact ko_ret mi_in36 (by rfl) (hP 1 (Or.inl ⟨rfl, (oz39 c2 c4 fi_7296.2 kn2)⟩))
set_option maxRecDepth 100000 in
theorem kc37_114 {i : Nat → Int32} {a : Nat → List Int32} {q : Nat → List Int64} {r : Nat → Nat} (hI : kI i a q) (hr : kr r) (x1 : Int32) (x2 : Int32) : km 1 37 [.ref 114, .int x1, .int x2] (ks i a q r) (kPI (ks i a q r) (fun v => (v = 1 ∧ (((0 : Int) ≤ x2.toInt) ∧ (x2.toInt ≤ (i 7299).toInt) ∧ ((0 : Int) ≤ x1.toInt) ∧ ((x1.toInt + x2.toInt) ≤ (i 7299).toInt))) ∨ (v = 0 ∧ (¬ (((0 : Int) ≤ x2.toInt) ∧ (x2.toInt ≤ (i 7299).toInt) ∧ ((0 : Int) ≤ x1.toInt) ∧ ((x1.toInt + x2.toInt) ≤ (i 7299).toInt)))))) := by
  have hG := kG_self kW0 hI hr
  refine km_ofPI (q := (mi_h37, mi_c37)) rfl (by decide) (Nat.le_of_ble_eq_true rfl) ?_
  intro P hP
  refine ko_steps mi_in37 1 _ (1, [(0, .ref 114), (1, .int x1), (2, .int x2)], [.int x2], (0, 0), ks i a q r) (by rfl) ?_
  refine ko_if mi_in37 (decide (x2 < 0)) 30 4 ([(0, .ref 114), (1, .int x1), (2, .int x2)], [], (0, 0), ks i a q r) (by rfl) (fun c => ?_) (fun c => ?_)
  ·
    have c1 : x2.toInt < (0 : Int32).toInt := kd_lt c; clear c
    refine ko_steps mi_in37 1 _ (31, [(0, .ref 114), (1, .int x1), (2, .int x2)], [.int 0], (0, 0), ks i a q r) (by rfl) ?_
    have fi_7299 : ((0 : Int) ≤ (i 7299).toInt) ∧ ((i 7299).toInt ≤ 60) := hG.I.1 7299
    exact ko_ret mi_in37 (by rfl) (hP 0 (Or.inr ⟨rfl, (oz40 c1 kn0)⟩))
  ·
    have c2 : (0 : Int32).toInt ≤ x2.toInt := kd_ltF c; clear c
    have fi_7299 : ((0 : Int) ≤ (i 7299).toInt) ∧ ((i 7299).toInt ≤ 60) := hG.I.1 7299
    refine ko_steps mi_in37 3 _ (9, [(0, .ref 114), (1, .int x1), (2, .int x2)], [.int (i 7299), .int x2], (0, 0), ks i a q r) (by rfl) ?_
    refine ko_if mi_in37 (decide ((i 7299) < x2)) 30 12 ([(0, .ref 114), (1, .int x1), (2, .int x2)], [], (0, 0), ks i a q r) (by rfl) (fun c => ?_) (fun c => ?_)
    ·
      have c3 : (i 7299).toInt < x2.toInt := kd_lt c; clear c
      refine ko_steps mi_in37 1 _ (31, [(0, .ref 114), (1, .int x1), (2, .int x2)], [.int 0], (0, 0), ks i a q r) (by rfl) ?_
      exact ko_ret mi_in37 (by rfl) (hP 0 (Or.inr ⟨rfl, (oz41 c3)⟩))
    ·
      have c4 : x2.toInt ≤ (i 7299).toInt := kd_ltF c; clear c
      refine ko_steps mi_in37 1 _ (13, [(0, .ref 114), (1, .int x1), (2, .int x2)], [.int x1], (0, 0), ks i a q r) (by rfl) ?_
      refine ko_if mi_in37 (decide (x1 < 0)) 30 16 ([(0, .ref 114), (1, .int x1), (2, .int x2)], [], (0, 0), ks i a q r) (by rfl) (fun c => ?_) (fun c => ?_)
      ·
        have c5 : x1.toInt < (0 : Int32).toInt := kd_lt c; clear c
        refine ko_steps mi_in37 1 _ (31, [(0, .ref 114), (1, .int x1), (2, .int x2)], [.int 0], (0, 0), ks i a q r) (by rfl) ?_
        exact ko_ret mi_in37 (by rfl) (hP 0 (Or.inr ⟨rfl, (oz42 c5 kn0)⟩))
      ·
        have c6 : (0 : Int32).toInt ≤ x1.toInt := kd_ltF c; clear c
        have s7 : ((i 7299) - x2).toInt = (i 7299).toInt - x2.toInt := kd_sub (oz43 c4) (oz44 c2 fi_7299.2 kn0)
        refine ko_steps mi_in37 5 _ (23, [(0, .ref 114), (1, .int x1), (2, .int x2)], [.int ((i 7299) - x2), .int x1], (0, 0), ks i a q r) (by rfl) ?_
        refine ko_if mi_in37 (decide (((i 7299) - x2) < x1)) 30 26 ([(0, .ref 114), (1, .int x1), (2, .int x2)], [], (0, 0), ks i a q r) (by rfl) (fun c => ?_) (fun c => ?_)
        ·
          have c8 : ((i 7299) - x2).toInt < x1.toInt := kd_lt c; clear c
          refine ko_steps mi_in37 1 _ (31, [(0, .ref 114), (1, .int x1), (2, .int x2)], [.int 0], (0, 0), ks i a q r) (by rfl) ?_
          exact ko_ret mi_in37 (by rfl) (hP 0 (Or.inr ⟨rfl, (oz45 c8 s7)⟩))
        ·
          have c9 : x1.toInt ≤ ((i 7299) - x2).toInt := kd_ltF c; clear c
          refine ko_steps mi_in37 2 _ (31, [(0, .ref 114), (1, .int x1), (2, .int x2)], [.int 1], (0, 0), ks i a q r) (by rfl) ?_
          exact ko_ret mi_in37 (by rfl) (hP 1 (Or.inl ⟨rfl, (oz46 c2 c4 c6 c9 s7 kn0)⟩))
set_option maxRecDepth 100000 in
theorem kc56 {i : Nat → Int32} {a : Nat → List Int32} {q : Nat → List Int64} {r : Nat → Nat} (hI : kI i a q) (hr : kr r) (x1 : Int32) : km 1 56 [.int x1] (ks i a q r) (kPI (ks i a q r) (fun v => (v = 1 ∧ (((48 : Int) ≤ x1.toInt) ∧ (x1.toInt ≤ 57))) ∨ (v = 0 ∧ (¬ (((48 : Int) ≤ x1.toInt) ∧ (x1.toInt ≤ 57)))))) := by
  have hG := kG_self kW0 hI hr
  refine km_ofPI (q := (mi_h56, mi_c56)) rfl (by decide) (Nat.le_of_ble_eq_true rfl) ?_
  intro P hP
  refine ko_steps mi_in56 2 _ (3, [(0, .int x1)], [.int 48, .int x1], (0, 0), ks i a q r) (by rfl) ?_
  refine ko_if mi_in56 (decide (x1 < 48)) 16 6 ([(0, .int x1)], [], (0, 0), ks i a q r) (by rfl) (fun c => ?_) (fun c => ?_)
  ·
    have c1 : x1.toInt < (48 : Int32).toInt := kd_lt c; clear c
    refine ko_steps mi_in56 1 _ (17, [(0, .int x1)], [.int 0], (0, 0), ks i a q r) (by rfl) ?_
    exact ko_ret mi_in56 (by rfl) (hP 0 (Or.inr ⟨rfl, (oz47 c1 kn48)⟩))
  ·
    have c2 : (48 : Int32).toInt ≤ x1.toInt := kd_ltF c; clear c
    refine ko_steps mi_in56 2 _ (9, [(0, .int x1)], [.int 57, .int x1], (0, 0), ks i a q r) (by rfl) ?_
    refine ko_if mi_in56 (decide (57 < x1)) 16 12 ([(0, .int x1)], [], (0, 0), ks i a q r) (by rfl) (fun c => ?_) (fun c => ?_)
    ·
      have c3 : (57 : Int32).toInt < x1.toInt := kd_lt c; clear c
      refine ko_steps mi_in56 1 _ (17, [(0, .int x1)], [.int 0], (0, 0), ks i a q r) (by rfl) ?_
      exact ko_ret mi_in56 (by rfl) (hP 0 (Or.inr ⟨rfl, (oz48 c3 kn57)⟩))
    ·
      have c4 : x1.toInt ≤ (57 : Int32).toInt := kd_ltF c; clear c
      refine ko_steps mi_in56 2 _ (17, [(0, .int x1)], [.int 1], (0, 0), ks i a q r) (by rfl) ?_
      exact ko_ret mi_in56 (by rfl) (hP 1 (Or.inl ⟨rfl, (oz49 c2 c4 kn48 kn57)⟩))
def w25_1 : kW := ([64], [2, 3, 4, 5, 6], [], [])
set_option maxRecDepth 100000 in
theorem kc25_1 {i : Nat → Int32} {a : Nat → List Int32} {q : Nat → List Int64} {r : Nat → Nat} (hI : kI i a q) (hr : kr r) (x1 : Int32) (x2 : Int32) (x3 : Int32) : km 1 25 [.ref 1, .int x1, .int x2, .int x3] (ks i a q r) (kVI w25_1 i a q r (fun v i1 a1 q1 r1 => True)) := by
  have hG := kG_self w25_1 hI hr
  refine km_ofI (q := (mi_h25, mi_c25)) rfl (by decide) (Nat.le_of_ble_eq_true rfl) ?_
  intro P hP
  have fi_64 : ((0 : Int) ≤ (i 64).toInt) ∧ ((i 64).toInt ≤ 8) := hG.I.1 64
  refine ko_steps mi_in25 3 _ (6, [(0, .ref 1), (1, .int x1), (2, .int x2), (3, .int x3)], [.int 8, .int (i 64)], (0, 0), ks i a q r) (by rfl) ?_
  refine ko_if mi_in25 (decide ((i 64) < 8)) 12 9 ([(0, .ref 1), (1, .int x1), (2, .int x2), (3, .int x3)], [], (0, 0), ks i a q r) (by rfl) (fun c => ?_) (fun c => ?_)
  ·
    have c1 : (i 64).toInt < (8 : Int32).toInt := kd_lt c; clear c
    refine ko_steps mi_in25 5 _ (21, [(0, .ref 1), (1, .int x1), (2, .int x2), (3, .int x3)], [.int x1, .int (i 64), .ref 2], (0, 0), ks i a q r) (by rfl) ?_
    have hJ2 := kG_a hG 2 rfl ((i 64).toNatClampNeg) (v := x1) (kd_bd _)
    refine ko_iast2 mi_in25 (l := a 2) (n := 8) (c := 8) (ax := (0, 0, 0, 0, 0)) (by rfl) (by rfl) (by rfl) (hG.I.2.1 2) rfl (oz50 fi_64.1) (oz51 c1 kn8) (h2 := ks i (ku a 2 ((a 2).set (i 64).toNatClampNeg x1)) q r) (by rfl) ?_
    refine ko_steps mi_in25 5 _ (31, [(0, .ref 1), (1, .int x1), (2, .int x2), (3, .int x3)], [.int x2, .int (i 64), .ref 3], (0, 0), ks i (ku a 2 ((a 2).set (i 64).toNatClampNeg x1)) q r) (by rfl) ?_
    have hJ3 := kG_a hJ2 3 rfl ((i 64).toNatClampNeg) (v := x2) (kd_bd _)
    refine ko_iast2 mi_in25 (l := a 3) (n := 8) (c := 8) (ax := (0, 0, 0, 0, 0)) (by rfl) (by rfl) (by rfl) (hJ2.I.2.1 3) rfl (oz50 fi_64.1) (oz51 c1 kn8) (h2 := ks i (ku (ku a 2 ((a 2).set (i 64).toNatClampNeg x1)) 3 ((a 3).set (i 64).toNatClampNeg x2)) q r) (by rfl) ?_
    refine ko_steps mi_in25 5 _ (41, [(0, .ref 1), (1, .int x1), (2, .int x2), (3, .int x3)], [.int x3, .int (i 64), .ref 4], (0, 0), ks i (ku (ku a 2 ((a 2).set (i 64).toNatClampNeg x1)) 3 ((a 3).set (i 64).toNatClampNeg x2)) q r) (by rfl) ?_
    have hJ4 := kG_a hJ3 4 rfl ((i 64).toNatClampNeg) (v := x3) (kd_bd _)
    refine ko_iast2 mi_in25 (l := a 4) (n := 8) (c := 8) (ax := (0, 0, 0, 0, 0)) (by rfl) (by rfl) (by rfl) (hJ3.I.2.1 4) rfl (oz50 fi_64.1) (oz51 c1 kn8) (h2 := ks i (ku (ku (ku a 2 ((a 2).set (i 64).toNatClampNeg x1)) 3 ((a 3).set (i 64).toNatClampNeg x2)) 4 ((a 4).set (i 64).toNatClampNeg x3)) q r) (by rfl) ?_
    refine ko_steps mi_in25 5 _ (51, [(0, .ref 1), (1, .int x1), (2, .int x2), (3, .int x3)], [.int 0, .int (i 64), .ref 5], (0, 0), ks i (ku (ku (ku a 2 ((a 2).set (i 64).toNatClampNeg x1)) 3 ((a 3).set (i 64).toNatClampNeg x2)) 4 ((a 4).set (i 64).toNatClampNeg x3)) q r) (by rfl) ?_
    have hJ5 := kG_a hJ4 5 rfl ((i 64).toNatClampNeg) (v := 0) (kd_bd _)
    refine ko_iast2 mi_in25 (l := a 5) (n := 8) (c := 8) (ax := (0, 0, 0, 0, 0)) (by rfl) (by rfl) (by rfl) (hJ4.I.2.1 5) rfl (oz50 fi_64.1) (oz51 c1 kn8) (h2 := ks i (ku (ku (ku (ku a 2 ((a 2).set (i 64).toNatClampNeg x1)) 3 ((a 3).set (i 64).toNatClampNeg x2)) 4 ((a 4).set (i 64).toNatClampNeg x3)) 5 ((a 5).set (i 64).toNatClampNeg 0)) q r) (by rfl) ?_
    refine ko_steps mi_in25 5 _ (61, [(0, .ref 1), (1, .int x1), (2, .int x2), (3, .int x3)], [.int 0, .int (i 64), .ref 6], (0, 0), ks i (ku (ku (ku (ku a 2 ((a 2).set (i 64).toNatClampNeg x1)) 3 ((a 3).set (i 64).toNatClampNeg x2)) 4 ((a 4).set (i 64).toNatClampNeg x3)) 5 ((a 5).set (i 64).toNatClampNeg 0)) q r) (by rfl) ?_
    have hJ6 := kG_a hJ5 6 rfl ((i 64).toNatClampNeg) (v := 0) (kd_bd _)
    refine ko_iast2 mi_in25 (l := a 6) (n := 8) (c := 8) (ax := (0, 0, 0, 0, 0)) (by rfl) (by rfl) (by rfl) (hJ5.I.2.1 6) rfl (oz50 fi_64.1) (oz51 c1 kn8) (h2 := ks i (ku (ku (ku (ku (ku a 2 ((a 2).set (i 64).toNatClampNeg x1)) 3 ((a 3).set (i 64).toNatClampNeg x2)) 4 ((a 4).set (i 64).toNatClampNeg x3)) 5 ((a 5).set (i 64).toNatClampNeg 0)) 6 ((a 6).set (i 64).toNatClampNeg 0)) q r) (by rfl) ?_
    have s7 : ((i 64) + 1).toInt = (i 64).toInt + (1 : Int32).toInt := kd_add (oz52 fi_64.1 kn1) (oz53 fi_64.2 kn1)
    have hJ8 := kG_i hJ6 64 rfl (v := ((i 64) + 1)) ⟨(oz54 fi_64.1 s7 kn1), (oz55 c1 s7 kn8 kn1)⟩
    have s9 : (((i 64) + 1) - 1).toInt = ((i 64) + 1).toInt - (1 : Int32).toInt := kd_sub (oz56 fi_64.1 s7 kn1) (oz57 fi_64.2 s7 kn1)
    refine ko_steps mi_in25 10 _ (78, [(0, .ref 1), (1, .int x1), (2, .int x2), (3, .int x3)], [.int (((i 64) + 1) - 1)], (0, 0), ks (ku i 64 ((i 64) + 1)) (ku (ku (ku (ku (ku a 2 ((a 2).set (i 64).toNatClampNeg x1)) 3 ((a 3).set (i 64).toNatClampNeg x2)) 4 ((a 4).set (i 64).toNatClampNeg x3)) 5 ((a 5).set (i 64).toNatClampNeg 0)) 6 ((a 6).set (i 64).toNatClampNeg 0)) q r) (by rfl) ?_
    exact ko_ret mi_in25 (by rfl) (hP (((i 64) + 1) - 1) _ _ _ _ hJ8 trivial)
  ·
    have c10 : (8 : Int32).toInt ≤ (i 64).toInt := kd_ltF c; clear c
    refine ko_steps mi_in25 1 _ (11, [(0, .ref 1), (1, .int x1), (2, .int x2), (3, .int x3)], [.int (-3)], (0, 0), ks i a q r) (by rfl) ?_
    exact ko_ret mi_in25 (by rfl) (hP (-3) _ _ _ _ hG trivial)
set_option maxRecDepth 100000 in
theorem kc26_1 {i : Nat → Int32} {a : Nat → List Int32} {q : Nat → List Int64} {r : Nat → Nat} (hI : kI i a q) (hr : kr r) (x1 : Int32) : km 1 26 [.ref 1, .int x1] (ks i a q r) (kPR (ks i a q r) (fun v => (v = 2 ∧ True) ∨ (v = 3 ∧ True) ∨ (v = 4 ∧ True) ∨ (v = 5 ∧ True))) := by
  have hG := kG_self kW0 hI hr
  refine km_ofPR (q := (mi_h26, mi_c26)) rfl (by decide) (Nat.le_of_ble_eq_true rfl) ?_
  intro P hP
  refine ko_steps mi_in26 1 _ (1, [(0, .ref 1), (1, .int x1)], [.int x1], (0, 0), ks i a q r) (by rfl) ?_
  by_cases w1 : x1.toInt = 0
  ·
    refine ko_eq (x1 := (1, [(0, .ref 1), (1, .int x1)], [.int 0], (0, 0), ks i a q r)) (by rw [(kj_eq w1 (by decide) : x1 = 0)]) ?_
    refine ko_steps mi_in26 3 _ (32, [(0, .ref 1), (1, .int x1)], [.ref 2], (0, 0), ks i a q r) (by rfl) ?_
    exact ko_ret mi_in26 (by rfl) (hP 2 (Or.inl ⟨rfl, trivial⟩))
  by_cases w2 : x1.toInt = 1
  ·
    refine ko_eq (x1 := (1, [(0, .ref 1), (1, .int x1)], [.int 1], (0, 0), ks i a q r)) (by rw [(kj_eq w2 (by decide) : x1 = 1)]) ?_
    refine ko_steps mi_in26 3 _ (37, [(0, .ref 1), (1, .int x1)], [.ref 3], (0, 0), ks i a q r) (by rfl) ?_
    exact ko_ret mi_in26 (by rfl) (hP 3 (Or.inr (Or.inl ⟨rfl, trivial⟩)))
  by_cases w3 : x1.toInt = 2
  ·
    refine ko_eq (x1 := (1, [(0, .ref 1), (1, .int x1)], [.int 2], (0, 0), ks i a q r)) (by rw [(kj_eq w3 (by decide) : x1 = 2)]) ?_
    refine ko_steps mi_in26 3 _ (42, [(0, .ref 1), (1, .int x1)], [.ref 4], (0, 0), ks i a q r) (by rfl) ?_
    exact ko_ret mi_in26 (by rfl) (hP 4 (Or.inr (Or.inr (Or.inl ⟨rfl, trivial⟩))))
  refine ko_sw (ls := [(0, .ref 1), (1, .int x1)]) (r := []) (h := ks i a q r) mi_in26 (v := x1) (i := (.tableswitch 42 0 2 #[27, 32, 37], 27, 0, 0, 0, 0, 0)) (by rfl) rfl (oz59 w1 w2 w3) 43 (by rfl) ?_
  refine ko_steps mi_in26 2 _ (47, [(0, .ref 1), (1, .int x1)], [.ref 5], (0, 0), ks i a q r) (by rfl) ?_
  exact ko_ret mi_in26 (by rfl) (hP 5 (Or.inr (Or.inr (Or.inr (⟨rfl, trivial⟩)))))
set_option maxRecDepth 100000 in
theorem kc27_1 {i : Nat → Int32} {a : Nat → List Int32} {q : Nat → List Int64} {r : Nat → Nat} (hI : kI i a q) (hr : kr r) (x1 : Int32) (x2 : Int32) : km 3 27 [.ref 1, .int x1, .int x2] (ks i a q r) (kPI (ks i a q r) (fun v => True)) := by
  have hG := kG_self kW0 hI hr
  refine km_ofPI (q := (mi_h27, mi_c27)) rfl (by decide) (Nat.le_of_ble_eq_true rfl) ?_
  intro P hP
  refine ko_steps mi_in27 1 _ (1, [(0, .ref 1), (1, .int x1), (2, .int x2)], [.int x2], (0, 0), ks i a q r) (by rfl) ?_
  by_cases w1 : x2.toInt = 4
  ·
    refine ko_eq (x1 := (1, [(0, .ref 1), (1, .int x1), (2, .int x2)], [.int 4], (0, 0), ks i a q r)) (by rw [(kj_eq w1 (by decide) : x2 = 4)]) ?_
    refine ko_steps mi_in27 3 _ (32, [(0, .ref 1), (1, .int x1), (2, .int x2)], [.int (i 70)], (0, 0), ks i a q r) (by rfl) ?_
    exact ko_ret mi_in27 (by rfl) (hP (i 70) trivial)
  by_cases w2 : x2.toInt = 5
  ·
    refine ko_eq (x1 := (1, [(0, .ref 1), (1, .int x1), (2, .int x2)], [.int 5], (0, 0), ks i a q r)) (by rw [(kj_eq w2 (by decide) : x2 = 5)]) ?_
    refine ko_steps mi_in27 3 _ (37, [(0, .ref 1), (1, .int x1), (2, .int x2)], [.int (i 71)], (0, 0), ks i a q r) (by rfl) ?_
    exact ko_ret mi_in27 (by rfl) (hP (i 71) trivial)
  by_cases w3 : x2.toInt = 6
  ·
    refine ko_eq (x1 := (1, [(0, .ref 1), (1, .int x1), (2, .int x2)], [.int 6], (0, 0), ks i a q r)) (by rw [(kj_eq w3 (by decide) : x2 = 6)]) ?_
    refine ko_steps mi_in27 3 _ (42, [(0, .ref 1), (1, .int x1), (2, .int x2)], [.int (i 72)], (0, 0), ks i a q r) (by rfl) ?_
    exact ko_ret mi_in27 (by rfl) (hP (i 72) trivial)
  refine ko_sw (ls := [(0, .ref 1), (1, .int x1), (2, .int x2)]) (r := []) (h := ks i a q r) mi_in27 (v := x2) (i := (.tableswitch 42 4 6 #[27, 32, 37], 27, 0, 0, 0, 0, 0)) (by rfl) rfl (oz58 w1 w2 w3) 43 (by rfl) ?_
  refine ko_steps mi_in27 2 _ (45, [(0, .ref 1), (1, .int x1), (2, .int x2)], [.int x1, .ref 1], (0, 0), ks i a q r) (by rfl) ?_
  refine ko_callPI mi_in27 (pc := 45) (ls := [(0, .ref 1), (1, .int x1), (2, .int x2)]) (st := [.int x1, .ref 1]) (h := ks i a q r) (i := (.invokevirtual 85, 3, 24, 0, 9, 0, 165)) (by rfl) (by rfl) (cy := mi_c24) rfl rfl (kc24_1 hG.I hG.R x1) (by decide) ?_
  intro vg4 hg4
  rcases hg4 with ⟨eg4, hg4⟩ | ⟨eg4, hg4⟩
  ·
    subst eg4
    have fi_64 : ((0 : Int) ≤ (i 64).toInt) ∧ ((i 64).toInt ≤ 8) := hG.I.1 64
    have z5 : ((0 : Int) ≤ x1.toInt) ∧ (x1.toInt < (i 64).toInt) := hg4
    refine ko_steps mi_in27 3 _ (53, [(0, .ref 1), (1, .int x1), (2, .int x2)], [.int x2, .ref 1], (0, 0), ks i a q r) (by rfl) ?_
    refine ko_callPR mi_in27 (pc := 53) (ls := [(0, .ref 1), (1, .int x1), (2, .int x2)]) (st := [.int x2, .ref 1]) (h := ks i a q r) (i := (.invokevirtual 89, 3, 26, 0, 9, 0, 166)) (by rfl) (by rfl) (cy := mi_c26) rfl rfl (kc26_1 hG.I hG.R x2) (by decide) ?_
    intro vg6 hg6
    rcases hg6 with ⟨eg6, hg6⟩ | ⟨eg6, hg6⟩ | ⟨eg6, hg6⟩ | ⟨eg6, hg6⟩
    ·
      subst eg6
      refine ko_steps mi_in27 1 _ (57, [(0, .ref 1), (1, .int x1), (2, .int x2)], [.int x1, .ref 2], (0, 0), ks i a q r) (by rfl) ?_
      refine ko_iald2 mi_in27 (l := a 2) (n := 8) (c := 8) (ax := (0, 0, 0, 0, 0)) (by rfl) (by rfl) (by rfl) (hG.I.2.1 2) rfl (oz50 z5.1) (oz60 fi_64.2 z5.2) ?_
      refine ko_steps mi_in27 1 _ (62, [(0, .ref 1), (1, .int x1), (2, .int x2)], [.int ((a 2).getD x1.toNatClampNeg 0)], (0, 0), ks i a q r) (by rfl) ?_
      exact ko_ret mi_in27 (by rfl) (hP ((a 2).getD x1.toNatClampNeg 0) trivial)
    ·
      subst eg6
      refine ko_steps mi_in27 1 _ (57, [(0, .ref 1), (1, .int x1), (2, .int x2)], [.int x1, .ref 3], (0, 0), ks i a q r) (by rfl) ?_
      refine ko_iald2 mi_in27 (l := a 3) (n := 8) (c := 8) (ax := (0, 0, 0, 0, 0)) (by rfl) (by rfl) (by rfl) (hG.I.2.1 3) rfl (oz50 z5.1) (oz60 fi_64.2 z5.2) ?_
      refine ko_steps mi_in27 1 _ (62, [(0, .ref 1), (1, .int x1), (2, .int x2)], [.int ((a 3).getD x1.toNatClampNeg 0)], (0, 0), ks i a q r) (by rfl) ?_
      exact ko_ret mi_in27 (by rfl) (hP ((a 3).getD x1.toNatClampNeg 0) trivial)
    ·
      subst eg6
      refine ko_steps mi_in27 1 _ (57, [(0, .ref 1), (1, .int x1), (2, .int x2)], [.int x1, .ref 4], (0, 0), ks i a q r) (by rfl) ?_
      refine ko_iald2 mi_in27 (l := a 4) (n := 8) (c := 8) (ax := (0, 0, 0, 0, 0)) (by rfl) (by rfl) (by rfl) (hG.I.2.1 4) rfl (oz50 z5.1) (oz60 fi_64.2 z5.2) ?_
      refine ko_steps mi_in27 1 _ (62, [(0, .ref 1), (1, .int x1), (2, .int x2)], [.int ((a 4).getD x1.toNatClampNeg 0)], (0, 0), ks i a q r) (by rfl) ?_
      exact ko_ret mi_in27 (by rfl) (hP ((a 4).getD x1.toNatClampNeg 0) trivial)
    ·
      subst eg6
      refine ko_steps mi_in27 1 _ (57, [(0, .ref 1), (1, .int x1), (2, .int x2)], [.int x1, .ref 5], (0, 0), ks i a q r) (by rfl) ?_
      refine ko_iald2 mi_in27 (l := a 5) (n := 8) (c := 8) (ax := (0, 0, 0, 0, 0)) (by rfl) (by rfl) (by rfl) (hG.I.2.1 5) rfl (oz50 z5.1) (oz60 fi_64.2 z5.2) ?_
      refine ko_steps mi_in27 1 _ (62, [(0, .ref 1), (1, .int x1), (2, .int x2)], [.int ((a 5).getD x1.toNatClampNeg 0)], (0, 0), ks i a q r) (by rfl) ?_
      exact ko_ret mi_in27 (by rfl) (hP ((a 5).getD x1.toNatClampNeg 0) trivial)
  ·
    subst eg4
    have fi_64 : ((0 : Int) ≤ (i 64).toInt) ∧ ((i 64).toInt ≤ 8) := hG.I.1 64
    have z7 : ¬ (((0 : Int) ≤ x1.toInt) ∧ (x1.toInt < (i 64).toInt)) := hg4
    refine ko_steps mi_in27 2 _ (62, [(0, .ref 1), (1, .int x1), (2, .int x2)], [.int (-1)], (0, 0), ks i a q r) (by rfl) ?_
    exact ko_ret mi_in27 (by rfl) (hP (-1) trivial)
def w28_1 : kW := ([70, 71, 72], [2, 3, 4, 5], [], [])
set_option maxRecDepth 100000 in
theorem kc28_1 {i : Nat → Int32} {a : Nat → List Int32} {q : Nat → List Int64} {r : Nat → Nat} (hI : kI i a q) (hr : kr r) (x1 : Int32) (x2 : Int32) (x3 : Int32) : km 3 28 [.ref 1, .int x1, .int x2, .int x3] (ks i a q r) (kVN w28_1 i a q r (fun i1 a1 q1 r1 => True)) := by
  have hG := kG_self w28_1 hI hr
  refine km_ofN (q := (mi_h28, mi_c28)) rfl (by decide) (Nat.le_of_ble_eq_true rfl) ?_
  intro P hP
  refine ko_steps mi_in28 2 _ (2, [(0, .ref 1), (1, .int x1), (2, .int x2), (3, .int x3)], [.int 4, .int x2], (0, 0), ks i a q r) (by rfl) ?_
  refine ko_if mi_in28 (x2 != 4) 13 5 ([(0, .ref 1), (1, .int x1), (2, .int x2), (3, .int x3)], [], (0, 0), ks i a q r) (by rfl) (fun c => ?_) (fun c => ?_)
  ·
    have c1 : x2.toInt ≠ (4 : Int32).toInt := kd_ne c; clear c
    refine ko_steps mi_in28 2 _ (15, [(0, .ref 1), (1, .int x1), (2, .int x2), (3, .int x3)], [.int 5, .int x2], (0, 0), ks i a q r) (by rfl) ?_
    refine ko_if mi_in28 (x2 != 5) 26 18 ([(0, .ref 1), (1, .int x1), (2, .int x2), (3, .int x3)], [], (0, 0), ks i a q r) (by rfl) (fun c => ?_) (fun c => ?_)
    ·
      have c2 : x2.toInt ≠ (5 : Int32).toInt := kd_ne c; clear c
      refine ko_steps mi_in28 2 _ (29, [(0, .ref 1), (1, .int x1), (2, .int x2), (3, .int x3)], [.int 6, .int x2], (0, 0), ks i a q r) (by rfl) ?_
      refine ko_if mi_in28 (x2 != 6) 40 32 ([(0, .ref 1), (1, .int x1), (2, .int x2), (3, .int x3)], [], (0, 0), ks i a q r) (by rfl) (fun c => ?_) (fun c => ?_)
      ·
        have c3 : x2.toInt ≠ (6 : Int32).toInt := kd_ne c; clear c
        refine ko_steps mi_in28 2 _ (42, [(0, .ref 1), (1, .int x1), (2, .int x2), (3, .int x3)], [.int x1, .ref 1], (0, 0), ks i a q r) (by rfl) ?_
        refine ko_callPI mi_in28 (pc := 42) (ls := [(0, .ref 1), (1, .int x1), (2, .int x2), (3, .int x3)]) (st := [.int x1, .ref 1]) (h := ks i a q r) (i := (.invokevirtual 85, 3, 24, 0, 9, 0, 165)) (by rfl) (by rfl) (cy := mi_c24) rfl rfl (kc24_1 hG.I hG.R x1) (by decide) ?_
        intro vg4 hg4
        rcases hg4 with ⟨eg4, hg4⟩ | ⟨eg4, hg4⟩
        ·
          subst eg4
          have fi_64 : ((0 : Int) ≤ (i 64).toInt) ∧ ((i 64).toInt ≤ 8) := hG.I.1 64
          have z5 : ((0 : Int) ≤ x1.toInt) ∧ (x1.toInt < (i 64).toInt) := hg4
          refine ko_steps mi_in28 3 _ (50, [(0, .ref 1), (1, .int x1), (2, .int x2), (3, .int x3)], [.int x2, .ref 1], (0, 0), ks i a q r) (by rfl) ?_
          refine ko_callPR mi_in28 (pc := 50) (ls := [(0, .ref 1), (1, .int x1), (2, .int x2), (3, .int x3)]) (st := [.int x2, .ref 1]) (h := ks i a q r) (i := (.invokevirtual 89, 3, 26, 0, 9, 0, 166)) (by rfl) (by rfl) (cy := mi_c26) rfl rfl (kc26_1 hG.I hG.R x2) (by decide) ?_
          intro vg6 hg6
          rcases hg6 with ⟨eg6, hg6⟩ | ⟨eg6, hg6⟩ | ⟨eg6, hg6⟩ | ⟨eg6, hg6⟩
          ·
            subst eg6
            refine ko_steps mi_in28 2 _ (55, [(0, .ref 1), (1, .int x1), (2, .int x2), (3, .int x3)], [.int x3, .int x1, .ref 2], (0, 0), ks i a q r) (by rfl) ?_
            have hJ7 := kG_a hG 2 rfl x1.toNatClampNeg (v := x3) (kd_bd _)
            refine ko_iast2 mi_in28 (l := a 2) (n := 8) (c := 8) (ax := (0, 0, 0, 0, 0)) (by rfl) (by rfl) (by rfl) (hG.I.2.1 2) rfl (oz50 z5.1) (oz60 fi_64.2 z5.2) (h2 := ks i (ku a 2 ((a 2).set x1.toNatClampNeg x3)) q r) (by rfl) ?_
            exact ko_ret mi_in28 (by rfl) (hP  _ _ _ _ hJ7 trivial)
          ·
            subst eg6
            refine ko_steps mi_in28 2 _ (55, [(0, .ref 1), (1, .int x1), (2, .int x2), (3, .int x3)], [.int x3, .int x1, .ref 3], (0, 0), ks i a q r) (by rfl) ?_
            have hJ8 := kG_a hG 3 rfl x1.toNatClampNeg (v := x3) (kd_bd _)
            refine ko_iast2 mi_in28 (l := a 3) (n := 8) (c := 8) (ax := (0, 0, 0, 0, 0)) (by rfl) (by rfl) (by rfl) (hG.I.2.1 3) rfl (oz50 z5.1) (oz60 fi_64.2 z5.2) (h2 := ks i (ku a 3 ((a 3).set x1.toNatClampNeg x3)) q r) (by rfl) ?_
            exact ko_ret mi_in28 (by rfl) (hP  _ _ _ _ hJ8 trivial)
          ·
            subst eg6
            refine ko_steps mi_in28 2 _ (55, [(0, .ref 1), (1, .int x1), (2, .int x2), (3, .int x3)], [.int x3, .int x1, .ref 4], (0, 0), ks i a q r) (by rfl) ?_
            have hJ9 := kG_a hG 4 rfl x1.toNatClampNeg (v := x3) (kd_bd _)
            refine ko_iast2 mi_in28 (l := a 4) (n := 8) (c := 8) (ax := (0, 0, 0, 0, 0)) (by rfl) (by rfl) (by rfl) (hG.I.2.1 4) rfl (oz50 z5.1) (oz60 fi_64.2 z5.2) (h2 := ks i (ku a 4 ((a 4).set x1.toNatClampNeg x3)) q r) (by rfl) ?_
            exact ko_ret mi_in28 (by rfl) (hP  _ _ _ _ hJ9 trivial)
          ·
            subst eg6
            refine ko_steps mi_in28 2 _ (55, [(0, .ref 1), (1, .int x1), (2, .int x2), (3, .int x3)], [.int x3, .int x1, .ref 5], (0, 0), ks i a q r) (by rfl) ?_
            have hJ10 := kG_a hG 5 rfl x1.toNatClampNeg (v := x3) (kd_bd _)
            refine ko_iast2 mi_in28 (l := a 5) (n := 8) (c := 8) (ax := (0, 0, 0, 0, 0)) (by rfl) (by rfl) (by rfl) (hG.I.2.1 5) rfl (oz50 z5.1) (oz60 fi_64.2 z5.2) (h2 := ks i (ku a 5 ((a 5).set x1.toNatClampNeg x3)) q r) (by rfl) ?_
            exact ko_ret mi_in28 (by rfl) (hP  _ _ _ _ hJ10 trivial)
        ·
          subst eg4
          have fi_64 : ((0 : Int) ≤ (i 64).toInt) ∧ ((i 64).toInt ≤ 8) := hG.I.1 64
          have z11 : ¬ (((0 : Int) ≤ x1.toInt) ∧ (x1.toInt < (i 64).toInt)) := hg4
          refine ko_steps mi_in28 1 _ (56, [(0, .ref 1), (1, .int x1), (2, .int x2), (3, .int x3)], [], (0, 0), ks i a q r) (by rfl) ?_
          exact ko_ret mi_in28 (by rfl) (hP  _ _ _ _ hG trivial)
      ·
        have c12 : x2.toInt = (6 : Int32).toInt := kd_neF c; clear c
        have hJ13 := kG_i hG 72 rfl (v := x3) (kd_bd _)
        refine ko_steps mi_in28 4 _ (56, [(0, .ref 1), (1, .int x1), (2, .int x2), (3, .int x3)], [], (0, 0), ks (ku i 72 x3) a q r) (by rfl) ?_
        exact ko_ret mi_in28 (by rfl) (hP  _ _ _ _ hJ13 trivial)
    ·
      have c14 : x2.toInt = (5 : Int32).toInt := kd_neF c; clear c
      have hJ15 := kG_i hG 71 rfl (v := x3) (kd_bd _)
      refine ko_steps mi_in28 4 _ (56, [(0, .ref 1), (1, .int x1), (2, .int x2), (3, .int x3)], [], (0, 0), ks (ku i 71 x3) a q r) (by rfl) ?_
      exact ko_ret mi_in28 (by rfl) (hP  _ _ _ _ hJ15 trivial)
  ·
    have c16 : x2.toInt = (4 : Int32).toInt := kd_neF c; clear c
    have hJ17 := kG_i hG 70 rfl (v := x3) (kd_bd _)
    refine ko_steps mi_in28 4 _ (56, [(0, .ref 1), (1, .int x1), (2, .int x2), (3, .int x3)], [], (0, 0), ks (ku i 70 x3) a q r) (by rfl) ?_
    exact ko_ret mi_in28 (by rfl) (hP  _ _ _ _ hJ17 trivial)
def w32_1 : kW := ([72, 73], [6, 14], [], [])
def w32_1_L22 : kW := ([], [6], [], [])
set_option maxRecDepth 100000 in
theorem kc32_1 {i : Nat → Int32} {a : Nat → List Int32} {q : Nat → List Int64} {r : Nat → Nat} (hI : kI i a q) (hr : kr r)  : km 1 32 [.ref 1] (ks i a q r) (kVN w32_1 i a q r (fun i1 a1 q1 r1 => True)) := by
  have hG := kG_self w32_1 hI hr
  refine km_ofN (q := (mi_h32, mi_c32)) rfl (by decide) (Nat.le_of_ble_eq_true rfl) ?_
  intro P hP
  have b1 : ((-2147483648 : Int) ≤ (i 72).toInt) ∧ ((i 72).toInt ≤ 2147483647) := kd_bd (i 72)
  refine ko_steps mi_in32 6 _ (9, [(0, .ref 1)], [.int ((i 72) + 1), .int 99, .ref 1], (0, 0), ks i a q r) (by rfl) ?_
  have m3 : (((bif decide (((i 72) + 1) < 99) then ((i 72) + 1) else 99).toInt ≤ (99 : Int32).toInt) ∧ ((bif decide (((i 72) + 1) < 99) then ((i 72) + 1) else 99).toInt ≤ ((i 72) + 1).toInt)) ∧ ((bif decide (((i 72) + 1) < 99) then ((i 72) + 1) else 99).toInt = (99 : Int32).toInt ∨ (bif decide (((i 72) + 1) < 99) then ((i 72) + 1) else 99).toInt = ((i 72) + 1).toInt) := kd_min
  refine ko_steps mi_in32 1 _ (12, [(0, .ref 1)], [.int (bif decide (((i 72) + 1) < 99) then ((i 72) + 1) else 99), .ref 1], (0, 0), ks i a q r) (by rfl) ?_
  generalize (bif decide (((i 72) + 1) < 99) then ((i 72) + 1) else 99) = m2 at m3 ⊢
  have hJ4 := kG_i hG 72 rfl (v := m2) (kd_bd _)
  have hJ5 := kG_i hJ4 73 rfl (v := 0) (kd_bd _)
  refine ko_steps mi_in32 6 _ (22, [(1, .int 0), (0, .ref 1)], [], (0, 0), ks (ku (ku i 72 m2) 73 0) a q r) (by rfl) ?_
  have lp6 : ∀ (n : Nat) (i6 : Nat → Int32) (a6 : Nat → List Int32) (q6 : Nat → List Int64) (r6 : Nat → Nat) (l1_6 : Int32), kG w32_1_L22 (ku (ku i 72 m2) 73 0) a q r i6 a6 q6 r6 → (0 : Int) ≤ l1_6.toInt → ((8 - l1_6.toInt)).toNat < n → ko 1 (mi_h32, mi_c32) P (22, [(1, .int l1_6), (0, .ref 1)], [], (0, 0), ks i6 a6 q6 r6) := by
    intro n
    induction n with
    | zero =>
      intro _ _ _ _ _ _ _ hm
      exact absurd hm (Nat.not_lt_zero _)
    | succ n ih6 =>
      intro i6 a6 q6 r6 l1_6 hL6 p6_0 hm6
      refine ko_steps mi_in32 2 _ (25, [(1, .int l1_6), (0, .ref 1)], [.int 8, .int l1_6], (0, 0), ks i6 a6 q6 r6) (by rfl) ?_
      refine ko_if mi_in32 (decide (8 ≤ l1_6)) 41 28 ([(1, .int l1_6), (0, .ref 1)], [], (0, 0), ks i6 a6 q6 r6) (by rfl) (fun c => ?_) (fun c => ?_)
      ·
        have c7 : (8 : Int32).toInt ≤ l1_6.toInt := kd_le c; clear c
        have hG8 := kG_call hJ5 hL6 (by decide +kernel)
        refine ko_steps mi_in32 4 _ (47, [(1, .int l1_6), (0, .ref 1)], [.int 3, .ref 14, .int 3, .ref 14], (0, 0), ks i6 a6 q6 r6) (by rfl) ?_
        refine ko_iald2 mi_in32 (l := a6 14) (n := 5) (c := 5) (ax := (0, 0, 0, 0, 0)) (by rfl) (by rfl) (by rfl) (hG8.I.2.1 14) rfl (oz61 kn3) (oz62 kn3) ?_
        have b9 : ((-2147483648 : Int) ≤ ((a6 14).getD (3 : Int32).toNatClampNeg 0).toInt) ∧ (((a6 14).getD (3 : Int32).toNatClampNeg 0).toInt ≤ 2147483647) := kd_bd ((a6 14).getD (3 : Int32).toNatClampNeg 0)
        refine ko_steps mi_in32 2 _ (50, [(1, .int l1_6), (0, .ref 1)], [.int (((a6 14).getD (3 : Int32).toNatClampNeg 0) + 1), .int 3, .ref 14], (0, 0), ks i6 a6 q6 r6) (by rfl) ?_
        have hJ10 := kG_a hG8 14 rfl ((3 : Int32).toNatClampNeg) (v := (((a6 14).getD (3 : Int32).toNatClampNeg 0) + 1)) (kd_bd _)
        refine ko_iast2 mi_in32 (l := a6 14) (n := 5) (c := 5) (ax := (0, 0, 0, 0, 0)) (by rfl) (by rfl) (by rfl) (hG8.I.2.1 14) rfl (oz61 kn3) (oz62 kn3) (h2 := ks i6 (ku a6 14 ((a6 14).set (3 : Int32).toNatClampNeg (((a6 14).getD (3 : Int32).toNatClampNeg 0) + 1))) q6 r6) (by rfl) ?_
        exact ko_ret mi_in32 (by rfl) (hP  _ _ _ _ hJ10 trivial)
      ·
        have c11 : l1_6.toInt < (8 : Int32).toInt := kd_leF c; clear c
        refine ko_steps mi_in32 4 _ (34, [(1, .int l1_6), (0, .ref 1)], [.int 0, .int l1_6, .ref 6], (0, 0), ks i6 a6 q6 r6) (by rfl) ?_
        have hJ12 := kG_a hL6 6 rfl l1_6.toNatClampNeg (v := 0) (kd_bd _)
        refine ko_iast2 mi_in32 (l := a6 6) (n := 8) (c := 8) (ax := (0, 0, 0, 0, 0)) (by rfl) (by rfl) (by rfl) (hL6.I.2.1 6) rfl (oz50 p6_0) (oz51 c11 kn8) (h2 := ks i6 (ku a6 6 ((a6 6).set l1_6.toNatClampNeg 0)) q6 r6) (by rfl) ?_
        have s13 : (l1_6 + 1).toInt = l1_6.toInt + (1 : Int32).toInt := kd_add (oz52 p6_0 kn1) (oz63 c11 kn8 kn1)
        refine ko_steps mi_in32 2 _ (22, [(1, .int (l1_6 + 1)), (0, .ref 1)], [], (0, 0), ks i6 (ku a6 6 ((a6 6).set l1_6.toNatClampNeg 0)) q6 r6) (by rfl) ?_
        exact ih6 _ _ _ _ _ hJ12 (oz54 p6_0 s13 kn1) (kj_meas (oz64 s13 kn1) (oz65 c11 kn8) hm6)
  exact lp6 _ _ _ _ _ _ (kG_self _ hJ5.I hJ5.R) (oz66 kn0) (Nat.lt_succ_self _)
def w25_50 : kW := ([3200], [51, 52, 53, 54, 55], [], [])
set_option maxRecDepth 100000 in
theorem kc25_50 {i : Nat → Int32} {a : Nat → List Int32} {q : Nat → List Int64} {r : Nat → Nat} (hI : kI i a q) (hr : kr r) (x1 : Int32) (x2 : Int32) (x3 : Int32) : km 1 25 [.ref 50, .int x1, .int x2, .int x3] (ks i a q r) (kVI w25_50 i a q r (fun v i1 a1 q1 r1 => True)) := by
  have hG := kG_self w25_50 hI hr
  refine km_ofI (q := (mi_h25, mi_c25)) rfl (by decide) (Nat.le_of_ble_eq_true rfl) ?_
  intro P hP
  have fi_3200 : ((0 : Int) ≤ (i 3200).toInt) ∧ ((i 3200).toInt ≤ 8) := hG.I.1 3200
  refine ko_steps mi_in25 3 _ (6, [(0, .ref 50), (1, .int x1), (2, .int x2), (3, .int x3)], [.int 8, .int (i 3200)], (0, 0), ks i a q r) (by rfl) ?_
  refine ko_if mi_in25 (decide ((i 3200) < 8)) 12 9 ([(0, .ref 50), (1, .int x1), (2, .int x2), (3, .int x3)], [], (0, 0), ks i a q r) (by rfl) (fun c => ?_) (fun c => ?_)
  ·
    have c1 : (i 3200).toInt < (8 : Int32).toInt := kd_lt c; clear c
    refine ko_steps mi_in25 5 _ (21, [(0, .ref 50), (1, .int x1), (2, .int x2), (3, .int x3)], [.int x1, .int (i 3200), .ref 51], (0, 0), ks i a q r) (by rfl) ?_
    have hJ2 := kG_a hG 51 rfl ((i 3200).toNatClampNeg) (v := x1) (kd_bd _)
    refine ko_iast2 mi_in25 (l := a 51) (n := 8) (c := 8) (ax := (0, 0, 0, 0, 0)) (by rfl) (by rfl) (by rfl) (hG.I.2.1 51) rfl (oz50 fi_3200.1) (oz51 c1 kn8) (h2 := ks i (ku a 51 ((a 51).set (i 3200).toNatClampNeg x1)) q r) (by rfl) ?_
    refine ko_steps mi_in25 5 _ (31, [(0, .ref 50), (1, .int x1), (2, .int x2), (3, .int x3)], [.int x2, .int (i 3200), .ref 52], (0, 0), ks i (ku a 51 ((a 51).set (i 3200).toNatClampNeg x1)) q r) (by rfl) ?_
    have hJ3 := kG_a hJ2 52 rfl ((i 3200).toNatClampNeg) (v := x2) (kd_bd _)
    refine ko_iast2 mi_in25 (l := a 52) (n := 8) (c := 8) (ax := (0, 0, 0, 0, 0)) (by rfl) (by rfl) (by rfl) (hJ2.I.2.1 52) rfl (oz50 fi_3200.1) (oz51 c1 kn8) (h2 := ks i (ku (ku a 51 ((a 51).set (i 3200).toNatClampNeg x1)) 52 ((a 52).set (i 3200).toNatClampNeg x2)) q r) (by rfl) ?_
    refine ko_steps mi_in25 5 _ (41, [(0, .ref 50), (1, .int x1), (2, .int x2), (3, .int x3)], [.int x3, .int (i 3200), .ref 53], (0, 0), ks i (ku (ku a 51 ((a 51).set (i 3200).toNatClampNeg x1)) 52 ((a 52).set (i 3200).toNatClampNeg x2)) q r) (by rfl) ?_
    have hJ4 := kG_a hJ3 53 rfl ((i 3200).toNatClampNeg) (v := x3) (kd_bd _)
    refine ko_iast2 mi_in25 (l := a 53) (n := 8) (c := 8) (ax := (0, 0, 0, 0, 0)) (by rfl) (by rfl) (by rfl) (hJ3.I.2.1 53) rfl (oz50 fi_3200.1) (oz51 c1 kn8) (h2 := ks i (ku (ku (ku a 51 ((a 51).set (i 3200).toNatClampNeg x1)) 52 ((a 52).set (i 3200).toNatClampNeg x2)) 53 ((a 53).set (i 3200).toNatClampNeg x3)) q r) (by rfl) ?_
    refine ko_steps mi_in25 5 _ (51, [(0, .ref 50), (1, .int x1), (2, .int x2), (3, .int x3)], [.int 0, .int (i 3200), .ref 54], (0, 0), ks i (ku (ku (ku a 51 ((a 51).set (i 3200).toNatClampNeg x1)) 52 ((a 52).set (i 3200).toNatClampNeg x2)) 53 ((a 53).set (i 3200).toNatClampNeg x3)) q r) (by rfl) ?_
    have hJ5 := kG_a hJ4 54 rfl ((i 3200).toNatClampNeg) (v := 0) (kd_bd _)
    refine ko_iast2 mi_in25 (l := a 54) (n := 8) (c := 8) (ax := (0, 0, 0, 0, 0)) (by rfl) (by rfl) (by rfl) (hJ4.I.2.1 54) rfl (oz50 fi_3200.1) (oz51 c1 kn8) (h2 := ks i (ku (ku (ku (ku a 51 ((a 51).set (i 3200).toNatClampNeg x1)) 52 ((a 52).set (i 3200).toNatClampNeg x2)) 53 ((a 53).set (i 3200).toNatClampNeg x3)) 54 ((a 54).set (i 3200).toNatClampNeg 0)) q r) (by rfl) ?_
    refine ko_steps mi_in25 5 _ (61, [(0, .ref 50), (1, .int x1), (2, .int x2), (3, .int x3)], [.int 0, .int (i 3200), .ref 55], (0, 0), ks i (ku (ku (ku (ku a 51 ((a 51).set (i 3200).toNatClampNeg x1)) 52 ((a 52).set (i 3200).toNatClampNeg x2)) 53 ((a 53).set (i 3200).toNatClampNeg x3)) 54 ((a 54).set (i 3200).toNatClampNeg 0)) q r) (by rfl) ?_
    have hJ6 := kG_a hJ5 55 rfl ((i 3200).toNatClampNeg) (v := 0) (kd_bd _)
    refine ko_iast2 mi_in25 (l := a 55) (n := 8) (c := 8) (ax := (0, 0, 0, 0, 0)) (by rfl) (by rfl) (by rfl) (hJ5.I.2.1 55) rfl (oz50 fi_3200.1) (oz51 c1 kn8) (h2 := ks i (ku (ku (ku (ku (ku a 51 ((a 51).set (i 3200).toNatClampNeg x1)) 52 ((a 52).set (i 3200).toNatClampNeg x2)) 53 ((a 53).set (i 3200).toNatClampNeg x3)) 54 ((a 54).set (i 3200).toNatClampNeg 0)) 55 ((a 55).set (i 3200).toNatClampNeg 0)) q r) (by rfl) ?_
    have s7 : ((i 3200) + 1).toInt = (i 3200).toInt + (1 : Int32).toInt := kd_add (oz52 fi_3200.1 kn1) (oz53 fi_3200.2 kn1)
    have hJ8 := kG_i hJ6 3200 rfl (v := ((i 3200) + 1)) ⟨(oz54 fi_3200.1 s7 kn1), (oz55 c1 s7 kn8 kn1)⟩
    have s9 : (((i 3200) + 1) - 1).toInt = ((i 3200) + 1).toInt - (1 : Int32).toInt := kd_sub (oz56 fi_3200.1 s7 kn1) (oz57 fi_3200.2 s7 kn1)
    refine ko_steps mi_in25 10 _ (78, [(0, .ref 50), (1, .int x1), (2, .int x2), (3, .int x3)], [.int (((i 3200) + 1) - 1)], (0, 0), ks (ku i 3200 ((i 3200) + 1)) (ku (ku (ku (ku (ku a 51 ((a 51).set (i 3200).toNatClampNeg x1)) 52 ((a 52).set (i 3200).toNatClampNeg x2)) 53 ((a 53).set (i 3200).toNatClampNeg x3)) 54 ((a 54).set (i 3200).toNatClampNeg 0)) 55 ((a 55).set (i 3200).toNatClampNeg 0)) q r) (by rfl) ?_
    exact ko_ret mi_in25 (by rfl) (hP (((i 3200) + 1) - 1) _ _ _ _ hJ8 trivial)
  ·
    have c10 : (8 : Int32).toInt ≤ (i 3200).toInt := kd_ltF c; clear c
    refine ko_steps mi_in25 1 _ (11, [(0, .ref 50), (1, .int x1), (2, .int x2), (3, .int x3)], [.int (-3)], (0, 0), ks i a q r) (by rfl) ?_
    exact ko_ret mi_in25 (by rfl) (hP (-3) _ _ _ _ hG trivial)
set_option maxRecDepth 100000 in
theorem kc26_50 {i : Nat → Int32} {a : Nat → List Int32} {q : Nat → List Int64} {r : Nat → Nat} (hI : kI i a q) (hr : kr r) (x1 : Int32) : km 1 26 [.ref 50, .int x1] (ks i a q r) (kPR (ks i a q r) (fun v => (v = 51 ∧ True) ∨ (v = 52 ∧ True) ∨ (v = 53 ∧ True) ∨ (v = 54 ∧ True))) := by
  have hG := kG_self kW0 hI hr
  refine km_ofPR (q := (mi_h26, mi_c26)) rfl (by decide) (Nat.le_of_ble_eq_true rfl) ?_
  intro P hP
  refine ko_steps mi_in26 1 _ (1, [(0, .ref 50), (1, .int x1)], [.int x1], (0, 0), ks i a q r) (by rfl) ?_
  by_cases w1 : x1.toInt = 0
  ·
    refine ko_eq (x1 := (1, [(0, .ref 50), (1, .int x1)], [.int 0], (0, 0), ks i a q r)) (by rw [(kj_eq w1 (by decide) : x1 = 0)]) ?_
    refine ko_steps mi_in26 3 _ (32, [(0, .ref 50), (1, .int x1)], [.ref 51], (0, 0), ks i a q r) (by rfl) ?_
    exact ko_ret mi_in26 (by rfl) (hP 51 (Or.inl ⟨rfl, trivial⟩))
  by_cases w2 : x1.toInt = 1
  ·
    refine ko_eq (x1 := (1, [(0, .ref 50), (1, .int x1)], [.int 1], (0, 0), ks i a q r)) (by rw [(kj_eq w2 (by decide) : x1 = 1)]) ?_
    refine ko_steps mi_in26 3 _ (37, [(0, .ref 50), (1, .int x1)], [.ref 52], (0, 0), ks i a q r) (by rfl) ?_
    exact ko_ret mi_in26 (by rfl) (hP 52 (Or.inr (Or.inl ⟨rfl, trivial⟩)))
  by_cases w3 : x1.toInt = 2
  ·
    refine ko_eq (x1 := (1, [(0, .ref 50), (1, .int x1)], [.int 2], (0, 0), ks i a q r)) (by rw [(kj_eq w3 (by decide) : x1 = 2)]) ?_
    refine ko_steps mi_in26 3 _ (42, [(0, .ref 50), (1, .int x1)], [.ref 53], (0, 0), ks i a q r) (by rfl) ?_
    exact ko_ret mi_in26 (by rfl) (hP 53 (Or.inr (Or.inr (Or.inl ⟨rfl, trivial⟩))))
  refine ko_sw (ls := [(0, .ref 50), (1, .int x1)]) (r := []) (h := ks i a q r) mi_in26 (v := x1) (i := (.tableswitch 42 0 2 #[27, 32, 37], 27, 0, 0, 0, 0, 0)) (by rfl) rfl (oz59 w1 w2 w3) 43 (by rfl) ?_
  refine ko_steps mi_in26 2 _ (47, [(0, .ref 50), (1, .int x1)], [.ref 54], (0, 0), ks i a q r) (by rfl) ?_
  exact ko_ret mi_in26 (by rfl) (hP 54 (Or.inr (Or.inr (Or.inr (⟨rfl, trivial⟩)))))
set_option maxRecDepth 100000 in
theorem kc27_50 {i : Nat → Int32} {a : Nat → List Int32} {q : Nat → List Int64} {r : Nat → Nat} (hI : kI i a q) (hr : kr r) (x1 : Int32) (x2 : Int32) : km 3 27 [.ref 50, .int x1, .int x2] (ks i a q r) (kPI (ks i a q r) (fun v => True)) := by
  have hG := kG_self kW0 hI hr
  refine km_ofPI (q := (mi_h27, mi_c27)) rfl (by decide) (Nat.le_of_ble_eq_true rfl) ?_
  intro P hP
  refine ko_steps mi_in27 1 _ (1, [(0, .ref 50), (1, .int x1), (2, .int x2)], [.int x2], (0, 0), ks i a q r) (by rfl) ?_
  by_cases w1 : x2.toInt = 4
  ·
    refine ko_eq (x1 := (1, [(0, .ref 50), (1, .int x1), (2, .int x2)], [.int 4], (0, 0), ks i a q r)) (by rw [(kj_eq w1 (by decide) : x2 = 4)]) ?_
    refine ko_steps mi_in27 3 _ (32, [(0, .ref 50), (1, .int x1), (2, .int x2)], [.int (i 3206)], (0, 0), ks i a q r) (by rfl) ?_
    exact ko_ret mi_in27 (by rfl) (hP (i 3206) trivial)
  by_cases w2 : x2.toInt = 5
  ·
    refine ko_eq (x1 := (1, [(0, .ref 50), (1, .int x1), (2, .int x2)], [.int 5], (0, 0), ks i a q r)) (by rw [(kj_eq w2 (by decide) : x2 = 5)]) ?_
    refine ko_steps mi_in27 3 _ (37, [(0, .ref 50), (1, .int x1), (2, .int x2)], [.int (i 3207)], (0, 0), ks i a q r) (by rfl) ?_
    exact ko_ret mi_in27 (by rfl) (hP (i 3207) trivial)
  by_cases w3 : x2.toInt = 6
  ·
    refine ko_eq (x1 := (1, [(0, .ref 50), (1, .int x1), (2, .int x2)], [.int 6], (0, 0), ks i a q r)) (by rw [(kj_eq w3 (by decide) : x2 = 6)]) ?_
    refine ko_steps mi_in27 3 _ (42, [(0, .ref 50), (1, .int x1), (2, .int x2)], [.int (i 3208)], (0, 0), ks i a q r) (by rfl) ?_
    exact ko_ret mi_in27 (by rfl) (hP (i 3208) trivial)
  refine ko_sw (ls := [(0, .ref 50), (1, .int x1), (2, .int x2)]) (r := []) (h := ks i a q r) mi_in27 (v := x2) (i := (.tableswitch 42 4 6 #[27, 32, 37], 27, 0, 0, 0, 0, 0)) (by rfl) rfl (oz58 w1 w2 w3) 43 (by rfl) ?_
  refine ko_steps mi_in27 2 _ (45, [(0, .ref 50), (1, .int x1), (2, .int x2)], [.int x1, .ref 50], (0, 0), ks i a q r) (by rfl) ?_
  refine ko_callPI mi_in27 (pc := 45) (ls := [(0, .ref 50), (1, .int x1), (2, .int x2)]) (st := [.int x1, .ref 50]) (h := ks i a q r) (i := (.invokevirtual 85, 3, 24, 0, 9, 0, 165)) (by rfl) (by rfl) (cy := mi_c24) rfl rfl (kc24_50 hG.I hG.R x1) (by decide) ?_
  intro vg4 hg4
  rcases hg4 with ⟨eg4, hg4⟩ | ⟨eg4, hg4⟩
  ·
    subst eg4
    have fi_3200 : ((0 : Int) ≤ (i 3200).toInt) ∧ ((i 3200).toInt ≤ 8) := hG.I.1 3200
    have z5 : ((0 : Int) ≤ x1.toInt) ∧ (x1.toInt < (i 3200).toInt) := hg4
    refine ko_steps mi_in27 3 _ (53, [(0, .ref 50), (1, .int x1), (2, .int x2)], [.int x2, .ref 50], (0, 0), ks i a q r) (by rfl) ?_
    refine ko_callPR mi_in27 (pc := 53) (ls := [(0, .ref 50), (1, .int x1), (2, .int x2)]) (st := [.int x2, .ref 50]) (h := ks i a q r) (i := (.invokevirtual 89, 3, 26, 0, 9, 0, 166)) (by rfl) (by rfl) (cy := mi_c26) rfl rfl (kc26_50 hG.I hG.R x2) (by decide) ?_
    intro vg6 hg6
    rcases hg6 with ⟨eg6, hg6⟩ | ⟨eg6, hg6⟩ | ⟨eg6, hg6⟩ | ⟨eg6, hg6⟩
    ·
      subst eg6
      refine ko_steps mi_in27 1 _ (57, [(0, .ref 50), (1, .int x1), (2, .int x2)], [.int x1, .ref 51], (0, 0), ks i a q r) (by rfl) ?_
      refine ko_iald2 mi_in27 (l := a 51) (n := 8) (c := 8) (ax := (0, 0, 0, 0, 0)) (by rfl) (by rfl) (by rfl) (hG.I.2.1 51) rfl (oz50 z5.1) (oz60 fi_3200.2 z5.2) ?_
      refine ko_steps mi_in27 1 _ (62, [(0, .ref 50), (1, .int x1), (2, .int x2)], [.int ((a 51).getD x1.toNatClampNeg 0)], (0, 0), ks i a q r) (by rfl) ?_
      exact ko_ret mi_in27 (by rfl) (hP ((a 51).getD x1.toNatClampNeg 0) trivial)
    ·
      subst eg6
      refine ko_steps mi_in27 1 _ (57, [(0, .ref 50), (1, .int x1), (2, .int x2)], [.int x1, .ref 52], (0, 0), ks i a q r) (by rfl) ?_
      refine ko_iald2 mi_in27 (l := a 52) (n := 8) (c := 8) (ax := (0, 0, 0, 0, 0)) (by rfl) (by rfl) (by rfl) (hG.I.2.1 52) rfl (oz50 z5.1) (oz60 fi_3200.2 z5.2) ?_
      refine ko_steps mi_in27 1 _ (62, [(0, .ref 50), (1, .int x1), (2, .int x2)], [.int ((a 52).getD x1.toNatClampNeg 0)], (0, 0), ks i a q r) (by rfl) ?_
      exact ko_ret mi_in27 (by rfl) (hP ((a 52).getD x1.toNatClampNeg 0) trivial)
    ·
      subst eg6
      refine ko_steps mi_in27 1 _ (57, [(0, .ref 50), (1, .int x1), (2, .int x2)], [.int x1, .ref 53], (0, 0), ks i a q r) (by rfl) ?_
      refine ko_iald2 mi_in27 (l := a 53) (n := 8) (c := 8) (ax := (0, 0, 0, 0, 0)) (by rfl) (by rfl) (by rfl) (hG.I.2.1 53) rfl (oz50 z5.1) (oz60 fi_3200.2 z5.2) ?_
      refine ko_steps mi_in27 1 _ (62, [(0, .ref 50), (1, .int x1), (2, .int x2)], [.int ((a 53).getD x1.toNatClampNeg 0)], (0, 0), ks i a q r) (by rfl) ?_
      exact ko_ret mi_in27 (by rfl) (hP ((a 53).getD x1.toNatClampNeg 0) trivial)
    ·
      subst eg6
      refine ko_steps mi_in27 1 _ (57, [(0, .ref 50), (1, .int x1), (2, .int x2)], [.int x1, .ref 54], (0, 0), ks i a q r) (by rfl) ?_
      refine ko_iald2 mi_in27 (l := a 54) (n := 8) (c := 8) (ax := (0, 0, 0, 0, 0)) (by rfl) (by rfl) (by rfl) (hG.I.2.1 54) rfl (oz50 z5.1) (oz60 fi_3200.2 z5.2) ?_
      refine ko_steps mi_in27 1 _ (62, [(0, .ref 50), (1, .int x1), (2, .int x2)], [.int ((a 54).getD x1.toNatClampNeg 0)], (0, 0), ks i a q r) (by rfl) ?_
      exact ko_ret mi_in27 (by rfl) (hP ((a 54).getD x1.toNatClampNeg 0) trivial)
  ·
    subst eg4
    have fi_3200 : ((0 : Int) ≤ (i 3200).toInt) ∧ ((i 3200).toInt ≤ 8) := hG.I.1 3200
    have z7 : ¬ (((0 : Int) ≤ x1.toInt) ∧ (x1.toInt < (i 3200).toInt)) := hg4
    refine ko_steps mi_in27 2 _ (62, [(0, .ref 50), (1, .int x1), (2, .int x2)], [.int (-1)], (0, 0), ks i a q r) (by rfl) ?_
    exact ko_ret mi_in27 (by rfl) (hP (-1) trivial)
def w28_50 : kW := ([3206, 3207, 3208], [51, 52, 53, 54], [], [])
set_option maxRecDepth 100000 in
theorem kc28_50 {i : Nat → Int32} {a : Nat → List Int32} {q : Nat → List Int64} {r : Nat → Nat} (hI : kI i a q) (hr : kr r) (x1 : Int32) (x2 : Int32) (x3 : Int32) : km 3 28 [.ref 50, .int x1, .int x2, .int x3] (ks i a q r) (kVN w28_50 i a q r (fun i1 a1 q1 r1 => True)) := by
  have hG := kG_self w28_50 hI hr
  refine km_ofN (q := (mi_h28, mi_c28)) rfl (by decide) (Nat.le_of_ble_eq_true rfl) ?_
  intro P hP
  refine ko_steps mi_in28 2 _ (2, [(0, .ref 50), (1, .int x1), (2, .int x2), (3, .int x3)], [.int 4, .int x2], (0, 0), ks i a q r) (by rfl) ?_
  refine ko_if mi_in28 (x2 != 4) 13 5 ([(0, .ref 50), (1, .int x1), (2, .int x2), (3, .int x3)], [], (0, 0), ks i a q r) (by rfl) (fun c => ?_) (fun c => ?_)
  ·
    have c1 : x2.toInt ≠ (4 : Int32).toInt := kd_ne c; clear c
    refine ko_steps mi_in28 2 _ (15, [(0, .ref 50), (1, .int x1), (2, .int x2), (3, .int x3)], [.int 5, .int x2], (0, 0), ks i a q r) (by rfl) ?_
    refine ko_if mi_in28 (x2 != 5) 26 18 ([(0, .ref 50), (1, .int x1), (2, .int x2), (3, .int x3)], [], (0, 0), ks i a q r) (by rfl) (fun c => ?_) (fun c => ?_)
    ·
      have c2 : x2.toInt ≠ (5 : Int32).toInt := kd_ne c; clear c
      refine ko_steps mi_in28 2 _ (29, [(0, .ref 50), (1, .int x1), (2, .int x2), (3, .int x3)], [.int 6, .int x2], (0, 0), ks i a q r) (by rfl) ?_
      refine ko_if mi_in28 (x2 != 6) 40 32 ([(0, .ref 50), (1, .int x1), (2, .int x2), (3, .int x3)], [], (0, 0), ks i a q r) (by rfl) (fun c => ?_) (fun c => ?_)
      ·
        have c3 : x2.toInt ≠ (6 : Int32).toInt := kd_ne c; clear c
        refine ko_steps mi_in28 2 _ (42, [(0, .ref 50), (1, .int x1), (2, .int x2), (3, .int x3)], [.int x1, .ref 50], (0, 0), ks i a q r) (by rfl) ?_
        refine ko_callPI mi_in28 (pc := 42) (ls := [(0, .ref 50), (1, .int x1), (2, .int x2), (3, .int x3)]) (st := [.int x1, .ref 50]) (h := ks i a q r) (i := (.invokevirtual 85, 3, 24, 0, 9, 0, 165)) (by rfl) (by rfl) (cy := mi_c24) rfl rfl (kc24_50 hG.I hG.R x1) (by decide) ?_
        intro vg4 hg4
        rcases hg4 with ⟨eg4, hg4⟩ | ⟨eg4, hg4⟩
        ·
          subst eg4
          have fi_3200 : ((0 : Int) ≤ (i 3200).toInt) ∧ ((i 3200).toInt ≤ 8) := hG.I.1 3200
          have z5 : ((0 : Int) ≤ x1.toInt) ∧ (x1.toInt < (i 3200).toInt) := hg4
          refine ko_steps mi_in28 3 _ (50, [(0, .ref 50), (1, .int x1), (2, .int x2), (3, .int x3)], [.int x2, .ref 50], (0, 0), ks i a q r) (by rfl) ?_
          refine ko_callPR mi_in28 (pc := 50) (ls := [(0, .ref 50), (1, .int x1), (2, .int x2), (3, .int x3)]) (st := [.int x2, .ref 50]) (h := ks i a q r) (i := (.invokevirtual 89, 3, 26, 0, 9, 0, 166)) (by rfl) (by rfl) (cy := mi_c26) rfl rfl (kc26_50 hG.I hG.R x2) (by decide) ?_
          intro vg6 hg6
          rcases hg6 with ⟨eg6, hg6⟩ | ⟨eg6, hg6⟩ | ⟨eg6, hg6⟩ | ⟨eg6, hg6⟩
          ·
            subst eg6
            refine ko_steps mi_in28 2 _ (55, [(0, .ref 50), (1, .int x1), (2, .int x2), (3, .int x3)], [.int x3, .int x1, .ref 51], (0, 0), ks i a q r) (by rfl) ?_
            have hJ7 := kG_a hG 51 rfl x1.toNatClampNeg (v := x3) (kd_bd _)
            refine ko_iast2 mi_in28 (l := a 51) (n := 8) (c := 8) (ax := (0, 0, 0, 0, 0)) (by rfl) (by rfl) (by rfl) (hG.I.2.1 51) rfl (oz50 z5.1) (oz60 fi_3200.2 z5.2) (h2 := ks i (ku a 51 ((a 51).set x1.toNatClampNeg x3)) q r) (by rfl) ?_
            exact ko_ret mi_in28 (by rfl) (hP  _ _ _ _ hJ7 trivial)
          ·
            subst eg6
            refine ko_steps mi_in28 2 _ (55, [(0, .ref 50), (1, .int x1), (2, .int x2), (3, .int x3)], [.int x3, .int x1, .ref 52], (0, 0), ks i a q r) (by rfl) ?_
            have hJ8 := kG_a hG 52 rfl x1.toNatClampNeg (v := x3) (kd_bd _)
            refine ko_iast2 mi_in28 (l := a 52) (n := 8) (c := 8) (ax := (0, 0, 0, 0, 0)) (by rfl) (by rfl) (by rfl) (hG.I.2.1 52) rfl (oz50 z5.1) (oz60 fi_3200.2 z5.2) (h2 := ks i (ku a 52 ((a 52).set x1.toNatClampNeg x3)) q r) (by rfl) ?_
            exact ko_ret mi_in28 (by rfl) (hP  _ _ _ _ hJ8 trivial)
          ·
            subst eg6
            refine ko_steps mi_in28 2 _ (55, [(0, .ref 50), (1, .int x1), (2, .int x2), (3, .int x3)], [.int x3, .int x1, .ref 53], (0, 0), ks i a q r) (by rfl) ?_
            have hJ9 := kG_a hG 53 rfl x1.toNatClampNeg (v := x3) (kd_bd _)
            refine ko_iast2 mi_in28 (l := a 53) (n := 8) (c := 8) (ax := (0, 0, 0, 0, 0)) (by rfl) (by rfl) (by rfl) (hG.I.2.1 53) rfl (oz50 z5.1) (oz60 fi_3200.2 z5.2) (h2 := ks i (ku a 53 ((a 53).set x1.toNatClampNeg x3)) q r) (by rfl) ?_
            exact ko_ret mi_in28 (by rfl) (hP  _ _ _ _ hJ9 trivial)
          ·
            subst eg6
            refine ko_steps mi_in28 2 _ (55, [(0, .ref 50), (1, .int x1), (2, .int x2), (3, .int x3)], [.int x3, .int x1, .ref 54], (0, 0), ks i a q r) (by rfl) ?_
            have hJ10 := kG_a hG 54 rfl x1.toNatClampNeg (v := x3) (kd_bd _)
            refine ko_iast2 mi_in28 (l := a 54) (n := 8) (c := 8) (ax := (0, 0, 0, 0, 0)) (by rfl) (by rfl) (by rfl) (hG.I.2.1 54) rfl (oz50 z5.1) (oz60 fi_3200.2 z5.2) (h2 := ks i (ku a 54 ((a 54).set x1.toNatClampNeg x3)) q r) (by rfl) ?_
            exact ko_ret mi_in28 (by rfl) (hP  _ _ _ _ hJ10 trivial)
        ·
          subst eg4
          have fi_3200 : ((0 : Int) ≤ (i 3200).toInt) ∧ ((i 3200).toInt ≤ 8) := hG.I.1 3200
          have z11 : ¬ (((0 : Int) ≤ x1.toInt) ∧ (x1.toInt < (i 3200).toInt)) := hg4
          refine ko_steps mi_in28 1 _ (56, [(0, .ref 50), (1, .int x1), (2, .int x2), (3, .int x3)], [], (0, 0), ks i a q r) (by rfl) ?_
          exact ko_ret mi_in28 (by rfl) (hP  _ _ _ _ hG trivial)
      ·
        have c12 : x2.toInt = (6 : Int32).toInt := kd_neF c; clear c
        have hJ13 := kG_i hG 3208 rfl (v := x3) (kd_bd _)
        refine ko_steps mi_in28 4 _ (56, [(0, .ref 50), (1, .int x1), (2, .int x2), (3, .int x3)], [], (0, 0), ks (ku i 3208 x3) a q r) (by rfl) ?_
        exact ko_ret mi_in28 (by rfl) (hP  _ _ _ _ hJ13 trivial)
    ·
      have c14 : x2.toInt = (5 : Int32).toInt := kd_neF c; clear c
      have hJ15 := kG_i hG 3207 rfl (v := x3) (kd_bd _)
      refine ko_steps mi_in28 4 _ (56, [(0, .ref 50), (1, .int x1), (2, .int x2), (3, .int x3)], [], (0, 0), ks (ku i 3207 x3) a q r) (by rfl) ?_
      exact ko_ret mi_in28 (by rfl) (hP  _ _ _ _ hJ15 trivial)
  ·
    have c16 : x2.toInt = (4 : Int32).toInt := kd_neF c; clear c
    have hJ17 := kG_i hG 3206 rfl (v := x3) (kd_bd _)
    refine ko_steps mi_in28 4 _ (56, [(0, .ref 50), (1, .int x1), (2, .int x2), (3, .int x3)], [], (0, 0), ks (ku i 3206 x3) a q r) (by rfl) ?_
    exact ko_ret mi_in28 (by rfl) (hP  _ _ _ _ hJ17 trivial)
def w32_50 : kW := ([3208, 3209], [55, 63], [], [])
def w32_50_L22 : kW := ([], [55], [], [])
set_option maxRecDepth 100000 in
theorem kc32_50 {i : Nat → Int32} {a : Nat → List Int32} {q : Nat → List Int64} {r : Nat → Nat} (hI : kI i a q) (hr : kr r)  : km 1 32 [.ref 50] (ks i a q r) (kVN w32_50 i a q r (fun i1 a1 q1 r1 => True)) := by
  have hG := kG_self w32_50 hI hr
  refine km_ofN (q := (mi_h32, mi_c32)) rfl (by decide) (Nat.le_of_ble_eq_true rfl) ?_
  intro P hP
  have b1 : ((-2147483648 : Int) ≤ (i 3208).toInt) ∧ ((i 3208).toInt ≤ 2147483647) := kd_bd (i 3208)
  refine ko_steps mi_in32 6 _ (9, [(0, .ref 50)], [.int ((i 3208) + 1), .int 99, .ref 50], (0, 0), ks i a q r) (by rfl) ?_
  have m3 : (((bif decide (((i 3208) + 1) < 99) then ((i 3208) + 1) else 99).toInt ≤ (99 : Int32).toInt) ∧ ((bif decide (((i 3208) + 1) < 99) then ((i 3208) + 1) else 99).toInt ≤ ((i 3208) + 1).toInt)) ∧ ((bif decide (((i 3208) + 1) < 99) then ((i 3208) + 1) else 99).toInt = (99 : Int32).toInt ∨ (bif decide (((i 3208) + 1) < 99) then ((i 3208) + 1) else 99).toInt = ((i 3208) + 1).toInt) := kd_min
  refine ko_steps mi_in32 1 _ (12, [(0, .ref 50)], [.int (bif decide (((i 3208) + 1) < 99) then ((i 3208) + 1) else 99), .ref 50], (0, 0), ks i a q r) (by rfl) ?_
  generalize (bif decide (((i 3208) + 1) < 99) then ((i 3208) + 1) else 99) = m2 at m3 ⊢
  have hJ4 := kG_i hG 3208 rfl (v := m2) (kd_bd _)
  have hJ5 := kG_i hJ4 3209 rfl (v := 0) (kd_bd _)
  refine ko_steps mi_in32 6 _ (22, [(1, .int 0), (0, .ref 50)], [], (0, 0), ks (ku (ku i 3208 m2) 3209 0) a q r) (by rfl) ?_
  have lp6 : ∀ (n : Nat) (i6 : Nat → Int32) (a6 : Nat → List Int32) (q6 : Nat → List Int64) (r6 : Nat → Nat) (l1_6 : Int32), kG w32_50_L22 (ku (ku i 3208 m2) 3209 0) a q r i6 a6 q6 r6 → (0 : Int) ≤ l1_6.toInt → ((8 - l1_6.toInt)).toNat < n → ko 1 (mi_h32, mi_c32) P (22, [(1, .int l1_6), (0, .ref 50)], [], (0, 0), ks i6 a6 q6 r6) := by
    intro n
    induction n with
    | zero =>
      intro _ _ _ _ _ _ _ hm
      exact absurd hm (Nat.not_lt_zero _)
    | succ n ih6 =>
      intro i6 a6 q6 r6 l1_6 hL6 p6_0 hm6
      refine ko_steps mi_in32 2 _ (25, [(1, .int l1_6), (0, .ref 50)], [.int 8, .int l1_6], (0, 0), ks i6 a6 q6 r6) (by rfl) ?_
      refine ko_if mi_in32 (decide (8 ≤ l1_6)) 41 28 ([(1, .int l1_6), (0, .ref 50)], [], (0, 0), ks i6 a6 q6 r6) (by rfl) (fun c => ?_) (fun c => ?_)
      ·
        have c7 : (8 : Int32).toInt ≤ l1_6.toInt := kd_le c; clear c
        have hG8 := kG_call hJ5 hL6 (by decide +kernel)
        refine ko_steps mi_in32 4 _ (47, [(1, .int l1_6), (0, .ref 50)], [.int 3, .ref 63, .int 3, .ref 63], (0, 0), ks i6 a6 q6 r6) (by rfl) ?_
        refine ko_iald2 mi_in32 (l := a6 63) (n := 5) (c := 5) (ax := (0, 0, 0, 0, 0)) (by rfl) (by rfl) (by rfl) (hG8.I.2.1 63) rfl (oz61 kn3) (oz62 kn3) ?_
        have b9 : ((-2147483648 : Int) ≤ ((a6 63).getD (3 : Int32).toNatClampNeg 0).toInt) ∧ (((a6 63).getD (3 : Int32).toNatClampNeg 0).toInt ≤ 2147483647) := kd_bd ((a6 63).getD (3 : Int32).toNatClampNeg 0)
        refine ko_steps mi_in32 2 _ (50, [(1, .int l1_6), (0, .ref 50)], [.int (((a6 63).getD (3 : Int32).toNatClampNeg 0) + 1), .int 3, .ref 63], (0, 0), ks i6 a6 q6 r6) (by rfl) ?_
        have hJ10 := kG_a hG8 63 rfl ((3 : Int32).toNatClampNeg) (v := (((a6 63).getD (3 : Int32).toNatClampNeg 0) + 1)) (kd_bd _)
        refine ko_iast2 mi_in32 (l := a6 63) (n := 5) (c := 5) (ax := (0, 0, 0, 0, 0)) (by rfl) (by rfl) (by rfl) (hG8.I.2.1 63) rfl (oz61 kn3) (oz62 kn3) (h2 := ks i6 (ku a6 63 ((a6 63).set (3 : Int32).toNatClampNeg (((a6 63).getD (3 : Int32).toNatClampNeg 0) + 1))) q6 r6) (by rfl) ?_
        exact ko_ret mi_in32 (by rfl) (hP  _ _ _ _ hJ10 trivial)
      ·
        have c11 : l1_6.toInt < (8 : Int32).toInt := kd_leF c; clear c
        refine ko_steps mi_in32 4 _ (34, [(1, .int l1_6), (0, .ref 50)], [.int 0, .int l1_6, .ref 55], (0, 0), ks i6 a6 q6 r6) (by rfl) ?_
        have hJ12 := kG_a hL6 55 rfl l1_6.toNatClampNeg (v := 0) (kd_bd _)
        refine ko_iast2 mi_in32 (l := a6 55) (n := 8) (c := 8) (ax := (0, 0, 0, 0, 0)) (by rfl) (by rfl) (by rfl) (hL6.I.2.1 55) rfl (oz50 p6_0) (oz51 c11 kn8) (h2 := ks i6 (ku a6 55 ((a6 55).set l1_6.toNatClampNeg 0)) q6 r6) (by rfl) ?_
        have s13 : (l1_6 + 1).toInt = l1_6.toInt + (1 : Int32).toInt := kd_add (oz52 p6_0 kn1) (oz63 c11 kn8 kn1)
        refine ko_steps mi_in32 2 _ (22, [(1, .int (l1_6 + 1)), (0, .ref 50)], [], (0, 0), ks i6 (ku a6 55 ((a6 55).set l1_6.toNatClampNeg 0)) q6 r6) (by rfl) ?_
        exact ih6 _ _ _ _ _ hJ12 (oz54 p6_0 s13 kn1) (kj_meas (oz64 s13 kn1) (oz65 c11 kn8) hm6)
  exact lp6 _ _ _ _ _ _ (kG_self _ hJ5.I hJ5.R) (oz66 kn0) (Nat.lt_succ_self _)
def w1_7 : kW := ([450], [8, 9], [], [])
set_option maxRecDepth 100000 in
theorem kc1_7 {i : Nat → Int32} {a : Nat → List Int32} {q : Nat → List Int64} {r : Nat → Nat} (hI : kI i a q) (hr : kr r) (x1 : Int32) (x2 : Int32) : km 1 1 [.ref 7, .int x1, .int x2] (ks i a q r) (kVN w1_7 i a q r (fun i1 a1 q1 r1 => True)) := by
  have hG := kG_self w1_7 hI hr
  refine km_ofN (q := (mi_h1, mi_c1)) rfl (by decide) (Nat.le_of_ble_eq_true rfl) ?_
  intro P hP
  have fi_450 : ((0 : Int) ≤ (i 450).toInt) ∧ ((i 450).toInt ≤ 5) := hG.I.1 450
  refine ko_steps mi_in1 3 _ (5, [(0, .ref 7), (1, .int x1), (2, .int x2)], [.int 5, .int (i 450)], (0, 0), ks i a q r) (by rfl) ?_
  refine ko_if mi_in1 (decide (5 ≤ (i 450))) 38 8 ([(0, .ref 7), (1, .int x1), (2, .int x2)], [], (0, 0), ks i a q r) (by rfl) (fun c => ?_) (fun c => ?_)
  ·
    have c1 : (5 : Int32).toInt ≤ (i 450).toInt := kd_le c; clear c
    exact ko_ret mi_in1 (by rfl) (hP  _ _ _ _ hG trivial)
  ·
    have c2 : (i 450).toInt < (5 : Int32).toInt := kd_leF c; clear c
    refine ko_steps mi_in1 5 _ (17, [(0, .ref 7), (1, .int x1), (2, .int x2)], [.int x1, .int (i 450), .ref 8], (0, 0), ks i a q r) (by rfl) ?_
    have hJ3 := kG_a hG 8 rfl ((i 450).toNatClampNeg) (v := x1) (kd_bd _)
    refine ko_iast2 mi_in1 (l := a 8) (n := 5) (c := 5) (ax := (0, 0, 0, 0, 0)) (by rfl) (by rfl) (by rfl) (hG.I.2.1 8) rfl (oz50 fi_450.1) (oz67 c2 kn5) (h2 := ks i (ku a 8 ((a 8).set (i 450).toNatClampNeg x1)) q r) (by rfl) ?_
    refine ko_steps mi_in1 5 _ (27, [(0, .ref 7), (1, .int x1), (2, .int x2)], [.int x2, .int (i 450), .ref 9], (0, 0), ks i (ku a 8 ((a 8).set (i 450).toNatClampNeg x1)) q r) (by rfl) ?_
    have hJ4 := kG_a hJ3 9 rfl ((i 450).toNatClampNeg) (v := x2) (kd_bd _)
    refine ko_iast2 mi_in1 (l := a 9) (n := 5) (c := 5) (ax := (0, 0, 0, 0, 0)) (by rfl) (by rfl) (by rfl) (hJ3.I.2.1 9) rfl (oz50 fi_450.1) (oz67 c2 kn5) (h2 := ks i (ku (ku a 8 ((a 8).set (i 450).toNatClampNeg x1)) 9 ((a 9).set (i 450).toNatClampNeg x2)) q r) (by rfl) ?_
    have s5 : ((i 450) + 1).toInt = (i 450).toInt + (1 : Int32).toInt := kd_add (oz52 fi_450.1 kn1) (oz68 fi_450.2 kn1)
    have hJ6 := kG_i hJ4 450 rfl (v := ((i 450) + 1)) ⟨(oz54 fi_450.1 s5 kn1), (oz69 c2 s5 kn5 kn1)⟩
    refine ko_steps mi_in1 6 _ (38, [(0, .ref 7), (1, .int x1), (2, .int x2)], [], (0, 0), ks (ku i 450 ((i 450) + 1)) (ku (ku a 8 ((a 8).set (i 450).toNatClampNeg x1)) 9 ((a 9).set (i 450).toNatClampNeg x2)) q r) (by rfl) ?_
    exact ko_ret mi_in1 (by rfl) (hP  _ _ _ _ hJ6 trivial)
def w2_7 : kW := ([450], [8, 9], [], [])
set_option maxRecDepth 100000 in
theorem kc2_7 {i : Nat → Int32} {a : Nat → List Int32} {q : Nat → List Int64} {r : Nat → Nat} (hI : kI i a q) (hr : kr r)  : km 1 2 [.ref 7] (ks i a q r) (kVN w2_7 i a q r (fun i1 a1 q1 r1 => True)) := by
  have hG := kG_self w2_7 hI hr
  refine km_ofN (q := (mi_h2, mi_c2)) rfl (by decide) (Nat.le_of_ble_eq_true rfl) ?_
  intro P hP
  have fi_450 : ((0 : Int) ≤ (i 450).toInt) ∧ ((i 450).toInt ≤ 5) := hG.I.1 450
  refine ko_steps mi_in2 2 _ (4, [(0, .ref 7)], [.int (i 450)], (0, 0), ks i a q r) (by rfl) ?_
  refine ko_if mi_in2 (decide ((i 450) ≤ 0)) 51 7 ([(0, .ref 7)], [], (0, 0), ks i a q r) (by rfl) (fun c => ?_) (fun c => ?_)
  ·
    have c1 : (i 450).toInt ≤ (0 : Int32).toInt := kd_le c; clear c
    exact ko_ret mi_in2 (by rfl) (hP  _ _ _ _ hG trivial)
  ·
    have c2 : (0 : Int32).toInt < (i 450).toInt := kd_leF c; clear c
    have s3 : ((i 450) - 1).toInt = (i 450).toInt - (1 : Int32).toInt := kd_sub (oz70 c2 kn0 kn1) (oz71 fi_450.2 kn1)
    have hJ4 := kG_i hG 450 rfl (v := ((i 450) - 1)) ⟨(oz72 c2 s3 kn0 kn1), (oz73 fi_450.2 s3 kn1)⟩
    refine ko_steps mi_in2 14 _ (31, [(0, .ref 7)], [.int ((i 450) - 1), .int 0, .ref 8, .int 1, .ref 8], (0, 0), ks (ku i 450 ((i 450) - 1)) a q r) (by rfl) ?_
    have hJ5 := kG_al hJ4 8 rfl (l := mi_cpy (a 8) (a 8) ((1 : Int32).toNatClampNeg) ((0 : Int32).toNatClampNeg) (((i 450) - 1).toNatClampNeg)) (kcpy_len2 (n := 5) (c := 5) (m := 5) (b := 5) (sp := 1) (dp := 0) (n1 := ((i 450) - 1)) (hJ4.I.2.1 8) rfl (hJ4.I.2.1 8) rfl (oz72 c2 s3 kn0 kn1) (oz74 kn1) (oz66 kn0) (oz75 fi_450.2 s3 kn1) (oz76 fi_450.2 s3 kn1 kn0)) (fun _ => kd_bd _)
    refine ko_copyI2 mi_in2 (l := a 8) (g := a 8) (n := 5) (c := 5) (m := 5) (b := 5) (by rfl) (by rfl) (by rfl) (by rfl) (by rfl) (by rfl) (hJ4.I.2.1 8) rfl (hJ4.I.2.1 8) rfl (oz72 c2 s3 kn0 kn1) (oz74 kn1) (oz66 kn0) (oz75 fi_450.2 s3 kn1) (oz76 fi_450.2 s3 kn1 kn0) (h5 := ks (ku i 450 ((i 450) - 1)) (ku a 8 (mi_cpy (a 8) (a 8) ((1 : Int32).toNatClampNeg) ((0 : Int32).toNatClampNeg) (((i 450) - 1).toNatClampNeg))) q r) (by rfl) ?_
    refine ko_steps mi_in2 8 _ (48, [(0, .ref 7)], [.int ((i 450) - 1), .int 0, .ref 9, .int 1, .ref 9], (0, 0), ks (ku i 450 ((i 450) - 1)) (ku a 8 (mi_cpy (a 8) (a 8) ((1 : Int32).toNatClampNeg) ((0 : Int32).toNatClampNeg) (((i 450) - 1).toNatClampNeg))) q r) (by rfl) ?_
    have hJ6 := kG_al hJ5 9 rfl (l := mi_cpy (a 9) (a 9) ((1 : Int32).toNatClampNeg) ((0 : Int32).toNatClampNeg) (((i 450) - 1).toNatClampNeg)) (kcpy_len2 (n := 5) (c := 5) (m := 5) (b := 5) (sp := 1) (dp := 0) (n1 := ((i 450) - 1)) (hJ5.I.2.1 9) rfl (hJ5.I.2.1 9) rfl (oz72 c2 s3 kn0 kn1) (oz74 kn1) (oz66 kn0) (oz75 fi_450.2 s3 kn1) (oz76 fi_450.2 s3 kn1 kn0)) (fun _ => kd_bd _)
    refine ko_copyI2 mi_in2 (l := a 9) (g := a 9) (n := 5) (c := 5) (m := 5) (b := 5) (by rfl) (by rfl) (by rfl) (by rfl) (by rfl) (by rfl) (hJ5.I.2.1 9) rfl (hJ5.I.2.1 9) rfl (oz72 c2 s3 kn0 kn1) (oz74 kn1) (oz66 kn0) (oz75 fi_450.2 s3 kn1) (oz76 fi_450.2 s3 kn1 kn0) (h5 := ks (ku i 450 ((i 450) - 1)) (ku (ku a 8 (mi_cpy (a 8) (a 8) ((1 : Int32).toNatClampNeg) ((0 : Int32).toNatClampNeg) (((i 450) - 1).toNatClampNeg))) 9 (mi_cpy (a 9) (a 9) ((1 : Int32).toNatClampNeg) ((0 : Int32).toNatClampNeg) (((i 450) - 1).toNatClampNeg))) q r) (by rfl) ?_
    exact ko_ret mi_in2 (by rfl) (hP  _ _ _ _ hJ6 trivial)
def w1_56 : kW := ([3586], [57, 58], [], [])
set_option maxRecDepth 100000 in
theorem kc1_56 {i : Nat → Int32} {a : Nat → List Int32} {q : Nat → List Int64} {r : Nat → Nat} (hI : kI i a q) (hr : kr r) (x1 : Int32) (x2 : Int32) : km 1 1 [.ref 56, .int x1, .int x2] (ks i a q r) (kVN w1_56 i a q r (fun i1 a1 q1 r1 => True)) := by
  have hG := kG_self w1_56 hI hr
  refine km_ofN (q := (mi_h1, mi_c1)) rfl (by decide) (Nat.le_of_ble_eq_true rfl) ?_
  intro P hP
  have fi_3586 : ((0 : Int) ≤ (i 3586).toInt) ∧ ((i 3586).toInt ≤ 5) := hG.I.1 3586
  refine ko_steps mi_in1 3 _ (5, [(0, .ref 56), (1, .int x1), (2, .int x2)], [.int 5, .int (i 3586)], (0, 0), ks i a q r) (by rfl) ?_
  refine ko_if mi_in1 (decide (5 ≤ (i 3586))) 38 8 ([(0, .ref 56), (1, .int x1), (2, .int x2)], [], (0, 0), ks i a q r) (by rfl) (fun c => ?_) (fun c => ?_)
  ·
    have c1 : (5 : Int32).toInt ≤ (i 3586).toInt := kd_le c; clear c
    exact ko_ret mi_in1 (by rfl) (hP  _ _ _ _ hG trivial)
  ·
    have c2 : (i 3586).toInt < (5 : Int32).toInt := kd_leF c; clear c
    refine ko_steps mi_in1 5 _ (17, [(0, .ref 56), (1, .int x1), (2, .int x2)], [.int x1, .int (i 3586), .ref 57], (0, 0), ks i a q r) (by rfl) ?_
    have hJ3 := kG_a hG 57 rfl ((i 3586).toNatClampNeg) (v := x1) (kd_bd _)
    refine ko_iast2 mi_in1 (l := a 57) (n := 5) (c := 5) (ax := (0, 0, 0, 0, 0)) (by rfl) (by rfl) (by rfl) (hG.I.2.1 57) rfl (oz50 fi_3586.1) (oz67 c2 kn5) (h2 := ks i (ku a 57 ((a 57).set (i 3586).toNatClampNeg x1)) q r) (by rfl) ?_
    refine ko_steps mi_in1 5 _ (27, [(0, .ref 56), (1, .int x1), (2, .int x2)], [.int x2, .int (i 3586), .ref 58], (0, 0), ks i (ku a 57 ((a 57).set (i 3586).toNatClampNeg x1)) q r) (by rfl) ?_
    have hJ4 := kG_a hJ3 58 rfl ((i 3586).toNatClampNeg) (v := x2) (kd_bd _)
    refine ko_iast2 mi_in1 (l := a 58) (n := 5) (c := 5) (ax := (0, 0, 0, 0, 0)) (by rfl) (by rfl) (by rfl) (hJ3.I.2.1 58) rfl (oz50 fi_3586.1) (oz67 c2 kn5) (h2 := ks i (ku (ku a 57 ((a 57).set (i 3586).toNatClampNeg x1)) 58 ((a 58).set (i 3586).toNatClampNeg x2)) q r) (by rfl) ?_
    have s5 : ((i 3586) + 1).toInt = (i 3586).toInt + (1 : Int32).toInt := kd_add (oz52 fi_3586.1 kn1) (oz68 fi_3586.2 kn1)
    have hJ6 := kG_i hJ4 3586 rfl (v := ((i 3586) + 1)) ⟨(oz54 fi_3586.1 s5 kn1), (oz69 c2 s5 kn5 kn1)⟩
    refine ko_steps mi_in1 6 _ (38, [(0, .ref 56), (1, .int x1), (2, .int x2)], [], (0, 0), ks (ku i 3586 ((i 3586) + 1)) (ku (ku a 57 ((a 57).set (i 3586).toNatClampNeg x1)) 58 ((a 58).set (i 3586).toNatClampNeg x2)) q r) (by rfl) ?_
    exact ko_ret mi_in1 (by rfl) (hP  _ _ _ _ hJ6 trivial)
def w2_56 : kW := ([3586], [57, 58], [], [])
set_option maxRecDepth 100000 in
theorem kc2_56 {i : Nat → Int32} {a : Nat → List Int32} {q : Nat → List Int64} {r : Nat → Nat} (hI : kI i a q) (hr : kr r)  : km 1 2 [.ref 56] (ks i a q r) (kVN w2_56 i a q r (fun i1 a1 q1 r1 => True)) := by
  have hG := kG_self w2_56 hI hr
  refine km_ofN (q := (mi_h2, mi_c2)) rfl (by decide) (Nat.le_of_ble_eq_true rfl) ?_
  intro P hP
  have fi_3586 : ((0 : Int) ≤ (i 3586).toInt) ∧ ((i 3586).toInt ≤ 5) := hG.I.1 3586
  refine ko_steps mi_in2 2 _ (4, [(0, .ref 56)], [.int (i 3586)], (0, 0), ks i a q r) (by rfl) ?_
  refine ko_if mi_in2 (decide ((i 3586) ≤ 0)) 51 7 ([(0, .ref 56)], [], (0, 0), ks i a q r) (by rfl) (fun c => ?_) (fun c => ?_)
  ·
    have c1 : (i 3586).toInt ≤ (0 : Int32).toInt := kd_le c; clear c
    exact ko_ret mi_in2 (by rfl) (hP  _ _ _ _ hG trivial)
  ·
    have c2 : (0 : Int32).toInt < (i 3586).toInt := kd_leF c; clear c
    have s3 : ((i 3586) - 1).toInt = (i 3586).toInt - (1 : Int32).toInt := kd_sub (oz70 c2 kn0 kn1) (oz71 fi_3586.2 kn1)
    have hJ4 := kG_i hG 3586 rfl (v := ((i 3586) - 1)) ⟨(oz72 c2 s3 kn0 kn1), (oz73 fi_3586.2 s3 kn1)⟩
    refine ko_steps mi_in2 14 _ (31, [(0, .ref 56)], [.int ((i 3586) - 1), .int 0, .ref 57, .int 1, .ref 57], (0, 0), ks (ku i 3586 ((i 3586) - 1)) a q r) (by rfl) ?_
    have hJ5 := kG_al hJ4 57 rfl (l := mi_cpy (a 57) (a 57) ((1 : Int32).toNatClampNeg) ((0 : Int32).toNatClampNeg) (((i 3586) - 1).toNatClampNeg)) (kcpy_len2 (n := 5) (c := 5) (m := 5) (b := 5) (sp := 1) (dp := 0) (n1 := ((i 3586) - 1)) (hJ4.I.2.1 57) rfl (hJ4.I.2.1 57) rfl (oz72 c2 s3 kn0 kn1) (oz74 kn1) (oz66 kn0) (oz75 fi_3586.2 s3 kn1) (oz76 fi_3586.2 s3 kn1 kn0)) (fun _ => kd_bd _)
    refine ko_copyI2 mi_in2 (l := a 57) (g := a 57) (n := 5) (c := 5) (m := 5) (b := 5) (by rfl) (by rfl) (by rfl) (by rfl) (by rfl) (by rfl) (hJ4.I.2.1 57) rfl (hJ4.I.2.1 57) rfl (oz72 c2 s3 kn0 kn1) (oz74 kn1) (oz66 kn0) (oz75 fi_3586.2 s3 kn1) (oz76 fi_3586.2 s3 kn1 kn0) (h5 := ks (ku i 3586 ((i 3586) - 1)) (ku a 57 (mi_cpy (a 57) (a 57) ((1 : Int32).toNatClampNeg) ((0 : Int32).toNatClampNeg) (((i 3586) - 1).toNatClampNeg))) q r) (by rfl) ?_
    refine ko_steps mi_in2 8 _ (48, [(0, .ref 56)], [.int ((i 3586) - 1), .int 0, .ref 58, .int 1, .ref 58], (0, 0), ks (ku i 3586 ((i 3586) - 1)) (ku a 57 (mi_cpy (a 57) (a 57) ((1 : Int32).toNatClampNeg) ((0 : Int32).toNatClampNeg) (((i 3586) - 1).toNatClampNeg))) q r) (by rfl) ?_
    have hJ6 := kG_al hJ5 58 rfl (l := mi_cpy (a 58) (a 58) ((1 : Int32).toNatClampNeg) ((0 : Int32).toNatClampNeg) (((i 3586) - 1).toNatClampNeg)) (kcpy_len2 (n := 5) (c := 5) (m := 5) (b := 5) (sp := 1) (dp := 0) (n1 := ((i 3586) - 1)) (hJ5.I.2.1 58) rfl (hJ5.I.2.1 58) rfl (oz72 c2 s3 kn0 kn1) (oz74 kn1) (oz66 kn0) (oz75 fi_3586.2 s3 kn1) (oz76 fi_3586.2 s3 kn1 kn0)) (fun _ => kd_bd _)
    refine ko_copyI2 mi_in2 (l := a 58) (g := a 58) (n := 5) (c := 5) (m := 5) (b := 5) (by rfl) (by rfl) (by rfl) (by rfl) (by rfl) (by rfl) (hJ5.I.2.1 58) rfl (hJ5.I.2.1 58) rfl (oz72 c2 s3 kn0 kn1) (oz74 kn1) (oz66 kn0) (oz75 fi_3586.2 s3 kn1) (oz76 fi_3586.2 s3 kn1 kn0) (h5 := ks (ku i 3586 ((i 3586) - 1)) (ku (ku a 57 (mi_cpy (a 57) (a 57) ((1 : Int32).toNatClampNeg) ((0 : Int32).toNatClampNeg) (((i 3586) - 1).toNatClampNeg))) 58 (mi_cpy (a 58) (a 58) ((1 : Int32).toNatClampNeg) ((0 : Int32).toNatClampNeg) (((i 3586) - 1).toNatClampNeg))) q r) (by rfl) ?_
    exact ko_ret mi_in2 (by rfl) (hP  _ _ _ _ hJ6 trivial)
def w3_56_7 : kW := ([3586], [57, 58], [], [])
set_option maxRecDepth 100000 in
theorem kc3_56_7 {i : Nat → Int32} {a : Nat → List Int32} {q : Nat → List Int64} {r : Nat → Nat} (hI : kI i a q) (hr : kr r)  : km 1 3 [.ref 56, .ref 7] (ks i a q r) (kVN w3_56_7 i a q r (fun i1 a1 q1 r1 => True)) := by
  have hG := kG_self w3_56_7 hI hr
  refine km_ofN (q := (mi_h3, mi_c3)) rfl (by decide) (Nat.le_of_ble_eq_true rfl) ?_
  intro P hP
  refine ko_steps mi_in3 7 _ (11, [(0, .ref 56), (1, .ref 7)], [.int 5, .int 0, .ref 57, .int 0, .ref 8], (0, 0), ks i a q r) (by rfl) ?_
  have hJ1 := kG_al hG 57 rfl (l := mi_cpy (a 8) (a 57) ((0 : Int32).toNatClampNeg) ((0 : Int32).toNatClampNeg) ((5 : Int32).toNatClampNeg)) (kcpy_len2 (n := 5) (c := 5) (m := 5) (b := 5) (sp := 0) (dp := 0) (n1 := 5) (hG.I.2.1 8) rfl (hG.I.2.1 57) rfl (oz77 kn5) (oz66 kn0) (oz66 kn0) (oz78 kn0 kn5) (oz78 kn0 kn5)) (fun _ => kd_bd _)
  refine ko_copyI2 mi_in3 (l := a 8) (g := a 57) (n := 5) (c := 5) (m := 5) (b := 5) (by rfl) (by rfl) (by rfl) (by rfl) (by rfl) (by rfl) (hG.I.2.1 8) rfl (hG.I.2.1 57) rfl (oz77 kn5) (oz66 kn0) (oz66 kn0) (oz78 kn0 kn5) (oz78 kn0 kn5) (h5 := ks i (ku a 57 (mi_cpy (a 8) (a 57) ((0 : Int32).toNatClampNeg) ((0 : Int32).toNatClampNeg) ((5 : Int32).toNatClampNeg))) q r) (by rfl) ?_
  refine ko_steps mi_in3 7 _ (25, [(0, .ref 56), (1, .ref 7)], [.int 5, .int 0, .ref 58, .int 0, .ref 9], (0, 0), ks i (ku a 57 (mi_cpy (a 8) (a 57) ((0 : Int32).toNatClampNeg) ((0 : Int32).toNatClampNeg) ((5 : Int32).toNatClampNeg))) q r) (by rfl) ?_
  have hJ2 := kG_al hJ1 58 rfl (l := mi_cpy (a 9) (a 58) ((0 : Int32).toNatClampNeg) ((0 : Int32).toNatClampNeg) ((5 : Int32).toNatClampNeg)) (kcpy_len2 (n := 5) (c := 5) (m := 5) (b := 5) (sp := 0) (dp := 0) (n1 := 5) (hJ1.I.2.1 9) rfl (hJ1.I.2.1 58) rfl (oz77 kn5) (oz66 kn0) (oz66 kn0) (oz78 kn0 kn5) (oz78 kn0 kn5)) (fun _ => kd_bd _)
  refine ko_copyI2 mi_in3 (l := a 9) (g := a 58) (n := 5) (c := 5) (m := 5) (b := 5) (by rfl) (by rfl) (by rfl) (by rfl) (by rfl) (by rfl) (hJ1.I.2.1 9) rfl (hJ1.I.2.1 58) rfl (oz77 kn5) (oz66 kn0) (oz66 kn0) (oz78 kn0 kn5) (oz78 kn0 kn5) (h5 := ks i (ku (ku a 57 (mi_cpy (a 8) (a 57) ((0 : Int32).toNatClampNeg) ((0 : Int32).toNatClampNeg) ((5 : Int32).toNatClampNeg))) 58 (mi_cpy (a 9) (a 58) ((0 : Int32).toNatClampNeg) ((0 : Int32).toNatClampNeg) ((5 : Int32).toNatClampNeg))) q r) (by rfl) ?_
  have fi_450 : ((0 : Int) ≤ (i 450).toInt) ∧ ((i 450).toInt ≤ 5) := hJ2.I.1 450
  have hJ3 := kG_i hJ2 3586 rfl (v := (i 450)) ⟨(oz50 fi_450.1), (oz79 fi_450.2)⟩
  refine ko_steps mi_in3 4 _ (36, [(0, .ref 56), (1, .ref 7)], [], (0, 0), ks (ku i 3586 (i 450)) (ku (ku a 57 (mi_cpy (a 8) (a 57) ((0 : Int32).toNatClampNeg) ((0 : Int32).toNatClampNeg) ((5 : Int32).toNatClampNeg))) 58 (mi_cpy (a 9) (a 58) ((0 : Int32).toNatClampNeg) ((0 : Int32).toNatClampNeg) ((5 : Int32).toNatClampNeg))) q r) (by rfl) ?_
  exact ko_ret mi_in3 (by rfl) (hP  _ _ _ _ hJ3 trivial)
def w3_31_7 : kW := ([1986], [32, 33], [], [])
set_option maxRecDepth 100000 in
theorem kc3_31_7 {i : Nat → Int32} {a : Nat → List Int32} {q : Nat → List Int64} {r : Nat → Nat} (hI : kI i a q) (hr : kr r)  : km 1 3 [.ref 31, .ref 7] (ks i a q r) (kVN w3_31_7 i a q r (fun i1 a1 q1 r1 => True)) := by
  have hG := kG_self w3_31_7 hI hr
  refine km_ofN (q := (mi_h3, mi_c3)) rfl (by decide) (Nat.le_of_ble_eq_true rfl) ?_
  intro P hP
  refine ko_steps mi_in3 7 _ (11, [(0, .ref 31), (1, .ref 7)], [.int 5, .int 0, .ref 32, .int 0, .ref 8], (0, 0), ks i a q r) (by rfl) ?_
  have hJ1 := kG_al hG 32 rfl (l := mi_cpy (a 8) (a 32) ((0 : Int32).toNatClampNeg) ((0 : Int32).toNatClampNeg) ((5 : Int32).toNatClampNeg)) (kcpy_len2 (n := 5) (c := 5) (m := 5) (b := 5) (sp := 0) (dp := 0) (n1 := 5) (hG.I.2.1 8) rfl (hG.I.2.1 32) rfl (oz77 kn5) (oz66 kn0) (oz66 kn0) (oz78 kn0 kn5) (oz78 kn0 kn5)) (fun _ => kd_bd _)
  refine ko_copyI2 mi_in3 (l := a 8) (g := a 32) (n := 5) (c := 5) (m := 5) (b := 5) (by rfl) (by rfl) (by rfl) (by rfl) (by rfl) (by rfl) (hG.I.2.1 8) rfl (hG.I.2.1 32) rfl (oz77 kn5) (oz66 kn0) (oz66 kn0) (oz78 kn0 kn5) (oz78 kn0 kn5) (h5 := ks i (ku a 32 (mi_cpy (a 8) (a 32) ((0 : Int32).toNatClampNeg) ((0 : Int32).toNatClampNeg) ((5 : Int32).toNatClampNeg))) q r) (by rfl) ?_
  refine ko_steps mi_in3 7 _ (25, [(0, .ref 31), (1, .ref 7)], [.int 5, .int 0, .ref 33, .int 0, .ref 9], (0, 0), ks i (ku a 32 (mi_cpy (a 8) (a 32) ((0 : Int32).toNatClampNeg) ((0 : Int32).toNatClampNeg) ((5 : Int32).toNatClampNeg))) q r) (by rfl) ?_
  have hJ2 := kG_al hJ1 33 rfl (l := mi_cpy (a 9) (a 33) ((0 : Int32).toNatClampNeg) ((0 : Int32).toNatClampNeg) ((5 : Int32).toNatClampNeg)) (kcpy_len2 (n := 5) (c := 5) (m := 5) (b := 5) (sp := 0) (dp := 0) (n1 := 5) (hJ1.I.2.1 9) rfl (hJ1.I.2.1 33) rfl (oz77 kn5) (oz66 kn0) (oz66 kn0) (oz78 kn0 kn5) (oz78 kn0 kn5)) (fun _ => kd_bd _)
  refine ko_copyI2 mi_in3 (l := a 9) (g := a 33) (n := 5) (c := 5) (m := 5) (b := 5) (by rfl) (by rfl) (by rfl) (by rfl) (by rfl) (by rfl) (hJ1.I.2.1 9) rfl (hJ1.I.2.1 33) rfl (oz77 kn5) (oz66 kn0) (oz66 kn0) (oz78 kn0 kn5) (oz78 kn0 kn5) (h5 := ks i (ku (ku a 32 (mi_cpy (a 8) (a 32) ((0 : Int32).toNatClampNeg) ((0 : Int32).toNatClampNeg) ((5 : Int32).toNatClampNeg))) 33 (mi_cpy (a 9) (a 33) ((0 : Int32).toNatClampNeg) ((0 : Int32).toNatClampNeg) ((5 : Int32).toNatClampNeg))) q r) (by rfl) ?_
  have fi_450 : ((0 : Int) ≤ (i 450).toInt) ∧ ((i 450).toInt ≤ 5) := hJ2.I.1 450
  have hJ3 := kG_i hJ2 1986 rfl (v := (i 450)) ⟨(oz50 fi_450.1), (oz79 fi_450.2)⟩
  refine ko_steps mi_in3 4 _ (36, [(0, .ref 31), (1, .ref 7)], [], (0, 0), ks (ku i 1986 (i 450)) (ku (ku a 32 (mi_cpy (a 8) (a 32) ((0 : Int32).toNatClampNeg) ((0 : Int32).toNatClampNeg) ((5 : Int32).toNatClampNeg))) 33 (mi_cpy (a 9) (a 33) ((0 : Int32).toNatClampNeg) ((0 : Int32).toNatClampNeg) ((5 : Int32).toNatClampNeg))) q r) (by rfl) ?_
  exact ko_ret mi_in3 (by rfl) (hP  _ _ _ _ hJ3 trivial)
def w3_7_31 : kW := ([450], [8, 9], [], [])
set_option maxRecDepth 100000 in
theorem kc3_7_31 {i : Nat → Int32} {a : Nat → List Int32} {q : Nat → List Int64} {r : Nat → Nat} (hI : kI i a q) (hr : kr r)  : km 1 3 [.ref 7, .ref 31] (ks i a q r) (kVN w3_7_31 i a q r (fun i1 a1 q1 r1 => True)) := by
  have hG := kG_self w3_7_31 hI hr
  refine km_ofN (q := (mi_h3, mi_c3)) rfl (by decide) (Nat.le_of_ble_eq_true rfl) ?_
  intro P hP
  refine ko_steps mi_in3 7 _ (11, [(0, .ref 7), (1, .ref 31)], [.int 5, .int 0, .ref 8, .int 0, .ref 32], (0, 0), ks i a q r) (by rfl) ?_
  have hJ1 := kG_al hG 8 rfl (l := mi_cpy (a 32) (a 8) ((0 : Int32).toNatClampNeg) ((0 : Int32).toNatClampNeg) ((5 : Int32).toNatClampNeg)) (kcpy_len2 (n := 5) (c := 5) (m := 5) (b := 5) (sp := 0) (dp := 0) (n1 := 5) (hG.I.2.1 32) rfl (hG.I.2.1 8) rfl (oz77 kn5) (oz66 kn0) (oz66 kn0) (oz78 kn0 kn5) (oz78 kn0 kn5)) (fun _ => kd_bd _)
  refine ko_copyI2 mi_in3 (l := a 32) (g := a 8) (n := 5) (c := 5) (m := 5) (b := 5) (by rfl) (by rfl) (by rfl) (by rfl) (by rfl) (by rfl) (hG.I.2.1 32) rfl (hG.I.2.1 8) rfl (oz77 kn5) (oz66 kn0) (oz66 kn0) (oz78 kn0 kn5) (oz78 kn0 kn5) (h5 := ks i (ku a 8 (mi_cpy (a 32) (a 8) ((0 : Int32).toNatClampNeg) ((0 : Int32).toNatClampNeg) ((5 : Int32).toNatClampNeg))) q r) (by rfl) ?_
  refine ko_steps mi_in3 7 _ (25, [(0, .ref 7), (1, .ref 31)], [.int 5, .int 0, .ref 9, .int 0, .ref 33], (0, 0), ks i (ku a 8 (mi_cpy (a 32) (a 8) ((0 : Int32).toNatClampNeg) ((0 : Int32).toNatClampNeg) ((5 : Int32).toNatClampNeg))) q r) (by rfl) ?_
  have hJ2 := kG_al hJ1 9 rfl (l := mi_cpy (a 33) (a 9) ((0 : Int32).toNatClampNeg) ((0 : Int32).toNatClampNeg) ((5 : Int32).toNatClampNeg)) (kcpy_len2 (n := 5) (c := 5) (m := 5) (b := 5) (sp := 0) (dp := 0) (n1 := 5) (hJ1.I.2.1 33) rfl (hJ1.I.2.1 9) rfl (oz77 kn5) (oz66 kn0) (oz66 kn0) (oz78 kn0 kn5) (oz78 kn0 kn5)) (fun _ => kd_bd _)
  refine ko_copyI2 mi_in3 (l := a 33) (g := a 9) (n := 5) (c := 5) (m := 5) (b := 5) (by rfl) (by rfl) (by rfl) (by rfl) (by rfl) (by rfl) (hJ1.I.2.1 33) rfl (hJ1.I.2.1 9) rfl (oz77 kn5) (oz66 kn0) (oz66 kn0) (oz78 kn0 kn5) (oz78 kn0 kn5) (h5 := ks i (ku (ku a 8 (mi_cpy (a 32) (a 8) ((0 : Int32).toNatClampNeg) ((0 : Int32).toNatClampNeg) ((5 : Int32).toNatClampNeg))) 9 (mi_cpy (a 33) (a 9) ((0 : Int32).toNatClampNeg) ((0 : Int32).toNatClampNeg) ((5 : Int32).toNatClampNeg))) q r) (by rfl) ?_
  have fi_1986 : ((0 : Int) ≤ (i 1986).toInt) ∧ ((i 1986).toInt ≤ 5) := hJ2.I.1 1986
  have hJ3 := kG_i hJ2 450 rfl (v := (i 1986)) ⟨(oz50 fi_1986.1), (oz79 fi_1986.2)⟩
  refine ko_steps mi_in3 4 _ (36, [(0, .ref 7), (1, .ref 31)], [], (0, 0), ks (ku i 450 (i 1986)) (ku (ku a 8 (mi_cpy (a 32) (a 8) ((0 : Int32).toNatClampNeg) ((0 : Int32).toNatClampNeg) ((5 : Int32).toNatClampNeg))) 9 (mi_cpy (a 33) (a 9) ((0 : Int32).toNatClampNeg) ((0 : Int32).toNatClampNeg) ((5 : Int32).toNatClampNeg))) q r) (by rfl) ?_
  exact ko_ret mi_in3 (by rfl) (hP  _ _ _ _ hJ3 trivial)
def w19_10 : kW := ([645], [13], [], [])
set_option maxRecDepth 100000 in
theorem kc19_10 {i : Nat → Int32} {a : Nat → List Int32} {q : Nat → List Int64} {r : Nat → Nat} (hI : kI i a q) (hr : kr r) (x1 : Int32) : km 1 19 [.ref 10, .int x1] (ks i a q r) (kVN w19_10 i a q r (fun i1 a1 q1 r1 => True)) := by
  have hG := kG_self w19_10 hI hr
  refine km_ofN (q := (mi_h19, mi_c19)) rfl (by decide) (Nat.le_of_ble_eq_true rfl) ?_
  intro P hP
  have fi_645 : ((0 : Int) ≤ (i 645).toInt) ∧ ((i 645).toInt ≤ 121) := hG.I.1 645
  refine ko_steps mi_in19 3 _ (6, [(0, .ref 10), (1, .int x1)], [.int 121, .int (i 645)], (0, 0), ks i a q r) (by rfl) ?_
  refine ko_if mi_in19 (decide (121 ≤ (i 645))) 29 9 ([(0, .ref 10), (1, .int x1)], [], (0, 0), ks i a q r) (by rfl) (fun c => ?_) (fun c => ?_)
  ·
    have c1 : (121 : Int32).toInt ≤ (i 645).toInt := kd_le c; clear c
    exact ko_ret mi_in19 (by rfl) (hP  _ _ _ _ hG trivial)
  ·
    have c2 : (i 645).toInt < (121 : Int32).toInt := kd_leF c; clear c
    refine ko_steps mi_in19 5 _ (18, [(0, .ref 10), (1, .int x1)], [.int x1, .int (i 645), .ref 13], (0, 0), ks i a q r) (by rfl) ?_
    have hJ3 := kG_a hG 13 rfl ((i 645).toNatClampNeg) (v := x1) (kd_bd _)
    refine ko_iast2 mi_in19 (l := a 13) (n := 121) (c := 121) (ax := (0, 0, 0, 0, 0)) (by rfl) (by rfl) (by rfl) (hG.I.2.1 13) rfl (oz50 fi_645.1) (oz80 c2 kn121) (h2 := ks i (ku a 13 ((a 13).set (i 645).toNatClampNeg x1)) q r) (by rfl) ?_
    have s4 : ((i 645) + 1).toInt = (i 645).toInt + (1 : Int32).toInt := kd_add (oz52 fi_645.1 kn1) (oz81 fi_645.2 kn1)
    have hJ5 := kG_i hJ3 645 rfl (v := ((i 645) + 1)) ⟨(oz54 fi_645.1 s4 kn1), (oz82 c2 s4 kn121 kn1)⟩
    refine ko_steps mi_in19 6 _ (29, [(0, .ref 10), (1, .int x1)], [], (0, 0), ks (ku i 645 ((i 645) + 1)) (ku a 13 ((a 13).set (i 645).toNatClampNeg x1)) q r) (by rfl) ?_
    exact ko_ret mi_in19 (by rfl) (hP  _ _ _ _ hJ5 trivial)
def w20_10 : kW := ([645], [], [], [])
set_option maxRecDepth 100000 in
theorem kc20_10 {i : Nat → Int32} {a : Nat → List Int32} {q : Nat → List Int64} {r : Nat → Nat} (hI : kI i a q) (hr : kr r)  : km 1 20 [.ref 10] (ks i a q r) (kVI w20_10 i a q r (fun v i1 a1 q1 r1 => True)) := by
  have hG := kG_self w20_10 hI hr
  refine km_ofI (q := (mi_h20, mi_c20)) rfl (by decide) (Nat.le_of_ble_eq_true rfl) ?_
  intro P hP
  have fi_645 : ((0 : Int) ≤ (i 645).toInt) ∧ ((i 645).toInt ≤ 121) := hG.I.1 645
  refine ko_steps mi_in20 2 _ (4, [(0, .ref 10)], [.int (i 645)], (0, 0), ks i a q r) (by rfl) ?_
  refine ko_if mi_in20 (decide (0 < (i 645))) 9 7 ([(0, .ref 10)], [], (0, 0), ks i a q r) (by rfl) (fun c => ?_) (fun c => ?_)
  ·
    have c1 : (0 : Int32).toInt < (i 645).toInt := kd_lt c; clear c
    have s2 : ((i 645) - 1).toInt = (i 645).toInt - (1 : Int32).toInt := kd_sub (oz70 c1 kn0 kn1) (oz83 fi_645.2 kn1)
    have hJ3 := kG_i hG 645 rfl (v := ((i 645) - 1)) ⟨(oz72 c1 s2 kn0 kn1), (oz84 fi_645.2 s2 kn1)⟩
    refine ko_steps mi_in20 10 _ (27, [(0, .ref 10)], [.int ((i 645) - 1), .ref 13], (0, 0), ks (ku i 645 ((i 645) - 1)) a q r) (by rfl) ?_
    refine ko_iald2 mi_in20 (l := a 13) (n := 121) (c := 121) (ax := (0, 0, 0, 0, 0)) (by rfl) (by rfl) (by rfl) (hJ3.I.2.1 13) rfl (oz72 c1 s2 kn0 kn1) (oz85 fi_645.2 s2 kn1) ?_
    exact ko_ret mi_in20 (by rfl) (hP ((a 13).getD ((i 645) - 1).toNatClampNeg 0) _ _ _ _ hJ3 trivial)
  ·
    have c4 : (i 645).toInt ≤ (0 : Int32).toInt := kd_ltF c; clear c
    refine ko_steps mi_in20 1 _ (8, [(0, .ref 10)], [.int 0], (0, 0), ks i a q r) (by rfl) ?_
    exact ko_ret mi_in20 (by rfl) (hP 0 _ _ _ _ hG trivial)
def w17_10 : kW := ([643], [11, 12], [], [])
set_option maxRecDepth 100000 in
theorem kc17_10 {i : Nat → Int32} {a : Nat → List Int32} {q : Nat → List Int64} {r : Nat → Nat} (hI : kI i a q) (hr : kr r) (x1 : Int32) (x2 : Int32) : km 1 17 [.ref 10, .int x1, .int x2] (ks i a q r) (kVI w17_10 i a q r (fun v i1 a1 q1 r1 => True)) := by
  have hG := kG_self w17_10 hI hr
  refine km_ofI (q := (mi_h17, mi_c17)) rfl (by decide) (Nat.le_of_ble_eq_true rfl) ?_
  intro P hP
  have fi_643 : ((0 : Int) ≤ (i 643).toInt) ∧ ((i 643).toInt ≤ 121) := hG.I.1 643
  refine ko_steps mi_in17 3 _ (6, [(0, .ref 10), (1, .int x1), (2, .int x2)], [.int 121, .int (i 643)], (0, 0), ks i a q r) (by rfl) ?_
  refine ko_if mi_in17 (decide (121 ≤ (i 643))) 39 9 ([(0, .ref 10), (1, .int x1), (2, .int x2)], [], (0, 0), ks i a q r) (by rfl) (fun c => ?_) (fun c => ?_)
  ·
    have c1 : (121 : Int32).toInt ≤ (i 643).toInt := kd_le c; clear c
    have s2 : ((i 643) - 1).toInt = (i 643).toInt - (1 : Int32).toInt := kd_sub (oz86 c1 kn121 kn1) (oz83 fi_643.2 kn1)
    refine ko_steps mi_in17 4 _ (45, [(0, .ref 10), (1, .int x1), (2, .int x2)], [.int ((i 643) - 1)], (0, 0), ks i a q r) (by rfl) ?_
    exact ko_ret mi_in17 (by rfl) (hP ((i 643) - 1) _ _ _ _ hG trivial)
  ·
    have c3 : (i 643).toInt < (121 : Int32).toInt := kd_leF c; clear c
    refine ko_steps mi_in17 5 _ (18, [(0, .ref 10), (1, .int x1), (2, .int x2)], [.int x1, .int (i 643), .ref 11], (0, 0), ks i a q r) (by rfl) ?_
    have hJ4 := kG_a hG 11 rfl ((i 643).toNatClampNeg) (v := x1) (kd_bd _)
    refine ko_iast2 mi_in17 (l := a 11) (n := 121) (c := 121) (ax := (0, 0, 0, 0, 0)) (by rfl) (by rfl) (by rfl) (hG.I.2.1 11) rfl (oz50 fi_643.1) (oz80 c3 kn121) (h2 := ks i (ku a 11 ((a 11).set (i 643).toNatClampNeg x1)) q r) (by rfl) ?_
    refine ko_steps mi_in17 5 _ (28, [(0, .ref 10), (1, .int x1), (2, .int x2)], [.int x2, .int (i 643), .ref 12], (0, 0), ks i (ku a 11 ((a 11).set (i 643).toNatClampNeg x1)) q r) (by rfl) ?_
    have hJ5 := kG_a hJ4 12 rfl ((i 643).toNatClampNeg) (v := x2) (kd_bd _)
    refine ko_iast2 mi_in17 (l := a 12) (n := 121) (c := 121) (ax := (0, 0, 0, 0, 0)) (by rfl) (by rfl) (by rfl) (hJ4.I.2.1 12) rfl (oz50 fi_643.1) (oz80 c3 kn121) (h2 := ks i (ku (ku a 11 ((a 11).set (i 643).toNatClampNeg x1)) 12 ((a 12).set (i 643).toNatClampNeg x2)) q r) (by rfl) ?_
    have s6 : ((i 643) + 1).toInt = (i 643).toInt + (1 : Int32).toInt := kd_add (oz52 fi_643.1 kn1) (oz81 fi_643.2 kn1)
    have hJ7 := kG_i hJ5 643 rfl (v := ((i 643) + 1)) ⟨(oz54 fi_643.1 s6 kn1), (oz82 c3 s6 kn121 kn1)⟩
    have s8 : (((i 643) + 1) - 1).toInt = ((i 643) + 1).toInt - (1 : Int32).toInt := kd_sub (oz56 fi_643.1 s6 kn1) (oz87 fi_643.2 s6 kn1)
    refine ko_steps mi_in17 10 _ (45, [(0, .ref 10), (1, .int x1), (2, .int x2)], [.int (((i 643) + 1) - 1)], (0, 0), ks (ku i 643 ((i 643) + 1)) (ku (ku a 11 ((a 11).set (i 643).toNatClampNeg x1)) 12 ((a 12).set (i 643).toNatClampNeg x2)) q r) (by rfl) ?_
    exact ko_ret mi_in17 (by rfl) (hP (((i 643) + 1) - 1) _ _ _ _ hJ7 trivial)
def w18_10 : kW := ([], [12], [], [])
set_option maxRecDepth 100000 in
theorem kc18_10 {i : Nat → Int32} {a : Nat → List Int32} {q : Nat → List Int64} {r : Nat → Nat} (hI : kI i a q) (hr : kr r) (x1 : Int32) : km 1 18 [.ref 10, .int x1] (ks i a q r) (kVN w18_10 i a q r (fun i1 a1 q1 r1 => True)) := by
  have hG := kG_self w18_10 hI hr
  refine km_ofN (q := (mi_h18, mi_c18)) rfl (by decide) (Nat.le_of_ble_eq_true rfl) ?_
  intro P hP
  refine ko_steps mi_in18 1 _ (1, [(0, .ref 10), (1, .int x1)], [.int x1], (0, 0), ks i a q r) (by rfl) ?_
  refine ko_if mi_in18 (decide (x1 < 0)) 22 4 ([(0, .ref 10), (1, .int x1)], [], (0, 0), ks i a q r) (by rfl) (fun c => ?_) (fun c => ?_)
  ·
    have c1 : x1.toInt < (0 : Int32).toInt := kd_lt c; clear c
    exact ko_ret mi_in18 (by rfl) (hP  _ _ _ _ hG trivial)
  ·
    have c2 : (0 : Int32).toInt ≤ x1.toInt := kd_ltF c; clear c
    have fi_643 : ((0 : Int) ≤ (i 643).toInt) ∧ ((i 643).toInt ≤ 121) := hG.I.1 643
    refine ko_steps mi_in18 3 _ (9, [(0, .ref 10), (1, .int x1)], [.int (i 643), .int x1], (0, 0), ks i a q r) (by rfl) ?_
    refine ko_if mi_in18 (decide ((i 643) ≤ x1)) 22 12 ([(0, .ref 10), (1, .int x1)], [], (0, 0), ks i a q r) (by rfl) (fun c => ?_) (fun c => ?_)
    ·
      have c3 : (i 643).toInt ≤ x1.toInt := kd_le c; clear c
      exact ko_ret mi_in18 (by rfl) (hP  _ _ _ _ hG trivial)
    ·
      have c4 : x1.toInt < (i 643).toInt := kd_leF c; clear c
      refine ko_steps mi_in18 5 _ (21, [(0, .ref 10), (1, .int x1)], [.int (i 643), .int x1, .ref 12], (0, 0), ks i a q r) (by rfl) ?_
      have hJ5 := kG_a hG 12 rfl x1.toNatClampNeg (v := (i 643)) (kd_bd _)
      refine ko_iast2 mi_in18 (l := a 12) (n := 121) (c := 121) (ax := (0, 0, 0, 0, 0)) (by rfl) (by rfl) (by rfl) (hG.I.2.1 12) rfl (oz16 c2 kn0) (oz88 c4 fi_643.2) (h2 := ks i (ku a 12 ((a 12).set x1.toNatClampNeg (i 643))) q r) (by rfl) ?_
      exact ko_ret mi_in18 (by rfl) (hP  _ _ _ _ hJ5 trivial)
def w16_10 : kW := ([640, 643], [], [], [])
set_option maxRecDepth 100000 in
theorem kc16_10 {i : Nat → Int32} {a : Nat → List Int32} {q : Nat → List Int64} {r : Nat → Nat} (hI : kI i a q) (hr : kr r)  : km 1 16 [.ref 10] (ks i a q r) (kVN w16_10 i a q r (fun i1 a1 q1 r1 => True)) := by
  have hG := kG_self w16_10 hI hr
  refine km_ofN (q := (mi_h16, mi_c16)) rfl (by decide) (Nat.le_of_ble_eq_true rfl) ?_
  intro P hP
  have hJ1 := kG_i hG 640 rfl (v := 0) ⟨(oz66 kn0), (oz89 kn0)⟩
  have hJ2 := kG_i hJ1 643 rfl (v := 0) ⟨(oz66 kn0), (oz90 kn0)⟩
  refine ko_steps mi_in16 6 _ (10, [(0, .ref 10)], [], (0, 0), ks (ku (ku i 640 0) 643 0) a q r) (by rfl) ?_
  exact ko_ret mi_in16 (by rfl) (hP  _ _ _ _ hJ2 trivial)
def w19_59 : kW := ([3781], [62], [], [])
set_option maxRecDepth 100000 in
theorem kc19_59 {i : Nat → Int32} {a : Nat → List Int32} {q : Nat → List Int64} {r : Nat → Nat} (hI : kI i a q) (hr : kr r) (x1 : Int32) : km 1 19 [.ref 59, .int x1] (ks i a q r) (kVN w19_59 i a q r (fun i1 a1 q1 r1 => True)) := by
  have hG := kG_self w19_59 hI hr
  refine km_ofN (q := (mi_h19, mi_c19)) rfl (by decide) (Nat.le_of_ble_eq_true rfl) ?_
  intro P hP
  have fi_3781 : ((0 : Int) ≤ (i 3781).toInt) ∧ ((i 3781).toInt ≤ 121) := hG.I.1 3781
  refine ko_steps mi_in19 3 _ (6, [(0, .ref 59), (1, .int x1)], [.int 121, .int (i 3781)], (0, 0), ks i a q r) (by rfl) ?_
  refine ko_if mi_in19 (decide (121 ≤ (i 3781))) 29 9 ([(0, .ref 59), (1, .int x1)], [], (0, 0), ks i a q r) (by rfl) (fun c => ?_) (fun c => ?_)
  ·
    have c1 : (121 : Int32).toInt ≤ (i 3781).toInt := kd_le c; clear c
    exact ko_ret mi_in19 (by rfl) (hP  _ _ _ _ hG trivial)
  ·
    have c2 : (i 3781).toInt < (121 : Int32).toInt := kd_leF c; clear c
    refine ko_steps mi_in19 5 _ (18, [(0, .ref 59), (1, .int x1)], [.int x1, .int (i 3781), .ref 62], (0, 0), ks i a q r) (by rfl) ?_
    have hJ3 := kG_a hG 62 rfl ((i 3781).toNatClampNeg) (v := x1) (kd_bd _)
    refine ko_iast2 mi_in19 (l := a 62) (n := 121) (c := 121) (ax := (0, 0, 0, 0, 0)) (by rfl) (by rfl) (by rfl) (hG.I.2.1 62) rfl (oz50 fi_3781.1) (oz80 c2 kn121) (h2 := ks i (ku a 62 ((a 62).set (i 3781).toNatClampNeg x1)) q r) (by rfl) ?_
    have s4 : ((i 3781) + 1).toInt = (i 3781).toInt + (1 : Int32).toInt := kd_add (oz52 fi_3781.1 kn1) (oz81 fi_3781.2 kn1)
    have hJ5 := kG_i hJ3 3781 rfl (v := ((i 3781) + 1)) ⟨(oz54 fi_3781.1 s4 kn1), (oz82 c2 s4 kn121 kn1)⟩
    refine ko_steps mi_in19 6 _ (29, [(0, .ref 59), (1, .int x1)], [], (0, 0), ks (ku i 3781 ((i 3781) + 1)) (ku a 62 ((a 62).set (i 3781).toNatClampNeg x1)) q r) (by rfl) ?_
    exact ko_ret mi_in19 (by rfl) (hP  _ _ _ _ hJ5 trivial)
def w20_59 : kW := ([3781], [], [], [])
set_option maxRecDepth 100000 in
theorem kc20_59 {i : Nat → Int32} {a : Nat → List Int32} {q : Nat → List Int64} {r : Nat → Nat} (hI : kI i a q) (hr : kr r)  : km 1 20 [.ref 59] (ks i a q r) (kVI w20_59 i a q r (fun v i1 a1 q1 r1 => True)) := by
  have hG := kG_self w20_59 hI hr
  refine km_ofI (q := (mi_h20, mi_c20)) rfl (by decide) (Nat.le_of_ble_eq_true rfl) ?_
  intro P hP
  have fi_3781 : ((0 : Int) ≤ (i 3781).toInt) ∧ ((i 3781).toInt ≤ 121) := hG.I.1 3781
  refine ko_steps mi_in20 2 _ (4, [(0, .ref 59)], [.int (i 3781)], (0, 0), ks i a q r) (by rfl) ?_
  refine ko_if mi_in20 (decide (0 < (i 3781))) 9 7 ([(0, .ref 59)], [], (0, 0), ks i a q r) (by rfl) (fun c => ?_) (fun c => ?_)
  ·
    have c1 : (0 : Int32).toInt < (i 3781).toInt := kd_lt c; clear c
    have s2 : ((i 3781) - 1).toInt = (i 3781).toInt - (1 : Int32).toInt := kd_sub (oz70 c1 kn0 kn1) (oz83 fi_3781.2 kn1)
    have hJ3 := kG_i hG 3781 rfl (v := ((i 3781) - 1)) ⟨(oz72 c1 s2 kn0 kn1), (oz84 fi_3781.2 s2 kn1)⟩
    refine ko_steps mi_in20 10 _ (27, [(0, .ref 59)], [.int ((i 3781) - 1), .ref 62], (0, 0), ks (ku i 3781 ((i 3781) - 1)) a q r) (by rfl) ?_
    refine ko_iald2 mi_in20 (l := a 62) (n := 121) (c := 121) (ax := (0, 0, 0, 0, 0)) (by rfl) (by rfl) (by rfl) (hJ3.I.2.1 62) rfl (oz72 c1 s2 kn0 kn1) (oz85 fi_3781.2 s2 kn1) ?_
    exact ko_ret mi_in20 (by rfl) (hP ((a 62).getD ((i 3781) - 1).toNatClampNeg 0) _ _ _ _ hJ3 trivial)
  ·
    have c4 : (i 3781).toInt ≤ (0 : Int32).toInt := kd_ltF c; clear c
    refine ko_steps mi_in20 1 _ (8, [(0, .ref 59)], [.int 0], (0, 0), ks i a q r) (by rfl) ?_
    exact ko_ret mi_in20 (by rfl) (hP 0 _ _ _ _ hG trivial)
def w17_59 : kW := ([3779], [60, 61], [], [])
set_option maxRecDepth 100000 in
theorem kc17_59 {i : Nat → Int32} {a : Nat → List Int32} {q : Nat → List Int64} {r : Nat → Nat} (hI : kI i a q) (hr : kr r) (x1 : Int32) (x2 : Int32) : km 1 17 [.ref 59, .int x1, .int x2] (ks i a q r) (kVI w17_59 i a q r (fun v i1 a1 q1 r1 => True)) := by
  have hG := kG_self w17_59 hI hr
  refine km_ofI (q := (mi_h17, mi_c17)) rfl (by decide) (Nat.le_of_ble_eq_true rfl) ?_
  intro P hP
  have fi_3779 : ((0 : Int) ≤ (i 3779).toInt) ∧ ((i 3779).toInt ≤ 121) := hG.I.1 3779
  refine ko_steps mi_in17 3 _ (6, [(0, .ref 59), (1, .int x1), (2, .int x2)], [.int 121, .int (i 3779)], (0, 0), ks i a q r) (by rfl) ?_
  refine ko_if mi_in17 (decide (121 ≤ (i 3779))) 39 9 ([(0, .ref 59), (1, .int x1), (2, .int x2)], [], (0, 0), ks i a q r) (by rfl) (fun c => ?_) (fun c => ?_)
  ·
    have c1 : (121 : Int32).toInt ≤ (i 3779).toInt := kd_le c; clear c
    have s2 : ((i 3779) - 1).toInt = (i 3779).toInt - (1 : Int32).toInt := kd_sub (oz86 c1 kn121 kn1) (oz83 fi_3779.2 kn1)
    refine ko_steps mi_in17 4 _ (45, [(0, .ref 59), (1, .int x1), (2, .int x2)], [.int ((i 3779) - 1)], (0, 0), ks i a q r) (by rfl) ?_
    exact ko_ret mi_in17 (by rfl) (hP ((i 3779) - 1) _ _ _ _ hG trivial)
  ·
    have c3 : (i 3779).toInt < (121 : Int32).toInt := kd_leF c; clear c
    refine ko_steps mi_in17 5 _ (18, [(0, .ref 59), (1, .int x1), (2, .int x2)], [.int x1, .int (i 3779), .ref 60], (0, 0), ks i a q r) (by rfl) ?_
    have hJ4 := kG_a hG 60 rfl ((i 3779).toNatClampNeg) (v := x1) (kd_bd _)
    refine ko_iast2 mi_in17 (l := a 60) (n := 121) (c := 121) (ax := (0, 0, 0, 0, 0)) (by rfl) (by rfl) (by rfl) (hG.I.2.1 60) rfl (oz50 fi_3779.1) (oz80 c3 kn121) (h2 := ks i (ku a 60 ((a 60).set (i 3779).toNatClampNeg x1)) q r) (by rfl) ?_
    refine ko_steps mi_in17 5 _ (28, [(0, .ref 59), (1, .int x1), (2, .int x2)], [.int x2, .int (i 3779), .ref 61], (0, 0), ks i (ku a 60 ((a 60).set (i 3779).toNatClampNeg x1)) q r) (by rfl) ?_
    have hJ5 := kG_a hJ4 61 rfl ((i 3779).toNatClampNeg) (v := x2) (kd_bd _)
    refine ko_iast2 mi_in17 (l := a 61) (n := 121) (c := 121) (ax := (0, 0, 0, 0, 0)) (by rfl) (by rfl) (by rfl) (hJ4.I.2.1 61) rfl (oz50 fi_3779.1) (oz80 c3 kn121) (h2 := ks i (ku (ku a 60 ((a 60).set (i 3779).toNatClampNeg x1)) 61 ((a 61).set (i 3779).toNatClampNeg x2)) q r) (by rfl) ?_
    have s6 : ((i 3779) + 1).toInt = (i 3779).toInt + (1 : Int32).toInt := kd_add (oz52 fi_3779.1 kn1) (oz81 fi_3779.2 kn1)
    have hJ7 := kG_i hJ5 3779 rfl (v := ((i 3779) + 1)) ⟨(oz54 fi_3779.1 s6 kn1), (oz82 c3 s6 kn121 kn1)⟩
    have s8 : (((i 3779) + 1) - 1).toInt = ((i 3779) + 1).toInt - (1 : Int32).toInt := kd_sub (oz56 fi_3779.1 s6 kn1) (oz87 fi_3779.2 s6 kn1)
    refine ko_steps mi_in17 10 _ (45, [(0, .ref 59), (1, .int x1), (2, .int x2)], [.int (((i 3779) + 1) - 1)], (0, 0), ks (ku i 3779 ((i 3779) + 1)) (ku (ku a 60 ((a 60).set (i 3779).toNatClampNeg x1)) 61 ((a 61).set (i 3779).toNatClampNeg x2)) q r) (by rfl) ?_
    exact ko_ret mi_in17 (by rfl) (hP (((i 3779) + 1) - 1) _ _ _ _ hJ7 trivial)
def w18_59 : kW := ([], [61], [], [])
set_option maxRecDepth 100000 in
theorem kc18_59 {i : Nat → Int32} {a : Nat → List Int32} {q : Nat → List Int64} {r : Nat → Nat} (hI : kI i a q) (hr : kr r) (x1 : Int32) : km 1 18 [.ref 59, .int x1] (ks i a q r) (kVN w18_59 i a q r (fun i1 a1 q1 r1 => True)) := by
  have hG := kG_self w18_59 hI hr
  refine km_ofN (q := (mi_h18, mi_c18)) rfl (by decide) (Nat.le_of_ble_eq_true rfl) ?_
  intro P hP
  refine ko_steps mi_in18 1 _ (1, [(0, .ref 59), (1, .int x1)], [.int x1], (0, 0), ks i a q r) (by rfl) ?_
  refine ko_if mi_in18 (decide (x1 < 0)) 22 4 ([(0, .ref 59), (1, .int x1)], [], (0, 0), ks i a q r) (by rfl) (fun c => ?_) (fun c => ?_)
  ·
    have c1 : x1.toInt < (0 : Int32).toInt := kd_lt c; clear c
    exact ko_ret mi_in18 (by rfl) (hP  _ _ _ _ hG trivial)
  ·
    have c2 : (0 : Int32).toInt ≤ x1.toInt := kd_ltF c; clear c
    have fi_3779 : ((0 : Int) ≤ (i 3779).toInt) ∧ ((i 3779).toInt ≤ 121) := hG.I.1 3779
    refine ko_steps mi_in18 3 _ (9, [(0, .ref 59), (1, .int x1)], [.int (i 3779), .int x1], (0, 0), ks i a q r) (by rfl) ?_
    refine ko_if mi_in18 (decide ((i 3779) ≤ x1)) 22 12 ([(0, .ref 59), (1, .int x1)], [], (0, 0), ks i a q r) (by rfl) (fun c => ?_) (fun c => ?_)
    ·
      have c3 : (i 3779).toInt ≤ x1.toInt := kd_le c; clear c
      exact ko_ret mi_in18 (by rfl) (hP  _ _ _ _ hG trivial)
    ·
      have c4 : x1.toInt < (i 3779).toInt := kd_leF c; clear c
      refine ko_steps mi_in18 5 _ (21, [(0, .ref 59), (1, .int x1)], [.int (i 3779), .int x1, .ref 61], (0, 0), ks i a q r) (by rfl) ?_
      have hJ5 := kG_a hG 61 rfl x1.toNatClampNeg (v := (i 3779)) (kd_bd _)
      refine ko_iast2 mi_in18 (l := a 61) (n := 121) (c := 121) (ax := (0, 0, 0, 0, 0)) (by rfl) (by rfl) (by rfl) (hG.I.2.1 61) rfl (oz16 c2 kn0) (oz88 c4 fi_3779.2) (h2 := ks i (ku a 61 ((a 61).set x1.toNatClampNeg (i 3779))) q r) (by rfl) ?_
      exact ko_ret mi_in18 (by rfl) (hP  _ _ _ _ hJ5 trivial)
def w16_59 : kW := ([3776, 3779], [], [], [])
set_option maxRecDepth 100000 in
theorem kc16_59 {i : Nat → Int32} {a : Nat → List Int32} {q : Nat → List Int64} {r : Nat → Nat} (hI : kI i a q) (hr : kr r)  : km 1 16 [.ref 59] (ks i a q r) (kVN w16_59 i a q r (fun i1 a1 q1 r1 => True)) := by
  have hG := kG_self w16_59 hI hr
  refine km_ofN (q := (mi_h16, mi_c16)) rfl (by decide) (Nat.le_of_ble_eq_true rfl) ?_
  intro P hP
  have hJ1 := kG_i hG 3776 rfl (v := 0) ⟨(oz66 kn0), (oz89 kn0)⟩
  have hJ2 := kG_i hJ1 3779 rfl (v := 0) ⟨(oz66 kn0), (oz90 kn0)⟩
  refine ko_steps mi_in16 6 _ (10, [(0, .ref 59)], [], (0, 0), ks (ku (ku i 3776 0) 3779 0) a q r) (by rfl) ?_
  exact ko_ret mi_in16 (by rfl) (hP  _ _ _ _ hJ2 trivial)
def w19_100 : kW := ([6405], [103], [], [])
set_option maxRecDepth 100000 in
theorem kc19_100 {i : Nat → Int32} {a : Nat → List Int32} {q : Nat → List Int64} {r : Nat → Nat} (hI : kI i a q) (hr : kr r) (x1 : Int32) : km 1 19 [.ref 100, .int x1] (ks i a q r) (kVN w19_100 i a q r (fun i1 a1 q1 r1 => True)) := by
  have hG := kG_self w19_100 hI hr
  refine km_ofN (q := (mi_h19, mi_c19)) rfl (by decide) (Nat.le_of_ble_eq_true rfl) ?_
  intro P hP
  have fi_6405 : ((0 : Int) ≤ (i 6405).toInt) ∧ ((i 6405).toInt ≤ 121) := hG.I.1 6405
  refine ko_steps mi_in19 3 _ (6, [(0, .ref 100), (1, .int x1)], [.int 121, .int (i 6405)], (0, 0), ks i a q r) (by rfl) ?_
  refine ko_if mi_in19 (decide (121 ≤ (i 6405))) 29 9 ([(0, .ref 100), (1, .int x1)], [], (0, 0), ks i a q r) (by rfl) (fun c => ?_) (fun c => ?_)
  ·
    have c1 : (121 : Int32).toInt ≤ (i 6405).toInt := kd_le c; clear c
    exact ko_ret mi_in19 (by rfl) (hP  _ _ _ _ hG trivial)
  ·
    have c2 : (i 6405).toInt < (121 : Int32).toInt := kd_leF c; clear c
    refine ko_steps mi_in19 5 _ (18, [(0, .ref 100), (1, .int x1)], [.int x1, .int (i 6405), .ref 103], (0, 0), ks i a q r) (by rfl) ?_
    have hJ3 := kG_a hG 103 rfl ((i 6405).toNatClampNeg) (v := x1) (kd_bd _)
    refine ko_iast2 mi_in19 (l := a 103) (n := 121) (c := 121) (ax := (0, 0, 0, 0, 0)) (by rfl) (by rfl) (by rfl) (hG.I.2.1 103) rfl (oz50 fi_6405.1) (oz80 c2 kn121) (h2 := ks i (ku a 103 ((a 103).set (i 6405).toNatClampNeg x1)) q r) (by rfl) ?_
    have s4 : ((i 6405) + 1).toInt = (i 6405).toInt + (1 : Int32).toInt := kd_add (oz52 fi_6405.1 kn1) (oz81 fi_6405.2 kn1)
    have hJ5 := kG_i hJ3 6405 rfl (v := ((i 6405) + 1)) ⟨(oz54 fi_6405.1 s4 kn1), (oz82 c2 s4 kn121 kn1)⟩
    refine ko_steps mi_in19 6 _ (29, [(0, .ref 100), (1, .int x1)], [], (0, 0), ks (ku i 6405 ((i 6405) + 1)) (ku a 103 ((a 103).set (i 6405).toNatClampNeg x1)) q r) (by rfl) ?_
    exact ko_ret mi_in19 (by rfl) (hP  _ _ _ _ hJ5 trivial)
def w20_100 : kW := ([6405], [], [], [])
set_option maxRecDepth 100000 in
theorem kc20_100 {i : Nat → Int32} {a : Nat → List Int32} {q : Nat → List Int64} {r : Nat → Nat} (hI : kI i a q) (hr : kr r)  : km 1 20 [.ref 100] (ks i a q r) (kVI w20_100 i a q r (fun v i1 a1 q1 r1 => True)) := by
  have hG := kG_self w20_100 hI hr
  refine km_ofI (q := (mi_h20, mi_c20)) rfl (by decide) (Nat.le_of_ble_eq_true rfl) ?_
  intro P hP
  have fi_6405 : ((0 : Int) ≤ (i 6405).toInt) ∧ ((i 6405).toInt ≤ 121) := hG.I.1 6405
  refine ko_steps mi_in20 2 _ (4, [(0, .ref 100)], [.int (i 6405)], (0, 0), ks i a q r) (by rfl) ?_
  refine ko_if mi_in20 (decide (0 < (i 6405))) 9 7 ([(0, .ref 100)], [], (0, 0), ks i a q r) (by rfl) (fun c => ?_) (fun c => ?_)
  ·
    have c1 : (0 : Int32).toInt < (i 6405).toInt := kd_lt c; clear c
    have s2 : ((i 6405) - 1).toInt = (i 6405).toInt - (1 : Int32).toInt := kd_sub (oz70 c1 kn0 kn1) (oz83 fi_6405.2 kn1)
    have hJ3 := kG_i hG 6405 rfl (v := ((i 6405) - 1)) ⟨(oz72 c1 s2 kn0 kn1), (oz84 fi_6405.2 s2 kn1)⟩
    refine ko_steps mi_in20 10 _ (27, [(0, .ref 100)], [.int ((i 6405) - 1), .ref 103], (0, 0), ks (ku i 6405 ((i 6405) - 1)) a q r) (by rfl) ?_
    refine ko_iald2 mi_in20 (l := a 103) (n := 121) (c := 121) (ax := (0, 0, 0, 0, 0)) (by rfl) (by rfl) (by rfl) (hJ3.I.2.1 103) rfl (oz72 c1 s2 kn0 kn1) (oz85 fi_6405.2 s2 kn1) ?_
    exact ko_ret mi_in20 (by rfl) (hP ((a 103).getD ((i 6405) - 1).toNatClampNeg 0) _ _ _ _ hJ3 trivial)
  ·
    have c4 : (i 6405).toInt ≤ (0 : Int32).toInt := kd_ltF c; clear c
    refine ko_steps mi_in20 1 _ (8, [(0, .ref 100)], [.int 0], (0, 0), ks i a q r) (by rfl) ?_
    exact ko_ret mi_in20 (by rfl) (hP 0 _ _ _ _ hG trivial)
def w17_100 : kW := ([6403], [101, 102], [], [])
set_option maxRecDepth 100000 in
theorem kc17_100 {i : Nat → Int32} {a : Nat → List Int32} {q : Nat → List Int64} {r : Nat → Nat} (hI : kI i a q) (hr : kr r) (x1 : Int32) (x2 : Int32) : km 1 17 [.ref 100, .int x1, .int x2] (ks i a q r) (kVI w17_100 i a q r (fun v i1 a1 q1 r1 => True)) := by
  have hG := kG_self w17_100 hI hr
  refine km_ofI (q := (mi_h17, mi_c17)) rfl (by decide) (Nat.le_of_ble_eq_true rfl) ?_
  intro P hP
  have fi_6403 : ((0 : Int) ≤ (i 6403).toInt) ∧ ((i 6403).toInt ≤ 121) := hG.I.1 6403
  refine ko_steps mi_in17 3 _ (6, [(0, .ref 100), (1, .int x1), (2, .int x2)], [.int 121, .int (i 6403)], (0, 0), ks i a q r) (by rfl) ?_
  refine ko_if mi_in17 (decide (121 ≤ (i 6403))) 39 9 ([(0, .ref 100), (1, .int x1), (2, .int x2)], [], (0, 0), ks i a q r) (by rfl) (fun c => ?_) (fun c => ?_)
  ·
    have c1 : (121 : Int32).toInt ≤ (i 6403).toInt := kd_le c; clear c
    have s2 : ((i 6403) - 1).toInt = (i 6403).toInt - (1 : Int32).toInt := kd_sub (oz86 c1 kn121 kn1) (oz83 fi_6403.2 kn1)
    refine ko_steps mi_in17 4 _ (45, [(0, .ref 100), (1, .int x1), (2, .int x2)], [.int ((i 6403) - 1)], (0, 0), ks i a q r) (by rfl) ?_
    exact ko_ret mi_in17 (by rfl) (hP ((i 6403) - 1) _ _ _ _ hG trivial)
  ·
    have c3 : (i 6403).toInt < (121 : Int32).toInt := kd_leF c; clear c
    refine ko_steps mi_in17 5 _ (18, [(0, .ref 100), (1, .int x1), (2, .int x2)], [.int x1, .int (i 6403), .ref 101], (0, 0), ks i a q r) (by rfl) ?_
    have hJ4 := kG_a hG 101 rfl ((i 6403).toNatClampNeg) (v := x1) (kd_bd _)
    refine ko_iast2 mi_in17 (l := a 101) (n := 121) (c := 121) (ax := (0, 0, 0, 0, 0)) (by rfl) (by rfl) (by rfl) (hG.I.2.1 101) rfl (oz50 fi_6403.1) (oz80 c3 kn121) (h2 := ks i (ku a 101 ((a 101).set (i 6403).toNatClampNeg x1)) q r) (by rfl) ?_
    refine ko_steps mi_in17 5 _ (28, [(0, .ref 100), (1, .int x1), (2, .int x2)], [.int x2, .int (i 6403), .ref 102], (0, 0), ks i (ku a 101 ((a 101).set (i 6403).toNatClampNeg x1)) q r) (by rfl) ?_
    have hJ5 := kG_a hJ4 102 rfl ((i 6403).toNatClampNeg) (v := x2) (kd_bd _)
    refine ko_iast2 mi_in17 (l := a 102) (n := 121) (c := 121) (ax := (0, 0, 0, 0, 0)) (by rfl) (by rfl) (by rfl) (hJ4.I.2.1 102) rfl (oz50 fi_6403.1) (oz80 c3 kn121) (h2 := ks i (ku (ku a 101 ((a 101).set (i 6403).toNatClampNeg x1)) 102 ((a 102).set (i 6403).toNatClampNeg x2)) q r) (by rfl) ?_
    have s6 : ((i 6403) + 1).toInt = (i 6403).toInt + (1 : Int32).toInt := kd_add (oz52 fi_6403.1 kn1) (oz81 fi_6403.2 kn1)
    have hJ7 := kG_i hJ5 6403 rfl (v := ((i 6403) + 1)) ⟨(oz54 fi_6403.1 s6 kn1), (oz82 c3 s6 kn121 kn1)⟩
    have s8 : (((i 6403) + 1) - 1).toInt = ((i 6403) + 1).toInt - (1 : Int32).toInt := kd_sub (oz56 fi_6403.1 s6 kn1) (oz87 fi_6403.2 s6 kn1)
    refine ko_steps mi_in17 10 _ (45, [(0, .ref 100), (1, .int x1), (2, .int x2)], [.int (((i 6403) + 1) - 1)], (0, 0), ks (ku i 6403 ((i 6403) + 1)) (ku (ku a 101 ((a 101).set (i 6403).toNatClampNeg x1)) 102 ((a 102).set (i 6403).toNatClampNeg x2)) q r) (by rfl) ?_
    exact ko_ret mi_in17 (by rfl) (hP (((i 6403) + 1) - 1) _ _ _ _ hJ7 trivial)
def w18_100 : kW := ([], [102], [], [])
set_option maxRecDepth 100000 in
theorem kc18_100 {i : Nat → Int32} {a : Nat → List Int32} {q : Nat → List Int64} {r : Nat → Nat} (hI : kI i a q) (hr : kr r) (x1 : Int32) : km 1 18 [.ref 100, .int x1] (ks i a q r) (kVN w18_100 i a q r (fun i1 a1 q1 r1 => True)) := by
  have hG := kG_self w18_100 hI hr
  refine km_ofN (q := (mi_h18, mi_c18)) rfl (by decide) (Nat.le_of_ble_eq_true rfl) ?_
  intro P hP
  refine ko_steps mi_in18 1 _ (1, [(0, .ref 100), (1, .int x1)], [.int x1], (0, 0), ks i a q r) (by rfl) ?_
  refine ko_if mi_in18 (decide (x1 < 0)) 22 4 ([(0, .ref 100), (1, .int x1)], [], (0, 0), ks i a q r) (by rfl) (fun c => ?_) (fun c => ?_)
  ·
    have c1 : x1.toInt < (0 : Int32).toInt := kd_lt c; clear c
    exact ko_ret mi_in18 (by rfl) (hP  _ _ _ _ hG trivial)
  ·
    have c2 : (0 : Int32).toInt ≤ x1.toInt := kd_ltF c; clear c
    have fi_6403 : ((0 : Int) ≤ (i 6403).toInt) ∧ ((i 6403).toInt ≤ 121) := hG.I.1 6403
    refine ko_steps mi_in18 3 _ (9, [(0, .ref 100), (1, .int x1)], [.int (i 6403), .int x1], (0, 0), ks i a q r) (by rfl) ?_
    refine ko_if mi_in18 (decide ((i 6403) ≤ x1)) 22 12 ([(0, .ref 100), (1, .int x1)], [], (0, 0), ks i a q r) (by rfl) (fun c => ?_) (fun c => ?_)
    ·
      have c3 : (i 6403).toInt ≤ x1.toInt := kd_le c; clear c
      exact ko_ret mi_in18 (by rfl) (hP  _ _ _ _ hG trivial)
    ·
      have c4 : x1.toInt < (i 6403).toInt := kd_leF c; clear c
      refine ko_steps mi_in18 5 _ (21, [(0, .ref 100), (1, .int x1)], [.int (i 6403), .int x1, .ref 102], (0, 0), ks i a q r) (by rfl) ?_
      have hJ5 := kG_a hG 102 rfl x1.toNatClampNeg (v := (i 6403)) (kd_bd _)
      refine ko_iast2 mi_in18 (l := a 102) (n := 121) (c := 121) (ax := (0, 0, 0, 0, 0)) (by rfl) (by rfl) (by rfl) (hG.I.2.1 102) rfl (oz16 c2 kn0) (oz88 c4 fi_6403.2) (h2 := ks i (ku a 102 ((a 102).set x1.toNatClampNeg (i 6403))) q r) (by rfl) ?_
      exact ko_ret mi_in18 (by rfl) (hP  _ _ _ _ hJ5 trivial)
def w16_100 : kW := ([6400, 6403], [], [], [])
set_option maxRecDepth 100000 in
theorem kc16_100 {i : Nat → Int32} {a : Nat → List Int32} {q : Nat → List Int64} {r : Nat → Nat} (hI : kI i a q) (hr : kr r)  : km 1 16 [.ref 100] (ks i a q r) (kVN w16_100 i a q r (fun i1 a1 q1 r1 => True)) := by
  have hG := kG_self w16_100 hI hr
  refine km_ofN (q := (mi_h16, mi_c16)) rfl (by decide) (Nat.le_of_ble_eq_true rfl) ?_
  intro P hP
  have hJ1 := kG_i hG 6400 rfl (v := 0) ⟨(oz66 kn0), (oz89 kn0)⟩
  have hJ2 := kG_i hJ1 6403 rfl (v := 0) ⟨(oz66 kn0), (oz90 kn0)⟩
  refine ko_steps mi_in16 6 _ (10, [(0, .ref 100)], [], (0, 0), ks (ku (ku i 6400 0) 6403 0) a q r) (by rfl) ?_
  exact ko_ret mi_in16 (by rfl) (hP  _ _ _ _ hJ2 trivial)
def w33_50_1 : kW := ([3208, 3209, 3586], [51, 55, 57, 58, 63], [], [])
set_option maxRecDepth 100000 in
theorem kc33_50_1 {i : Nat → Int32} {a : Nat → List Int32} {q : Nat → List Int64} {r : Nat → Nat} (hI : kI i a q) (hr : kr r) (x2 : Int32) : km 3 33 [.ref 50, .ref 1, .int x2] (ks i a q r) (kVN w33_50_1 i a q r (fun i1 a1 q1 r1 => True)) := by
  have hG := kG_self w33_50_1 hI hr
  refine km_ofN (q := (mi_h33, mi_c33)) rfl (by decide) (Nat.le_of_ble_eq_true rfl) ?_
  intro P hP
  refine ko_steps mi_in33 3 _ (4, [(0, .ref 50), (1, .ref 1), (2, .int x2)], [.int 8, .int x2, .int 0], (0, 0), ks i a q r) (by rfl) ?_
  have m2 : (((bif decide (8 < x2) then 8 else x2).toInt ≤ x2.toInt) ∧ ((bif decide (8 < x2) then 8 else x2).toInt ≤ (8 : Int32).toInt)) ∧ ((bif decide (8 < x2) then 8 else x2).toInt = x2.toInt ∨ (bif decide (8 < x2) then 8 else x2).toInt = (8 : Int32).toInt) := kd_min
  refine ko_steps mi_in33 1 _ (7, [(0, .ref 50), (1, .ref 1), (2, .int x2)], [.int (bif decide (8 < x2) then 8 else x2), .int 0], (0, 0), ks i a q r) (by rfl) ?_
  generalize (bif decide (8 < x2) then 8 else x2) = m1 at m2 ⊢
  have m4 : (((0 : Int32).toInt ≤ (bif decide (0 < m1) then m1 else 0).toInt) ∧ (m1.toInt ≤ (bif decide (0 < m1) then m1 else 0).toInt)) ∧ ((bif decide (0 < m1) then m1 else 0).toInt = (0 : Int32).toInt ∨ (bif decide (0 < m1) then m1 else 0).toInt = m1.toInt) := kd_max
  refine ko_steps mi_in33 1 _ (10, [(0, .ref 50), (1, .ref 1), (2, .int x2)], [.int (bif decide (0 < m1) then m1 else 0)], (0, 0), ks i a q r) (by rfl) ?_
  generalize (bif decide (0 < m1) then m1 else 0) = m3 at m4 ⊢
  refine ko_steps mi_in33 8 _ (22, [(3, .int m3), (0, .ref 50), (1, .ref 1), (2, .int x2)], [.int m3, .int 0, .ref 51, .int 0, .ref 2], (0, 0), ks i a q r) (by rfl) ?_
  have hJ5 := kG_al hG 51 rfl (l := mi_cpy (a 2) (a 51) ((0 : Int32).toNatClampNeg) ((0 : Int32).toNatClampNeg) m3.toNatClampNeg) (kcpy_len2 (n := 8) (c := 8) (m := 8) (b := 8) (sp := 0) (dp := 0) (n1 := m3) (hG.I.2.1 2) rfl (hG.I.2.1 51) rfl (oz16 m4.1.1 kn0) (oz66 kn0) (oz66 kn0) (oz91 m2.1.2 m4.2 kn8 kn0) (oz91 m2.1.2 m4.2 kn8 kn0)) (fun _ => kd_bd _)
  refine ko_copyI2 mi_in33 (l := a 2) (g := a 51) (n := 8) (c := 8) (m := 8) (b := 8) (by rfl) (by rfl) (by rfl) (by rfl) (by rfl) (by rfl) (hG.I.2.1 2) rfl (hG.I.2.1 51) rfl (oz16 m4.1.1 kn0) (oz66 kn0) (oz66 kn0) (oz91 m2.1.2 m4.2 kn8 kn0) (oz91 m2.1.2 m4.2 kn8 kn0) (h5 := ks i (ku a 51 (mi_cpy (a 2) (a 51) ((0 : Int32).toNatClampNeg) ((0 : Int32).toNatClampNeg) m3.toNatClampNeg)) q r) (by rfl) ?_
  refine ko_steps mi_in33 7 _ (36, [(3, .int m3), (0, .ref 50), (1, .ref 1), (2, .int x2)], [.int m3, .int 0, .ref 55, .int 0, .ref 6], (0, 0), ks i (ku a 51 (mi_cpy (a 2) (a 51) ((0 : Int32).toNatClampNeg) ((0 : Int32).toNatClampNeg) m3.toNatClampNeg)) q r) (by rfl) ?_
  have hJ6 := kG_al hJ5 55 rfl (l := mi_cpy (a 6) (a 55) ((0 : Int32).toNatClampNeg) ((0 : Int32).toNatClampNeg) m3.toNatClampNeg) (kcpy_len2 (n := 8) (c := 8) (m := 8) (b := 8) (sp := 0) (dp := 0) (n1 := m3) (hJ5.I.2.1 6) rfl (hJ5.I.2.1 55) rfl (oz16 m4.1.1 kn0) (oz66 kn0) (oz66 kn0) (oz91 m2.1.2 m4.2 kn8 kn0) (oz91 m2.1.2 m4.2 kn8 kn0)) (fun _ => kd_bd _)
  refine ko_copyI2 mi_in33 (l := a 6) (g := a 55) (n := 8) (c := 8) (m := 8) (b := 8) (by rfl) (by rfl) (by rfl) (by rfl) (by rfl) (by rfl) (hJ5.I.2.1 6) rfl (hJ5.I.2.1 55) rfl (oz16 m4.1.1 kn0) (oz66 kn0) (oz66 kn0) (oz91 m2.1.2 m4.2 kn8 kn0) (oz91 m2.1.2 m4.2 kn8 kn0) (h5 := ks i (ku (ku a 51 (mi_cpy (a 2) (a 51) ((0 : Int32).toNatClampNeg) ((0 : Int32).toNatClampNeg) m3.toNatClampNeg)) 55 (mi_cpy (a 6) (a 55) ((0 : Int32).toNatClampNeg) ((0 : Int32).toNatClampNeg) m3.toNatClampNeg)) q r) (by rfl) ?_
  refine ko_steps mi_in33 7 _ (50, [(3, .int m3), (0, .ref 50), (1, .ref 1), (2, .int x2)], [.int 5, .int 0, .ref 63, .int 0, .ref 14], (0, 0), ks i (ku (ku a 51 (mi_cpy (a 2) (a 51) ((0 : Int32).toNatClampNeg) ((0 : Int32).toNatClampNeg) m3.toNatClampNeg)) 55 (mi_cpy (a 6) (a 55) ((0 : Int32).toNatClampNeg) ((0 : Int32).toNatClampNeg) m3.toNatClampNeg)) q r) (by rfl) ?_
  have hJ7 := kG_al hJ6 63 rfl (l := mi_cpy (a 14) (a 63) ((0 : Int32).toNatClampNeg) ((0 : Int32).toNatClampNeg) ((5 : Int32).toNatClampNeg)) (kcpy_len2 (n := 5) (c := 5) (m := 5) (b := 5) (sp := 0) (dp := 0) (n1 := 5) (hJ6.I.2.1 14) rfl (hJ6.I.2.1 63) rfl (oz77 kn5) (oz66 kn0) (oz66 kn0) (oz78 kn0 kn5) (oz78 kn0 kn5)) (fun _ => kd_bd _)
  refine ko_copyI2 mi_in33 (l := a 14) (g := a 63) (n := 5) (c := 5) (m := 5) (b := 5) (by rfl) (by rfl) (by rfl) (by rfl) (by rfl) (by rfl) (hJ6.I.2.1 14) rfl (hJ6.I.2.1 63) rfl (oz77 kn5) (oz66 kn0) (oz66 kn0) (oz78 kn0 kn5) (oz78 kn0 kn5) (h5 := ks i (ku (ku (ku a 51 (mi_cpy (a 2) (a 51) ((0 : Int32).toNatClampNeg) ((0 : Int32).toNatClampNeg) m3.toNatClampNeg)) 55 (mi_cpy (a 6) (a 55) ((0 : Int32).toNatClampNeg) ((0 : Int32).toNatClampNeg) m3.toNatClampNeg)) 63 (mi_cpy (a 14) (a 63) ((0 : Int32).toNatClampNeg) ((0 : Int32).toNatClampNeg) ((5 : Int32).toNatClampNeg))) q r) (by rfl) ?_
  have hJ8 := kG_i hJ7 3208 rfl (v := (i 72)) (kd_bd _)
  have hJ9 := kG_i hJ8 3209 rfl (v := (i 73)) (kd_bd _)
  refine ko_steps mi_in33 12 _ (77, [(3, .int m3), (0, .ref 50), (1, .ref 1), (2, .int x2)], [.ref 7, .ref 56], (0, 0), ks (ku (ku i 3208 (i 72)) 3209 (i 73)) (ku (ku (ku a 51 (mi_cpy (a 2) (a 51) ((0 : Int32).toNatClampNeg) ((0 : Int32).toNatClampNeg) m3.toNatClampNeg)) 55 (mi_cpy (a 6) (a 55) ((0 : Int32).toNatClampNeg) ((0 : Int32).toNatClampNeg) m3.toNatClampNeg)) 63 (mi_cpy (a 14) (a 63) ((0 : Int32).toNatClampNeg) ((0 : Int32).toNatClampNeg) ((5 : Int32).toNatClampNeg))) q r) (by rfl) ?_
  refine ko_callN mi_in33 (pc := 77) (ls := [(3, .int m3), (0, .ref 50), (1, .ref 1), (2, .int x2)]) (st := [.ref 7, .ref 56]) (h := ks (ku (ku i 3208 (i 72)) 3209 (i 73)) (ku (ku (ku a 51 (mi_cpy (a 2) (a 51) ((0 : Int32).toNatClampNeg) ((0 : Int32).toNatClampNeg) m3.toNatClampNeg)) 55 (mi_cpy (a 6) (a 55) ((0 : Int32).toNatClampNeg) ((0 : Int32).toNatClampNeg) m3.toNatClampNeg)) 63 (mi_cpy (a 14) (a 63) ((0 : Int32).toNatClampNeg) ((0 : Int32).toNatClampNeg) ((5 : Int32).toNatClampNeg))) q r) (i := (.invokevirtual 139, 3, 3, 0, 9, 0, 217)) (by rfl) (by rfl) (cy := mi_c3) rfl rfl (kc3_56_7 hJ9.I hJ9.R ) (by decide) ?_
  intro ig10 ag10 qg10 rg10 kg10 hg10
  have hGg10 := kG_call hJ9 kg10 (by decide +kernel)
  exact ko_ret mi_in33 (by rfl) (hP  _ _ _ _ hGg10 trivial)
def w34_50_1 : kW := ([3200, 3206, 3207, 3208, 3209, 3586], [51, 52, 53, 54, 55, 57, 58, 63, 65, 66, 67, 68, 69, 70, 71, 72], [], [1])
def w34_50_1_L86 : kW := ([], [63], [], [])
def w34_50_1_L106 : kW := ([], [65, 66, 67, 68, 69, 70, 71, 72], [], [])
def w34_50_1_L114 : kW := ([], [65, 66, 67, 68, 69, 70, 71, 72], [], [])
set_option maxRecDepth 100000 in
theorem kc34_50_1 {i : Nat → Int32} {a : Nat → List Int32} {q : Nat → List Int64} {r : Nat → Nat} (hI : kI i a q) (hr : kr r)  : km 5 34 [.ref 50, .ref 1] (ks i a q r) (kVN w34_50_1 i a q r (fun i1 a1 q1 r1 => True)) := by
  have hG := kG_self w34_50_1 hI hr
  refine km_ofN (q := (mi_h34, mi_c34)) rfl (by decide) (Nat.le_of_ble_eq_true rfl) ?_
  intro P hP
  refine ko_steps mi_in34 3 _ (4, [(0, .ref 50), (1, .ref 1)], [.int 8, .ref 1, .ref 50], (0, 0), ks i a q r) (by rfl) ?_
  refine ko_callN mi_in34 (pc := 4) (ls := [(0, .ref 50), (1, .ref 1)]) (st := [.int 8, .ref 1, .ref 50]) (h := ks i a q r) (i := (.invokevirtual 143, 3, 33, 0, 9, 0, 213)) (by rfl) (by rfl) (cy := mi_c33) rfl rfl (kc33_50_1 hG.I hG.R 8) (by decide) ?_
  intro ig1 ag1 qg1 rg1 kg1 hg1
  have hGg1 := kG_call hG kg1 (by decide +kernel)
  have fig1_64 : ((0 : Int) ≤ (ig1 64).toInt) ∧ ((ig1 64).toInt ≤ 8) := hGg1.I.1 64
  have fi_64 : ((0 : Int) ≤ (i 64).toInt) ∧ ((i 64).toInt ≤ 8) := hG.I.1 64
  have efig1_64 : (ig1 64).toInt = (i 64).toInt := kg1.ti 64 rfl
  have hJ2 := kG_i hGg1 3200 rfl (v := (ig1 64)) ⟨(oz50 fig1_64.1), (oz92 fig1_64.2)⟩
  refine ko_steps mi_in34 11 _ (27, [(0, .ref 50), (1, .ref 1)], [.int 8, .int 0, .ref 52, .int 0, .ref 3], (0, 0), ks (ku ig1 3200 (ig1 64)) ag1 qg1 rg1) (by rfl) ?_
  have hJ3 := kG_al hJ2 52 rfl (l := mi_cpy (ag1 3) (ag1 52) ((0 : Int32).toNatClampNeg) ((0 : Int32).toNatClampNeg) ((8 : Int32).toNatClampNeg)) (kcpy_len2 (n := 8) (c := 8) (m := 8) (b := 8) (sp := 0) (dp := 0) (n1 := 8) (hJ2.I.2.1 3) rfl (hJ2.I.2.1 52) rfl (oz93 kn8) (oz66 kn0) (oz66 kn0) (oz94 kn0 kn8) (oz94 kn0 kn8)) (fun _ => kd_bd _)
  refine ko_copyI2 mi_in34 (l := ag1 3) (g := ag1 52) (n := 8) (c := 8) (m := 8) (b := 8) (by rfl) (by rfl) (by rfl) (by rfl) (by rfl) (by rfl) (hJ2.I.2.1 3) rfl (hJ2.I.2.1 52) rfl (oz93 kn8) (oz66 kn0) (oz66 kn0) (oz94 kn0 kn8) (oz94 kn0 kn8) (h5 := ks (ku ig1 3200 (ig1 64)) (ku ag1 52 (mi_cpy (ag1 3) (ag1 52) ((0 : Int32).toNatClampNeg) ((0 : Int32).toNatClampNeg) ((8 : Int32).toNatClampNeg))) qg1 rg1) (by rfl) ?_
  refine ko_steps mi_in34 7 _ (42, [(0, .ref 50), (1, .ref 1)], [.int 8, .int 0, .ref 53, .int 0, .ref 4], (0, 0), ks (ku ig1 3200 (ig1 64)) (ku ag1 52 (mi_cpy (ag1 3) (ag1 52) ((0 : Int32).toNatClampNeg) ((0 : Int32).toNatClampNeg) ((8 : Int32).toNatClampNeg))) qg1 rg1) (by rfl) ?_
  have hJ4 := kG_al hJ3 53 rfl (l := mi_cpy (ag1 4) (ag1 53) ((0 : Int32).toNatClampNeg) ((0 : Int32).toNatClampNeg) ((8 : Int32).toNatClampNeg)) (kcpy_len2 (n := 8) (c := 8) (m := 8) (b := 8) (sp := 0) (dp := 0) (n1 := 8) (hJ3.I.2.1 4) rfl (hJ3.I.2.1 53) rfl (oz93 kn8) (oz66 kn0) (oz66 kn0) (oz94 kn0 kn8) (oz94 kn0 kn8)) (fun _ => kd_bd _)
  refine ko_copyI2 mi_in34 (l := ag1 4) (g := ag1 53) (n := 8) (c := 8) (m := 8) (b := 8) (by rfl) (by rfl) (by rfl) (by rfl) (by rfl) (by rfl) (hJ3.I.2.1 4) rfl (hJ3.I.2.1 53) rfl (oz93 kn8) (oz66 kn0) (oz66 kn0) (oz94 kn0 kn8) (oz94 kn0 kn8) (h5 := ks (ku ig1 3200 (ig1 64)) (ku (ku ag1 52 (mi_cpy (ag1 3) (ag1 52) ((0 : Int32).toNatClampNeg) ((0 : Int32).toNatClampNeg) ((8 : Int32).toNatClampNeg))) 53 (mi_cpy (ag1 4) (ag1 53) ((0 : Int32).toNatClampNeg) ((0 : Int32).toNatClampNeg) ((8 : Int32).toNatClampNeg))) qg1 rg1) (by rfl) ?_
  refine ko_steps mi_in34 7 _ (57, [(0, .ref 50), (1, .ref 1)], [.int 8, .int 0, .ref 54, .int 0, .ref 5], (0, 0), ks (ku ig1 3200 (ig1 64)) (ku (ku ag1 52 (mi_cpy (ag1 3) (ag1 52) ((0 : Int32).toNatClampNeg) ((0 : Int32).toNatClampNeg) ((8 : Int32).toNatClampNeg))) 53 (mi_cpy (ag1 4) (ag1 53) ((0 : Int32).toNatClampNeg) ((0 : Int32).toNatClampNeg) ((8 : Int32).toNatClampNeg))) qg1 rg1) (by rfl) ?_
  have hJ5 := kG_al hJ4 54 rfl (l := mi_cpy (ag1 5) (ag1 54) ((0 : Int32).toNatClampNeg) ((0 : Int32).toNatClampNeg) ((8 : Int32).toNatClampNeg)) (kcpy_len2 (n := 8) (c := 8) (m := 8) (b := 8) (sp := 0) (dp := 0) (n1 := 8) (hJ4.I.2.1 5) rfl (hJ4.I.2.1 54) rfl (oz93 kn8) (oz66 kn0) (oz66 kn0) (oz94 kn0 kn8) (oz94 kn0 kn8)) (fun _ => kd_bd _)
  refine ko_copyI2 mi_in34 (l := ag1 5) (g := ag1 54) (n := 8) (c := 8) (m := 8) (b := 8) (by rfl) (by rfl) (by rfl) (by rfl) (by rfl) (by rfl) (hJ4.I.2.1 5) rfl (hJ4.I.2.1 54) rfl (oz93 kn8) (oz66 kn0) (oz66 kn0) (oz94 kn0 kn8) (oz94 kn0 kn8) (h5 := ks (ku ig1 3200 (ig1 64)) (ku (ku (ku ag1 52 (mi_cpy (ag1 3) (ag1 52) ((0 : Int32).toNatClampNeg) ((0 : Int32).toNatClampNeg) ((8 : Int32).toNatClampNeg))) 53 (mi_cpy (ag1 4) (ag1 53) ((0 : Int32).toNatClampNeg) ((0 : Int32).toNatClampNeg) ((8 : Int32).toNatClampNeg))) 54 (mi_cpy (ag1 5) (ag1 54) ((0 : Int32).toNatClampNeg) ((0 : Int32).toNatClampNeg) ((8 : Int32).toNatClampNeg))) qg1 rg1) (by rfl) ?_
  have efig1_70 : (ig1 70).toInt = (i 70).toInt := kg1.ti 70 rfl
  have hJ6 := kG_i hJ5 3206 rfl (v := (ig1 70)) (kd_bd _)
  have efig1_71 : (ig1 71).toInt = (i 71).toInt := kg1.ti 71 rfl
  have hJ7 := kG_i hJ6 3207 rfl (v := (ig1 71)) (kd_bd _)
  refine ko_steps mi_in34 11 _ (81, [(0, .ref 50), (1, .ref 1)], [.ref (rg1 0), .ref 50], (0, 0), ks (ku (ku (ku ig1 3200 (ig1 64)) 3206 (ig1 70)) 3207 (ig1 71)) (ku (ku (ku ag1 52 (mi_cpy (ag1 3) (ag1 52) ((0 : Int32).toNatClampNeg) ((0 : Int32).toNatClampNeg) ((8 : Int32).toNatClampNeg))) 53 (mi_cpy (ag1 4) (ag1 53) ((0 : Int32).toNatClampNeg) ((0 : Int32).toNatClampNeg) ((8 : Int32).toNatClampNeg))) 54 (mi_cpy (ag1 5) (ag1 54) ((0 : Int32).toNatClampNeg) ((0 : Int32).toNatClampNeg) ((8 : Int32).toNatClampNeg))) qg1 rg1) (by rfl) ?_
  have kR : (rg1 0 = 10 ∨ rg1 0 = 100) := hJ7.R.1.imp (fun z => z.1) (fun z => z.1)
  rcases kR with eRrg1_0 | eRrg1_0
  ·
    refine ko_eq (x1 := (81, [(0, .ref 50), (1, .ref 1)], [.ref 10, .ref 50], (0, 0), ks (ku (ku (ku ig1 3200 (ig1 64)) 3206 (ig1 70)) 3207 (ig1 71)) (ku (ku (ku ag1 52 (mi_cpy (ag1 3) (ag1 52) ((0 : Int32).toNatClampNeg) ((0 : Int32).toNatClampNeg) ((8 : Int32).toNatClampNeg))) 53 (mi_cpy (ag1 4) (ag1 53) ((0 : Int32).toNatClampNeg) ((0 : Int32).toNatClampNeg) ((8 : Int32).toNatClampNeg))) 54 (mi_cpy (ag1 5) (ag1 54) ((0 : Int32).toNatClampNeg) ((0 : Int32).toNatClampNeg) ((8 : Int32).toNatClampNeg))) qg1 rg1)) (by rw [eRrg1_0]) ?_
    have hJ8 := kG_r hJ7 1 rfl (v := 10) ⟨hJ7.R.1, by first | exact Or.inl rfl | exact Or.inr (Or.inl rfl) | exact Or.inr (Or.inr rfl)⟩
    refine ko_steps mi_in34 3 _ (86, [(2, .int 0), (0, .ref 50), (1, .ref 1)], [], (0, 0), ks (ku (ku (ku ig1 3200 (ig1 64)) 3206 (ig1 70)) 3207 (ig1 71)) (ku (ku (ku ag1 52 (mi_cpy (ag1 3) (ag1 52) ((0 : Int32).toNatClampNeg) ((0 : Int32).toNatClampNeg) ((8 : Int32).toNatClampNeg))) 53 (mi_cpy (ag1 4) (ag1 53) ((0 : Int32).toNatClampNeg) ((0 : Int32).toNatClampNeg) ((8 : Int32).toNatClampNeg))) 54 (mi_cpy (ag1 5) (ag1 54) ((0 : Int32).toNatClampNeg) ((0 : Int32).toNatClampNeg) ((8 : Int32).toNatClampNeg))) qg1 (ku rg1 1 10)) (by rfl) ?_
    have lp9 : ∀ (n : Nat) (i9 : Nat → Int32) (a9 : Nat → List Int32) (q9 : Nat → List Int64) (r9 : Nat → Nat) (l2_9 : Int32), kG w34_50_1_L86 (ku (ku (ku ig1 3200 (ig1 64)) 3206 (ig1 70)) 3207 (ig1 71)) (ku (ku (ku ag1 52 (mi_cpy (ag1 3) (ag1 52) ((0 : Int32).toNatClampNeg) ((0 : Int32).toNatClampNeg) ((8 : Int32).toNatClampNeg))) 53 (mi_cpy (ag1 4) (ag1 53) ((0 : Int32).toNatClampNeg) ((0 : Int32).toNatClampNeg) ((8 : Int32).toNatClampNeg))) 54 (mi_cpy (ag1 5) (ag1 54) ((0 : Int32).toNatClampNeg) ((0 : Int32).toNatClampNeg) ((8 : Int32).toNatClampNeg))) qg1 (ku rg1 1 10) i9 a9 q9 r9 → (0 : Int) ≤ l2_9.toInt → ((5 - l2_9.toInt)).toNat < n → ko 5 (mi_h34, mi_c34) P (86, [(2, .int l2_9), (0, .ref 50), (1, .ref 1)], [], (0, 0), ks i9 a9 q9 r9) := by
      intro n
      induction n with
      | zero =>
        intro _ _ _ _ _ _ _ hm
        exact absurd hm (Nat.not_lt_zero _)
      | succ n ih9 =>
        intro i9 a9 q9 r9 l2_9 hL9 p9_0 hm9
        refine ko_steps mi_in34 2 _ (88, [(2, .int l2_9), (0, .ref 50), (1, .ref 1)], [.int 4, .int l2_9], (0, 0), ks i9 a9 q9 r9) (by rfl) ?_
        refine ko_if mi_in34 (decide (4 < l2_9)) 104 91 ([(2, .int l2_9), (0, .ref 50), (1, .ref 1)], [], (0, 0), ks i9 a9 q9 r9) (by rfl) (fun c => ?_) (fun c => ?_)
        ·
          have c10 : (4 : Int32).toInt < l2_9.toInt := kd_lt c; clear c
          have hG11 := kG_call hJ8 hL9 (by decide +kernel)
          refine ko_steps mi_in34 2 _ (106, [(2, .int 0), (0, .ref 50), (1, .ref 1)], [], (0, 0), ks i9 a9 q9 r9) (by rfl) ?_
          have lp12 : ∀ (n : Nat) (i12 : Nat → Int32) (a12 : Nat → List Int32) (q12 : Nat → List Int64) (r12 : Nat → Nat) (l2_12 : Int32), kG w34_50_1_L106 i9 a9 q9 r9 i12 a12 q12 r12 → (0 : Int) ≤ l2_12.toInt → ((8 - l2_12.toInt)).toNat < n → ko 5 (mi_h34, mi_c34) P (106, [(2, .int l2_12), (0, .ref 50), (1, .ref 1)], [], (0, 0), ks i12 a12 q12 r12) := by
            intro n
            induction n with
            | zero =>
              intro _ _ _ _ _ _ _ hm
              exact absurd hm (Nat.not_lt_zero _)
            | succ n ih12 =>
              intro i12 a12 q12 r12 l2_12 hL12 p12_0 hm12
              refine ko_steps mi_in34 2 _ (109, [(2, .int l2_12), (0, .ref 50), (1, .ref 1)], [.int 8, .int l2_12], (0, 0), ks i12 a12 q12 r12) (by rfl) ?_
              refine ko_if mi_in34 (decide (8 ≤ l2_12)) 141 112 ([(2, .int l2_12), (0, .ref 50), (1, .ref 1)], [], (0, 0), ks i12 a12 q12 r12) (by rfl) (fun c => ?_) (fun c => ?_)
              ·
                have c13 : (8 : Int32).toInt ≤ l2_12.toInt := kd_le c; clear c
                have hG14 := kG_call hG11 hL12 (by decide +kernel)
                exact ko_ret mi_in34 (by rfl) (hP  _ _ _ _ hG14 trivial)
              ·
                have c15 : l2_12.toInt < (8 : Int32).toInt := kd_leF c; clear c
                refine ko_steps mi_in34 2 _ (114, [(3, .int 0), (2, .int l2_12), (0, .ref 50), (1, .ref 1)], [], (0, 0), ks i12 a12 q12 r12) (by rfl) ?_
                have lp16 : ∀ (n : Nat) (i16 : Nat → Int32) (a16 : Nat → List Int32) (q16 : Nat → List Int64) (r16 : Nat → Nat) (l3_16 : Int32), kG w34_50_1_L114 i12 a12 q12 r12 i16 a16 q16 r16 → ((0 : Int) ≤ l2_12.toInt) ∧ (l2_12.toInt ≤ 7) → (0 : Int) ≤ l3_16.toInt → ((8 - l3_16.toInt)).toNat < n → ko 5 (mi_h34, mi_c34) P (114, [(3, .int l3_16), (2, .int l2_12), (0, .ref 50), (1, .ref 1)], [], (0, 0), ks i16 a16 q16 r16) := by
                  intro n
                  induction n with
                  | zero =>
                    intro _ _ _ _ _ _ _ _ hm
                    exact absurd hm (Nat.not_lt_zero _)
                  | succ n ih16 =>
                    intro i16 a16 q16 r16 l3_16 hL16 p16_0 p16_1 hm16
                    refine ko_steps mi_in34 2 _ (117, [(3, .int l3_16), (2, .int l2_12), (0, .ref 50), (1, .ref 1)], [.int 8, .int l3_16], (0, 0), ks i16 a16 q16 r16) (by rfl) ?_
                    refine ko_if mi_in34 (decide (8 ≤ l3_16)) 135 120 ([(3, .int l3_16), (2, .int l2_12), (0, .ref 50), (1, .ref 1)], [], (0, 0), ks i16 a16 q16 r16) (by rfl) (fun c => ?_) (fun c => ?_)
                    ·
                      have c17 : (8 : Int32).toInt ≤ l3_16.toInt := kd_le c; clear c
                      have hG18 := kG_call hL12 hL16 (by decide +kernel)
                      have s19 : (l2_12 + 1).toInt = l2_12.toInt + (1 : Int32).toInt := kd_add (oz52 p12_0 kn1) (oz63 c15 kn8 kn1)
                      refine ko_steps mi_in34 2 _ (106, [(2, .int (l2_12 + 1)), (3, .int l3_16), (0, .ref 50), (1, .ref 1)], [], (0, 0), ks i16 a16 q16 r16) (by rfl) ?_
                      refine ko_perm [(2, .int (l2_12 + 1)), (0, .ref 50), (1, .ref 1)] (List.forall_mem_cons.mpr ⟨(List.Mem.head _), (List.forall_mem_cons.mpr ⟨(List.Mem.tail _ (List.Mem.tail _ (List.Mem.head _))), (List.forall_mem_cons.mpr ⟨(List.Mem.tail _ (List.Mem.tail _ (List.Mem.tail _ (List.Mem.head _)))), (fun _ h => absurd h List.not_mem_nil)⟩)⟩)⟩) ?_
                      exact ih12 _ _ _ _ _ hG18 (oz54 p12_0 s19 kn1) (kj_meas (oz64 s19 kn1) (oz65 c15 kn8) hm12)
                    ·
                      have c20 : l3_16.toInt < (8 : Int32).toInt := kd_leF c; clear c
                      refine ko_steps mi_in34 3 _ (125, [(3, .int l3_16), (2, .int l2_12), (0, .ref 50), (1, .ref 1)], [.int l2_12, .ref 64], (0, 0), ks i16 a16 q16 r16) (by rfl) ?_
                      by_cases w21 : l2_12.toInt = 0
                      ·
                        refine ko_eq (x1 := (125, [(3, .int l3_16), (2, .int l2_12), (0, .ref 50), (1, .ref 1)], [.int 0, .ref 64], (0, 0), ks i16 a16 q16 r16)) (by rw [(kj_eq w21 (by decide) : l2_12 = 0)]) ?_
                        refine ko_steps mi_in34 3 _ (128, [(3, .int l3_16), (2, .int l2_12), (0, .ref 50), (1, .ref 1)], [.int 0, .int l3_16, .ref 65], (0, 0), ks i16 a16 q16 r16) (by rfl) ?_
                        have hJ22 := kG_a hL16 65 rfl l3_16.toNatClampNeg (v := 0) (kd_bd _)
                        refine ko_iast2 mi_in34 (l := a16 65) (n := 8) (c := 8) (ax := (0, 0, 0, 0, 0)) (by rfl) (by rfl) (by rfl) (hL16.I.2.1 65) rfl (oz50 p16_1) (oz51 c20 kn8) (h2 := ks i16 (ku a16 65 ((a16 65).set l3_16.toNatClampNeg 0)) q16 r16) (by rfl) ?_
                        have s23 : (l3_16 + 1).toInt = l3_16.toInt + (1 : Int32).toInt := kd_add (oz52 p16_1 kn1) (oz63 c20 kn8 kn1)
                        refine ko_steps mi_in34 2 _ (114, [(3, .int (l3_16 + 1)), (2, .int l2_12), (0, .ref 50), (1, .ref 1)], [], (0, 0), ks i16 (ku a16 65 ((a16 65).set l3_16.toNatClampNeg 0)) q16 r16) (by rfl) ?_
                        exact ih16 _ _ _ _ _ hJ22 (oz96 c15 p12_0 kn8) (oz54 p16_1 s23 kn1) (kj_meas (oz64 s23 kn1) (oz65 c20 kn8) hm16)
                      by_cases w24 : l2_12.toInt = 1
                      ·
                        refine ko_eq (x1 := (125, [(3, .int l3_16), (2, .int l2_12), (0, .ref 50), (1, .ref 1)], [.int 1, .ref 64], (0, 0), ks i16 a16 q16 r16)) (by rw [(kj_eq w24 (by decide) : l2_12 = 1)]) ?_
                        refine ko_steps mi_in34 3 _ (128, [(3, .int l3_16), (2, .int l2_12), (0, .ref 50), (1, .ref 1)], [.int 0, .int l3_16, .ref 66], (0, 0), ks i16 a16 q16 r16) (by rfl) ?_
                        have hJ25 := kG_a hL16 66 rfl l3_16.toNatClampNeg (v := 0) (kd_bd _)
                        refine ko_iast2 mi_in34 (l := a16 66) (n := 8) (c := 8) (ax := (0, 0, 0, 0, 0)) (by rfl) (by rfl) (by rfl) (hL16.I.2.1 66) rfl (oz50 p16_1) (oz51 c20 kn8) (h2 := ks i16 (ku a16 66 ((a16 66).set l3_16.toNatClampNeg 0)) q16 r16) (by rfl) ?_
                        have s26 : (l3_16 + 1).toInt = l3_16.toInt + (1 : Int32).toInt := kd_add (oz52 p16_1 kn1) (oz63 c20 kn8 kn1)
                        refine ko_steps mi_in34 2 _ (114, [(3, .int (l3_16 + 1)), (2, .int l2_12), (0, .ref 50), (1, .ref 1)], [], (0, 0), ks i16 (ku a16 66 ((a16 66).set l3_16.toNatClampNeg 0)) q16 r16) (by rfl) ?_
                        exact ih16 _ _ _ _ _ hJ25 (oz97 c15 w24 kn8) (oz54 p16_1 s26 kn1) (kj_meas (oz64 s26 kn1) (oz65 c20 kn8) hm16)
                      by_cases w27 : l2_12.toInt = 2
                      ·
                        refine ko_eq (x1 := (125, [(3, .int l3_16), (2, .int l2_12), (0, .ref 50), (1, .ref 1)], [.int 2, .ref 64], (0, 0), ks i16 a16 q16 r16)) (by rw [(kj_eq w27 (by decide) : l2_12 = 2)]) ?_
                        refine ko_steps mi_in34 3 _ (128, [(3, .int l3_16), (2, .int l2_12), (0, .ref 50), (1, .ref 1)], [.int 0, .int l3_16, .ref 67], (0, 0), ks i16 a16 q16 r16) (by rfl) ?_
                        have hJ28 := kG_a hL16 67 rfl l3_16.toNatClampNeg (v := 0) (kd_bd _)
                        refine ko_iast2 mi_in34 (l := a16 67) (n := 8) (c := 8) (ax := (0, 0, 0, 0, 0)) (by rfl) (by rfl) (by rfl) (hL16.I.2.1 67) rfl (oz50 p16_1) (oz51 c20 kn8) (h2 := ks i16 (ku a16 67 ((a16 67).set l3_16.toNatClampNeg 0)) q16 r16) (by rfl) ?_
                        have s29 : (l3_16 + 1).toInt = l3_16.toInt + (1 : Int32).toInt := kd_add (oz52 p16_1 kn1) (oz63 c20 kn8 kn1)
                        refine ko_steps mi_in34 2 _ (114, [(3, .int (l3_16 + 1)), (2, .int l2_12), (0, .ref 50), (1, .ref 1)], [], (0, 0), ks i16 (ku a16 67 ((a16 67).set l3_16.toNatClampNeg 0)) q16 r16) (by rfl) ?_
                        exact ih16 _ _ _ _ _ hJ28 (oz98 c15 w27 kn8) (oz54 p16_1 s29 kn1) (kj_meas (oz64 s29 kn1) (oz65 c20 kn8) hm16)
                      by_cases w30 : l2_12.toInt = 3
                      ·
                        refine ko_eq (x1 := (125, [(3, .int l3_16), (2, .int l2_12), (0, .ref 50), (1, .ref 1)], [.int 3, .ref 64], (0, 0), ks i16 a16 q16 r16)) (by rw [(kj_eq w30 (by decide) : l2_12 = 3)]) ?_
                        refine ko_steps mi_in34 3 _ (128, [(3, .int l3_16), (2, .int l2_12), (0, .ref 50), (1, .ref 1)], [.int 0, .int l3_16, .ref 68], (0, 0), ks i16 a16 q16 r16) (by rfl) ?_
                        have hJ31 := kG_a hL16 68 rfl l3_16.toNatClampNeg (v := 0) (kd_bd _)
                        refine ko_iast2 mi_in34 (l := a16 68) (n := 8) (c := 8) (ax := (0, 0, 0, 0, 0)) (by rfl) (by rfl) (by rfl) (hL16.I.2.1 68) rfl (oz50 p16_1) (oz51 c20 kn8) (h2 := ks i16 (ku a16 68 ((a16 68).set l3_16.toNatClampNeg 0)) q16 r16) (by rfl) ?_
                        have s32 : (l3_16 + 1).toInt = l3_16.toInt + (1 : Int32).toInt := kd_add (oz52 p16_1 kn1) (oz63 c20 kn8 kn1)
                        refine ko_steps mi_in34 2 _ (114, [(3, .int (l3_16 + 1)), (2, .int l2_12), (0, .ref 50), (1, .ref 1)], [], (0, 0), ks i16 (ku a16 68 ((a16 68).set l3_16.toNatClampNeg 0)) q16 r16) (by rfl) ?_
                        exact ih16 _ _ _ _ _ hJ31 (oz99 c15 w30 kn8) (oz54 p16_1 s32 kn1) (kj_meas (oz64 s32 kn1) (oz65 c20 kn8) hm16)
                      by_cases w33 : l2_12.toInt = 4
                      ·
                        refine ko_eq (x1 := (125, [(3, .int l3_16), (2, .int l2_12), (0, .ref 50), (1, .ref 1)], [.int 4, .ref 64], (0, 0), ks i16 a16 q16 r16)) (by rw [(kj_eq w33 (by decide) : l2_12 = 4)]) ?_
                        refine ko_steps mi_in34 3 _ (128, [(3, .int l3_16), (2, .int l2_12), (0, .ref 50), (1, .ref 1)], [.int 0, .int l3_16, .ref 69], (0, 0), ks i16 a16 q16 r16) (by rfl) ?_
                        have hJ34 := kG_a hL16 69 rfl l3_16.toNatClampNeg (v := 0) (kd_bd _)
                        refine ko_iast2 mi_in34 (l := a16 69) (n := 8) (c := 8) (ax := (0, 0, 0, 0, 0)) (by rfl) (by rfl) (by rfl) (hL16.I.2.1 69) rfl (oz50 p16_1) (oz51 c20 kn8) (h2 := ks i16 (ku a16 69 ((a16 69).set l3_16.toNatClampNeg 0)) q16 r16) (by rfl) ?_
                        have s35 : (l3_16 + 1).toInt = l3_16.toInt + (1 : Int32).toInt := kd_add (oz52 p16_1 kn1) (oz63 c20 kn8 kn1)
                        refine ko_steps mi_in34 2 _ (114, [(3, .int (l3_16 + 1)), (2, .int l2_12), (0, .ref 50), (1, .ref 1)], [], (0, 0), ks i16 (ku a16 69 ((a16 69).set l3_16.toNatClampNeg 0)) q16 r16) (by rfl) ?_
                        exact ih16 _ _ _ _ _ hJ34 (oz100 c15 w33 kn8) (oz54 p16_1 s35 kn1) (kj_meas (oz64 s35 kn1) (oz65 c20 kn8) hm16)
                      by_cases w36 : l2_12.toInt = 5
                      ·
                        refine ko_eq (x1 := (125, [(3, .int l3_16), (2, .int l2_12), (0, .ref 50), (1, .ref 1)], [.int 5, .ref 64], (0, 0), ks i16 a16 q16 r16)) (by rw [(kj_eq w36 (by decide) : l2_12 = 5)]) ?_
                        refine ko_steps mi_in34 3 _ (128, [(3, .int l3_16), (2, .int l2_12), (0, .ref 50), (1, .ref 1)], [.int 0, .int l3_16, .ref 70], (0, 0), ks i16 a16 q16 r16) (by rfl) ?_
                        have hJ37 := kG_a hL16 70 rfl l3_16.toNatClampNeg (v := 0) (kd_bd _)
                        refine ko_iast2 mi_in34 (l := a16 70) (n := 8) (c := 8) (ax := (0, 0, 0, 0, 0)) (by rfl) (by rfl) (by rfl) (hL16.I.2.1 70) rfl (oz50 p16_1) (oz51 c20 kn8) (h2 := ks i16 (ku a16 70 ((a16 70).set l3_16.toNatClampNeg 0)) q16 r16) (by rfl) ?_
                        have s38 : (l3_16 + 1).toInt = l3_16.toInt + (1 : Int32).toInt := kd_add (oz52 p16_1 kn1) (oz63 c20 kn8 kn1)
                        refine ko_steps mi_in34 2 _ (114, [(3, .int (l3_16 + 1)), (2, .int l2_12), (0, .ref 50), (1, .ref 1)], [], (0, 0), ks i16 (ku a16 70 ((a16 70).set l3_16.toNatClampNeg 0)) q16 r16) (by rfl) ?_
                        exact ih16 _ _ _ _ _ hJ37 (oz101 c15 w36 kn8) (oz54 p16_1 s38 kn1) (kj_meas (oz64 s38 kn1) (oz65 c20 kn8) hm16)
                      by_cases w39 : l2_12.toInt = 6
                      ·
                        refine ko_eq (x1 := (125, [(3, .int l3_16), (2, .int l2_12), (0, .ref 50), (1, .ref 1)], [.int 6, .ref 64], (0, 0), ks i16 a16 q16 r16)) (by rw [(kj_eq w39 (by decide) : l2_12 = 6)]) ?_
                        refine ko_steps mi_in34 3 _ (128, [(3, .int l3_16), (2, .int l2_12), (0, .ref 50), (1, .ref 1)], [.int 0, .int l3_16, .ref 71], (0, 0), ks i16 a16 q16 r16) (by rfl) ?_
                        have hJ40 := kG_a hL16 71 rfl l3_16.toNatClampNeg (v := 0) (kd_bd _)
                        refine ko_iast2 mi_in34 (l := a16 71) (n := 8) (c := 8) (ax := (0, 0, 0, 0, 0)) (by rfl) (by rfl) (by rfl) (hL16.I.2.1 71) rfl (oz50 p16_1) (oz51 c20 kn8) (h2 := ks i16 (ku a16 71 ((a16 71).set l3_16.toNatClampNeg 0)) q16 r16) (by rfl) ?_
                        have s41 : (l3_16 + 1).toInt = l3_16.toInt + (1 : Int32).toInt := kd_add (oz52 p16_1 kn1) (oz63 c20 kn8 kn1)
                        refine ko_steps mi_in34 2 _ (114, [(3, .int (l3_16 + 1)), (2, .int l2_12), (0, .ref 50), (1, .ref 1)], [], (0, 0), ks i16 (ku a16 71 ((a16 71).set l3_16.toNatClampNeg 0)) q16 r16) (by rfl) ?_
                        exact ih16 _ _ _ _ _ hJ40 (oz102 c15 w39 kn8) (oz54 p16_1 s41 kn1) (kj_meas (oz64 s41 kn1) (oz65 c20 kn8) hm16)
                      by_cases w42 : l2_12.toInt = 7
                      ·
                        refine ko_eq (x1 := (125, [(3, .int l3_16), (2, .int l2_12), (0, .ref 50), (1, .ref 1)], [.int 7, .ref 64], (0, 0), ks i16 a16 q16 r16)) (by rw [(kj_eq w42 (by decide) : l2_12 = 7)]) ?_
                        refine ko_steps mi_in34 3 _ (128, [(3, .int l3_16), (2, .int l2_12), (0, .ref 50), (1, .ref 1)], [.int 0, .int l3_16, .ref 72], (0, 0), ks i16 a16 q16 r16) (by rfl) ?_
                        have hJ43 := kG_a hL16 72 rfl l3_16.toNatClampNeg (v := 0) (kd_bd _)
                        refine ko_iast2 mi_in34 (l := a16 72) (n := 8) (c := 8) (ax := (0, 0, 0, 0, 0)) (by rfl) (by rfl) (by rfl) (hL16.I.2.1 72) rfl (oz50 p16_1) (oz51 c20 kn8) (h2 := ks i16 (ku a16 72 ((a16 72).set l3_16.toNatClampNeg 0)) q16 r16) (by rfl) ?_
                        have s44 : (l3_16 + 1).toInt = l3_16.toInt + (1 : Int32).toInt := kd_add (oz52 p16_1 kn1) (oz63 c20 kn8 kn1)
                        refine ko_steps mi_in34 2 _ (114, [(3, .int (l3_16 + 1)), (2, .int l2_12), (0, .ref 50), (1, .ref 1)], [], (0, 0), ks i16 (ku a16 72 ((a16 72).set l3_16.toNatClampNeg 0)) q16 r16) (by rfl) ?_
                        exact ih16 _ _ _ _ _ hJ43 (oz103 c15 w42 kn8) (oz54 p16_1 s44 kn1) (kj_meas (oz64 s44 kn1) (oz65 c20 kn8) hm16)
                      exact (oz104 c15 p12_0 w21 w24 w27 w30 w33 w36 w39 w42 kn8).elim
                exact lp16 _ _ _ _ _ _ (kG_self _ hL12.I hL12.R) (oz96 c15 p12_0 kn8) (oz66 kn0) (Nat.lt_succ_self _)
          exact lp12 _ _ _ _ _ _ (kG_self _ hG11.I hG11.R) (oz66 kn0) (Nat.lt_succ_self _)
        ·
          have c45 : l2_9.toInt ≤ (4 : Int32).toInt := kd_ltF c; clear c
          refine ko_steps mi_in34 4 _ (97, [(2, .int l2_9), (0, .ref 50), (1, .ref 1)], [.int 0, .int l2_9, .ref 63], (0, 0), ks i9 a9 q9 r9) (by rfl) ?_
          have hJ46 := kG_a hL9 63 rfl l2_9.toNatClampNeg (v := 0) (kd_bd _)
          refine ko_iast2 mi_in34 (l := a9 63) (n := 5) (c := 5) (ax := (0, 0, 0, 0, 0)) (by rfl) (by rfl) (by rfl) (hL9.I.2.1 63) rfl (oz50 p9_0) (oz105 c45 kn4) (h2 := ks i9 (ku a9 63 ((a9 63).set l2_9.toNatClampNeg 0)) q9 r9) (by rfl) ?_
          have s47 : (l2_9 + 1).toInt = l2_9.toInt + (1 : Int32).toInt := kd_add (oz52 p9_0 kn1) (oz106 c45 kn4 kn1)
          refine ko_steps mi_in34 2 _ (86, [(2, .int (l2_9 + 1)), (0, .ref 50), (1, .ref 1)], [], (0, 0), ks i9 (ku a9 63 ((a9 63).set l2_9.toNatClampNeg 0)) q9 r9) (by rfl) ?_
          exact ih9 _ _ _ _ _ hJ46 (oz54 p9_0 s47 kn1) (kj_meas (oz107 s47 kn1) (oz108 c45 kn4) hm9)
    exact lp9 _ _ _ _ _ _ (kG_self _ hJ8.I hJ8.R) (oz66 kn0) (Nat.lt_succ_self _)
  ·
    refine ko_eq (x1 := (81, [(0, .ref 50), (1, .ref 1)], [.ref 100, .ref 50], (0, 0), ks (ku (ku (ku ig1 3200 (ig1 64)) 3206 (ig1 70)) 3207 (ig1 71)) (ku (ku (ku ag1 52 (mi_cpy (ag1 3) (ag1 52) ((0 : Int32).toNatClampNeg) ((0 : Int32).toNatClampNeg) ((8 : Int32).toNatClampNeg))) 53 (mi_cpy (ag1 4) (ag1 53) ((0 : Int32).toNatClampNeg) ((0 : Int32).toNatClampNeg) ((8 : Int32).toNatClampNeg))) 54 (mi_cpy (ag1 5) (ag1 54) ((0 : Int32).toNatClampNeg) ((0 : Int32).toNatClampNeg) ((8 : Int32).toNatClampNeg))) qg1 rg1)) (by rw [eRrg1_0]) ?_
    have hJ48 := kG_r hJ7 1 rfl (v := 100) ⟨hJ7.R.1, by first | exact Or.inl rfl | exact Or.inr (Or.inl rfl) | exact Or.inr (Or.inr rfl)⟩
    refine ko_steps mi_in34 3 _ (86, [(2, .int 0), (0, .ref 50), (1, .ref 1)], [], (0, 0), ks (ku (ku (ku ig1 3200 (ig1 64)) 3206 (ig1 70)) 3207 (ig1 71)) (ku (ku (ku ag1 52 (mi_cpy (ag1 3) (ag1 52) ((0 : Int32).toNatClampNeg) ((0 : Int32).toNatClampNeg) ((8 : Int32).toNatClampNeg))) 53 (mi_cpy (ag1 4) (ag1 53) ((0 : Int32).toNatClampNeg) ((0 : Int32).toNatClampNeg) ((8 : Int32).toNatClampNeg))) 54 (mi_cpy (ag1 5) (ag1 54) ((0 : Int32).toNatClampNeg) ((0 : Int32).toNatClampNeg) ((8 : Int32).toNatClampNeg))) qg1 (ku rg1 1 100)) (by rfl) ?_
    have lp49 : ∀ (n : Nat) (i49 : Nat → Int32) (a49 : Nat → List Int32) (q49 : Nat → List Int64) (r49 : Nat → Nat) (l2_49 : Int32), kG w34_50_1_L86 (ku (ku (ku ig1 3200 (ig1 64)) 3206 (ig1 70)) 3207 (ig1 71)) (ku (ku (ku ag1 52 (mi_cpy (ag1 3) (ag1 52) ((0 : Int32).toNatClampNeg) ((0 : Int32).toNatClampNeg) ((8 : Int32).toNatClampNeg))) 53 (mi_cpy (ag1 4) (ag1 53) ((0 : Int32).toNatClampNeg) ((0 : Int32).toNatClampNeg) ((8 : Int32).toNatClampNeg))) 54 (mi_cpy (ag1 5) (ag1 54) ((0 : Int32).toNatClampNeg) ((0 : Int32).toNatClampNeg) ((8 : Int32).toNatClampNeg))) qg1 (ku rg1 1 100) i49 a49 q49 r49 → (0 : Int) ≤ l2_49.toInt → ((5 - l2_49.toInt)).toNat < n → ko 5 (mi_h34, mi_c34) P (86, [(2, .int l2_49), (0, .ref 50), (1, .ref 1)], [], (0, 0), ks i49 a49 q49 r49) := by
      intro n
      induction n with
      | zero =>
        intro _ _ _ _ _ _ _ hm
        exact absurd hm (Nat.not_lt_zero _)
      | succ n ih49 =>
        intro i49 a49 q49 r49 l2_49 hL49 p49_0 hm49
        refine ko_steps mi_in34 2 _ (88, [(2, .int l2_49), (0, .ref 50), (1, .ref 1)], [.int 4, .int l2_49], (0, 0), ks i49 a49 q49 r49) (by rfl) ?_
        refine ko_if mi_in34 (decide (4 < l2_49)) 104 91 ([(2, .int l2_49), (0, .ref 50), (1, .ref 1)], [], (0, 0), ks i49 a49 q49 r49) (by rfl) (fun c => ?_) (fun c => ?_)
        ·
          have c50 : (4 : Int32).toInt < l2_49.toInt := kd_lt c; clear c
          have hG51 := kG_call hJ48 hL49 (by decide +kernel)
          refine ko_steps mi_in34 2 _ (106, [(2, .int 0), (0, .ref 50), (1, .ref 1)], [], (0, 0), ks i49 a49 q49 r49) (by rfl) ?_
          have lp52 : ∀ (n : Nat) (i52 : Nat → Int32) (a52 : Nat → List Int32) (q52 : Nat → List Int64) (r52 : Nat → Nat) (l2_52 : Int32), kG w34_50_1_L106 i49 a49 q49 r49 i52 a52 q52 r52 → (0 : Int) ≤ l2_52.toInt → ((8 - l2_52.toInt)).toNat < n → ko 5 (mi_h34, mi_c34) P (106, [(2, .int l2_52), (0, .ref 50), (1, .ref 1)], [], (0, 0), ks i52 a52 q52 r52) := by
            intro n
            induction n with
            | zero =>
              intro _ _ _ _ _ _ _ hm
              exact absurd hm (Nat.not_lt_zero _)
            | succ n ih52 =>
              intro i52 a52 q52 r52 l2_52 hL52 p52_0 hm52
              refine ko_steps mi_in34 2 _ (109, [(2, .int l2_52), (0, .ref 50), (1, .ref 1)], [.int 8, .int l2_52], (0, 0), ks i52 a52 q52 r52) (by rfl) ?_
              refine ko_if mi_in34 (decide (8 ≤ l2_52)) 141 112 ([(2, .int l2_52), (0, .ref 50), (1, .ref 1)], [], (0, 0), ks i52 a52 q52 r52) (by rfl) (fun c => ?_) (fun c => ?_)
              ·
                have c53 : (8 : Int32).toInt ≤ l2_52.toInt := kd_le c; clear c
                have hG54 := kG_call hG51 hL52 (by decide +kernel)
                exact ko_ret mi_in34 (by rfl) (hP  _ _ _ _ hG54 trivial)
              ·
                have c55 : l2_52.toInt < (8 : Int32).toInt := kd_leF c; clear c
                refine ko_steps mi_in34 2 _ (114, [(3, .int 0), (2, .int l2_52), (0, .ref 50), (1, .ref 1)], [], (0, 0), ks i52 a52 q52 r52) (by rfl) ?_
                have lp56 : ∀ (n : Nat) (i56 : Nat → Int32) (a56 : Nat → List Int32) (q56 : Nat → List Int64) (r56 : Nat → Nat) (l3_56 : Int32), kG w34_50_1_L114 i52 a52 q52 r52 i56 a56 q56 r56 → ((0 : Int) ≤ l2_52.toInt) ∧ (l2_52.toInt ≤ 7) → (0 : Int) ≤ l3_56.toInt → ((8 - l3_56.toInt)).toNat < n → ko 5 (mi_h34, mi_c34) P (114, [(3, .int l3_56), (2, .int l2_52), (0, .ref 50), (1, .ref 1)], [], (0, 0), ks i56 a56 q56 r56) := by
                  intro n
                  induction n with
                  | zero =>
                    intro _ _ _ _ _ _ _ _ hm
                    exact absurd hm (Nat.not_lt_zero _)
                  | succ n ih56 =>
                    intro i56 a56 q56 r56 l3_56 hL56 p56_0 p56_1 hm56
                    refine ko_steps mi_in34 2 _ (117, [(3, .int l3_56), (2, .int l2_52), (0, .ref 50), (1, .ref 1)], [.int 8, .int l3_56], (0, 0), ks i56 a56 q56 r56) (by rfl) ?_
                    refine ko_if mi_in34 (decide (8 ≤ l3_56)) 135 120 ([(3, .int l3_56), (2, .int l2_52), (0, .ref 50), (1, .ref 1)], [], (0, 0), ks i56 a56 q56 r56) (by rfl) (fun c => ?_) (fun c => ?_)
                    ·
                      have c57 : (8 : Int32).toInt ≤ l3_56.toInt := kd_le c; clear c
                      have hG58 := kG_call hL52 hL56 (by decide +kernel)
                      have s59 : (l2_52 + 1).toInt = l2_52.toInt + (1 : Int32).toInt := kd_add (oz52 p52_0 kn1) (oz63 c55 kn8 kn1)
                      refine ko_steps mi_in34 2 _ (106, [(2, .int (l2_52 + 1)), (3, .int l3_56), (0, .ref 50), (1, .ref 1)], [], (0, 0), ks i56 a56 q56 r56) (by rfl) ?_
                      refine ko_perm [(2, .int (l2_52 + 1)), (0, .ref 50), (1, .ref 1)] (List.forall_mem_cons.mpr ⟨(List.Mem.head _), (List.forall_mem_cons.mpr ⟨(List.Mem.tail _ (List.Mem.tail _ (List.Mem.head _))), (List.forall_mem_cons.mpr ⟨(List.Mem.tail _ (List.Mem.tail _ (List.Mem.tail _ (List.Mem.head _)))), (fun _ h => absurd h List.not_mem_nil)⟩)⟩)⟩) ?_
                      exact ih52 _ _ _ _ _ hG58 (oz54 p52_0 s59 kn1) (kj_meas (oz64 s59 kn1) (oz65 c55 kn8) hm52)
                    ·
                      have c60 : l3_56.toInt < (8 : Int32).toInt := kd_leF c; clear c
                      refine ko_steps mi_in34 3 _ (125, [(3, .int l3_56), (2, .int l2_52), (0, .ref 50), (1, .ref 1)], [.int l2_52, .ref 64], (0, 0), ks i56 a56 q56 r56) (by rfl) ?_
                      by_cases w61 : l2_52.toInt = 0
                      ·
                        refine ko_eq (x1 := (125, [(3, .int l3_56), (2, .int l2_52), (0, .ref 50), (1, .ref 1)], [.int 0, .ref 64], (0, 0), ks i56 a56 q56 r56)) (by rw [(kj_eq w61 (by decide) : l2_52 = 0)]) ?_
                        refine ko_steps mi_in34 3 _ (128, [(3, .int l3_56), (2, .int l2_52), (0, .ref 50), (1, .ref 1)], [.int 0, .int l3_56, .ref 65], (0, 0), ks i56 a56 q56 r56) (by rfl) ?_
                        have hJ62 := kG_a hL56 65 rfl l3_56.toNatClampNeg (v := 0) (kd_bd _)
                        refine ko_iast2 mi_in34 (l := a56 65) (n := 8) (c := 8) (ax := (0, 0, 0, 0, 0)) (by rfl) (by rfl) (by rfl) (hL56.I.2.1 65) rfl (oz50 p56_1) (oz51 c60 kn8) (h2 := ks i56 (ku a56 65 ((a56 65).set l3_56.toNatClampNeg 0)) q56 r56) (by rfl) ?_
                        have s63 : (l3_56 + 1).toInt = l3_56.toInt + (1 : Int32).toInt := kd_add (oz52 p56_1 kn1) (oz63 c60 kn8 kn1)
                        refine ko_steps mi_in34 2 _ (114, [(3, .int (l3_56 + 1)), (2, .int l2_52), (0, .ref 50), (1, .ref 1)], [], (0, 0), ks i56 (ku a56 65 ((a56 65).set l3_56.toNatClampNeg 0)) q56 r56) (by rfl) ?_
                        exact ih56 _ _ _ _ _ hJ62 (oz96 c55 p52_0 kn8) (oz54 p56_1 s63 kn1) (kj_meas (oz64 s63 kn1) (oz65 c60 kn8) hm56)
                      by_cases w64 : l2_52.toInt = 1
                      ·
                        refine ko_eq (x1 := (125, [(3, .int l3_56), (2, .int l2_52), (0, .ref 50), (1, .ref 1)], [.int 1, .ref 64], (0, 0), ks i56 a56 q56 r56)) (by rw [(kj_eq w64 (by decide) : l2_52 = 1)]) ?_
                        refine ko_steps mi_in34 3 _ (128, [(3, .int l3_56), (2, .int l2_52), (0, .ref 50), (1, .ref 1)], [.int 0, .int l3_56, .ref 66], (0, 0), ks i56 a56 q56 r56) (by rfl) ?_
                        have hJ65 := kG_a hL56 66 rfl l3_56.toNatClampNeg (v := 0) (kd_bd _)
                        refine ko_iast2 mi_in34 (l := a56 66) (n := 8) (c := 8) (ax := (0, 0, 0, 0, 0)) (by rfl) (by rfl) (by rfl) (hL56.I.2.1 66) rfl (oz50 p56_1) (oz51 c60 kn8) (h2 := ks i56 (ku a56 66 ((a56 66).set l3_56.toNatClampNeg 0)) q56 r56) (by rfl) ?_
                        have s66 : (l3_56 + 1).toInt = l3_56.toInt + (1 : Int32).toInt := kd_add (oz52 p56_1 kn1) (oz63 c60 kn8 kn1)
                        refine ko_steps mi_in34 2 _ (114, [(3, .int (l3_56 + 1)), (2, .int l2_52), (0, .ref 50), (1, .ref 1)], [], (0, 0), ks i56 (ku a56 66 ((a56 66).set l3_56.toNatClampNeg 0)) q56 r56) (by rfl) ?_
                        exact ih56 _ _ _ _ _ hJ65 (oz97 c55 w64 kn8) (oz54 p56_1 s66 kn1) (kj_meas (oz64 s66 kn1) (oz65 c60 kn8) hm56)
                      by_cases w67 : l2_52.toInt = 2
                      ·
                        refine ko_eq (x1 := (125, [(3, .int l3_56), (2, .int l2_52), (0, .ref 50), (1, .ref 1)], [.int 2, .ref 64], (0, 0), ks i56 a56 q56 r56)) (by rw [(kj_eq w67 (by decide) : l2_52 = 2)]) ?_
                        refine ko_steps mi_in34 3 _ (128, [(3, .int l3_56), (2, .int l2_52), (0, .ref 50), (1, .ref 1)], [.int 0, .int l3_56, .ref 67], (0, 0), ks i56 a56 q56 r56) (by rfl) ?_
                        have hJ68 := kG_a hL56 67 rfl l3_56.toNatClampNeg (v := 0) (kd_bd _)
                        refine ko_iast2 mi_in34 (l := a56 67) (n := 8) (c := 8) (ax := (0, 0, 0, 0, 0)) (by rfl) (by rfl) (by rfl) (hL56.I.2.1 67) rfl (oz50 p56_1) (oz51 c60 kn8) (h2 := ks i56 (ku a56 67 ((a56 67).set l3_56.toNatClampNeg 0)) q56 r56) (by rfl) ?_
                        have s69 : (l3_56 + 1).toInt = l3_56.toInt + (1 : Int32).toInt := kd_add (oz52 p56_1 kn1) (oz63 c60 kn8 kn1)
                        refine ko_steps mi_in34 2 _ (114, [(3, .int (l3_56 + 1)), (2, .int l2_52), (0, .ref 50), (1, .ref 1)], [], (0, 0), ks i56 (ku a56 67 ((a56 67).set l3_56.toNatClampNeg 0)) q56 r56) (by rfl) ?_
                        exact ih56 _ _ _ _ _ hJ68 (oz98 c55 w67 kn8) (oz54 p56_1 s69 kn1) (kj_meas (oz64 s69 kn1) (oz65 c60 kn8) hm56)
                      by_cases w70 : l2_52.toInt = 3
                      ·
                        refine ko_eq (x1 := (125, [(3, .int l3_56), (2, .int l2_52), (0, .ref 50), (1, .ref 1)], [.int 3, .ref 64], (0, 0), ks i56 a56 q56 r56)) (by rw [(kj_eq w70 (by decide) : l2_52 = 3)]) ?_
                        refine ko_steps mi_in34 3 _ (128, [(3, .int l3_56), (2, .int l2_52), (0, .ref 50), (1, .ref 1)], [.int 0, .int l3_56, .ref 68], (0, 0), ks i56 a56 q56 r56) (by rfl) ?_
                        have hJ71 := kG_a hL56 68 rfl l3_56.toNatClampNeg (v := 0) (kd_bd _)
                        refine ko_iast2 mi_in34 (l := a56 68) (n := 8) (c := 8) (ax := (0, 0, 0, 0, 0)) (by rfl) (by rfl) (by rfl) (hL56.I.2.1 68) rfl (oz50 p56_1) (oz51 c60 kn8) (h2 := ks i56 (ku a56 68 ((a56 68).set l3_56.toNatClampNeg 0)) q56 r56) (by rfl) ?_
                        have s72 : (l3_56 + 1).toInt = l3_56.toInt + (1 : Int32).toInt := kd_add (oz52 p56_1 kn1) (oz63 c60 kn8 kn1)
                        refine ko_steps mi_in34 2 _ (114, [(3, .int (l3_56 + 1)), (2, .int l2_52), (0, .ref 50), (1, .ref 1)], [], (0, 0), ks i56 (ku a56 68 ((a56 68).set l3_56.toNatClampNeg 0)) q56 r56) (by rfl) ?_
                        exact ih56 _ _ _ _ _ hJ71 (oz99 c55 w70 kn8) (oz54 p56_1 s72 kn1) (kj_meas (oz64 s72 kn1) (oz65 c60 kn8) hm56)
                      by_cases w73 : l2_52.toInt = 4
                      ·
                        refine ko_eq (x1 := (125, [(3, .int l3_56), (2, .int l2_52), (0, .ref 50), (1, .ref 1)], [.int 4, .ref 64], (0, 0), ks i56 a56 q56 r56)) (by rw [(kj_eq w73 (by decide) : l2_52 = 4)]) ?_
                        refine ko_steps mi_in34 3 _ (128, [(3, .int l3_56), (2, .int l2_52), (0, .ref 50), (1, .ref 1)], [.int 0, .int l3_56, .ref 69], (0, 0), ks i56 a56 q56 r56) (by rfl) ?_
                        have hJ74 := kG_a hL56 69 rfl l3_56.toNatClampNeg (v := 0) (kd_bd _)
                        refine ko_iast2 mi_in34 (l := a56 69) (n := 8) (c := 8) (ax := (0, 0, 0, 0, 0)) (by rfl) (by rfl) (by rfl) (hL56.I.2.1 69) rfl (oz50 p56_1) (oz51 c60 kn8) (h2 := ks i56 (ku a56 69 ((a56 69).set l3_56.toNatClampNeg 0)) q56 r56) (by rfl) ?_
                        have s75 : (l3_56 + 1).toInt = l3_56.toInt + (1 : Int32).toInt := kd_add (oz52 p56_1 kn1) (oz63 c60 kn8 kn1)
                        refine ko_steps mi_in34 2 _ (114, [(3, .int (l3_56 + 1)), (2, .int l2_52), (0, .ref 50), (1, .ref 1)], [], (0, 0), ks i56 (ku a56 69 ((a56 69).set l3_56.toNatClampNeg 0)) q56 r56) (by rfl) ?_
                        exact ih56 _ _ _ _ _ hJ74 (oz100 c55 w73 kn8) (oz54 p56_1 s75 kn1) (kj_meas (oz64 s75 kn1) (oz65 c60 kn8) hm56)
                      by_cases w76 : l2_52.toInt = 5
                      ·
                        refine ko_eq (x1 := (125, [(3, .int l3_56), (2, .int l2_52), (0, .ref 50), (1, .ref 1)], [.int 5, .ref 64], (0, 0), ks i56 a56 q56 r56)) (by rw [(kj_eq w76 (by decide) : l2_52 = 5)]) ?_
                        refine ko_steps mi_in34 3 _ (128, [(3, .int l3_56), (2, .int l2_52), (0, .ref 50), (1, .ref 1)], [.int 0, .int l3_56, .ref 70], (0, 0), ks i56 a56 q56 r56) (by rfl) ?_
                        have hJ77 := kG_a hL56 70 rfl l3_56.toNatClampNeg (v := 0) (kd_bd _)
                        refine ko_iast2 mi_in34 (l := a56 70) (n := 8) (c := 8) (ax := (0, 0, 0, 0, 0)) (by rfl) (by rfl) (by rfl) (hL56.I.2.1 70) rfl (oz50 p56_1) (oz51 c60 kn8) (h2 := ks i56 (ku a56 70 ((a56 70).set l3_56.toNatClampNeg 0)) q56 r56) (by rfl) ?_
                        have s78 : (l3_56 + 1).toInt = l3_56.toInt + (1 : Int32).toInt := kd_add (oz52 p56_1 kn1) (oz63 c60 kn8 kn1)
                        refine ko_steps mi_in34 2 _ (114, [(3, .int (l3_56 + 1)), (2, .int l2_52), (0, .ref 50), (1, .ref 1)], [], (0, 0), ks i56 (ku a56 70 ((a56 70).set l3_56.toNatClampNeg 0)) q56 r56) (by rfl) ?_
                        exact ih56 _ _ _ _ _ hJ77 (oz101 c55 w76 kn8) (oz54 p56_1 s78 kn1) (kj_meas (oz64 s78 kn1) (oz65 c60 kn8) hm56)
                      by_cases w79 : l2_52.toInt = 6
                      ·
                        refine ko_eq (x1 := (125, [(3, .int l3_56), (2, .int l2_52), (0, .ref 50), (1, .ref 1)], [.int 6, .ref 64], (0, 0), ks i56 a56 q56 r56)) (by rw [(kj_eq w79 (by decide) : l2_52 = 6)]) ?_
                        refine ko_steps mi_in34 3 _ (128, [(3, .int l3_56), (2, .int l2_52), (0, .ref 50), (1, .ref 1)], [.int 0, .int l3_56, .ref 71], (0, 0), ks i56 a56 q56 r56) (by rfl) ?_
                        have hJ80 := kG_a hL56 71 rfl l3_56.toNatClampNeg (v := 0) (kd_bd _)
                        refine ko_iast2 mi_in34 (l := a56 71) (n := 8) (c := 8) (ax := (0, 0, 0, 0, 0)) (by rfl) (by rfl) (by rfl) (hL56.I.2.1 71) rfl (oz50 p56_1) (oz51 c60 kn8) (h2 := ks i56 (ku a56 71 ((a56 71).set l3_56.toNatClampNeg 0)) q56 r56) (by rfl) ?_
                        have s81 : (l3_56 + 1).toInt = l3_56.toInt + (1 : Int32).toInt := kd_add (oz52 p56_1 kn1) (oz63 c60 kn8 kn1)
                        refine ko_steps mi_in34 2 _ (114, [(3, .int (l3_56 + 1)), (2, .int l2_52), (0, .ref 50), (1, .ref 1)], [], (0, 0), ks i56 (ku a56 71 ((a56 71).set l3_56.toNatClampNeg 0)) q56 r56) (by rfl) ?_
                        exact ih56 _ _ _ _ _ hJ80 (oz102 c55 w79 kn8) (oz54 p56_1 s81 kn1) (kj_meas (oz64 s81 kn1) (oz65 c60 kn8) hm56)
                      by_cases w82 : l2_52.toInt = 7
                      ·
                        refine ko_eq (x1 := (125, [(3, .int l3_56), (2, .int l2_52), (0, .ref 50), (1, .ref 1)], [.int 7, .ref 64], (0, 0), ks i56 a56 q56 r56)) (by rw [(kj_eq w82 (by decide) : l2_52 = 7)]) ?_
                        refine ko_steps mi_in34 3 _ (128, [(3, .int l3_56), (2, .int l2_52), (0, .ref 50), (1, .ref 1)], [.int 0, .int l3_56, .ref 72], (0, 0), ks i56 a56 q56 r56) (by rfl) ?_
                        have hJ83 := kG_a hL56 72 rfl l3_56.toNatClampNeg (v := 0) (kd_bd _)
                        refine ko_iast2 mi_in34 (l := a56 72) (n := 8) (c := 8) (ax := (0, 0, 0, 0, 0)) (by rfl) (by rfl) (by rfl) (hL56.I.2.1 72) rfl (oz50 p56_1) (oz51 c60 kn8) (h2 := ks i56 (ku a56 72 ((a56 72).set l3_56.toNatClampNeg 0)) q56 r56) (by rfl) ?_
                        have s84 : (l3_56 + 1).toInt = l3_56.toInt + (1 : Int32).toInt := kd_add (oz52 p56_1 kn1) (oz63 c60 kn8 kn1)
                        refine ko_steps mi_in34 2 _ (114, [(3, .int (l3_56 + 1)), (2, .int l2_52), (0, .ref 50), (1, .ref 1)], [], (0, 0), ks i56 (ku a56 72 ((a56 72).set l3_56.toNatClampNeg 0)) q56 r56) (by rfl) ?_
                        exact ih56 _ _ _ _ _ hJ83 (oz103 c55 w82 kn8) (oz54 p56_1 s84 kn1) (kj_meas (oz64 s84 kn1) (oz65 c60 kn8) hm56)
                      exact (oz104 c55 p52_0 w61 w64 w67 w70 w73 w76 w79 w82 kn8).elim
                exact lp56 _ _ _ _ _ _ (kG_self _ hL52.I hL52.R) (oz96 c55 p52_0 kn8) (oz66 kn0) (Nat.lt_succ_self _)
          exact lp52 _ _ _ _ _ _ (kG_self _ hG51.I hG51.R) (oz66 kn0) (Nat.lt_succ_self _)
        ·
          have c85 : l2_49.toInt ≤ (4 : Int32).toInt := kd_ltF c; clear c
          refine ko_steps mi_in34 4 _ (97, [(2, .int l2_49), (0, .ref 50), (1, .ref 1)], [.int 0, .int l2_49, .ref 63], (0, 0), ks i49 a49 q49 r49) (by rfl) ?_
          have hJ86 := kG_a hL49 63 rfl l2_49.toNatClampNeg (v := 0) (kd_bd _)
          refine ko_iast2 mi_in34 (l := a49 63) (n := 5) (c := 5) (ax := (0, 0, 0, 0, 0)) (by rfl) (by rfl) (by rfl) (hL49.I.2.1 63) rfl (oz50 p49_0) (oz105 c85 kn4) (h2 := ks i49 (ku a49 63 ((a49 63).set l2_49.toNatClampNeg 0)) q49 r49) (by rfl) ?_
          have s87 : (l2_49 + 1).toInt = l2_49.toInt + (1 : Int32).toInt := kd_add (oz52 p49_0 kn1) (oz106 c85 kn4 kn1)
          refine ko_steps mi_in34 2 _ (86, [(2, .int (l2_49 + 1)), (0, .ref 50), (1, .ref 1)], [], (0, 0), ks i49 (ku a49 63 ((a49 63).set l2_49.toNatClampNeg 0)) q49 r49) (by rfl) ?_
          exact ih49 _ _ _ _ _ hJ86 (oz54 p49_0 s87 kn1) (kj_meas (oz107 s87 kn1) (oz108 c85 kn4) hm49)
    exact lp49 _ _ _ _ _ _ (kG_self _ hJ48.I hJ48.R) (oz66 kn0) (Nat.lt_succ_self _)
def w33_25_1 : kW := ([1608, 1609, 1986], [26, 30, 32, 33, 38], [], [])
set_option maxRecDepth 100000 in
theorem kc33_25_1 {i : Nat → Int32} {a : Nat → List Int32} {q : Nat → List Int64} {r : Nat → Nat} (hI : kI i a q) (hr : kr r) (x2 : Int32) : km 3 33 [.ref 25, .ref 1, .int x2] (ks i a q r) (kVN w33_25_1 i a q r (fun i1 a1 q1 r1 => True)) := by
  have hG := kG_self w33_25_1 hI hr
  refine km_ofN (q := (mi_h33, mi_c33)) rfl (by decide) (Nat.le_of_ble_eq_true rfl) ?_
  intro P hP
  refine ko_steps mi_in33 3 _ (4, [(0, .ref 25), (1, .ref 1), (2, .int x2)], [.int 8, .int x2, .int 0], (0, 0), ks i a q r) (by rfl) ?_
  have m2 : (((bif decide (8 < x2) then 8 else x2).toInt ≤ x2.toInt) ∧ ((bif decide (8 < x2) then 8 else x2).toInt ≤ (8 : Int32).toInt)) ∧ ((bif decide (8 < x2) then 8 else x2).toInt = x2.toInt ∨ (bif decide (8 < x2) then 8 else x2).toInt = (8 : Int32).toInt) := kd_min
  refine ko_steps mi_in33 1 _ (7, [(0, .ref 25), (1, .ref 1), (2, .int x2)], [.int (bif decide (8 < x2) then 8 else x2), .int 0], (0, 0), ks i a q r) (by rfl) ?_
  generalize (bif decide (8 < x2) then 8 else x2) = m1 at m2 ⊢
  have m4 : (((0 : Int32).toInt ≤ (bif decide (0 < m1) then m1 else 0).toInt) ∧ (m1.toInt ≤ (bif decide (0 < m1) then m1 else 0).toInt)) ∧ ((bif decide (0 < m1) then m1 else 0).toInt = (0 : Int32).toInt ∨ (bif decide (0 < m1) then m1 else 0).toInt = m1.toInt) := kd_max
  refine ko_steps mi_in33 1 _ (10, [(0, .ref 25), (1, .ref 1), (2, .int x2)], [.int (bif decide (0 < m1) then m1 else 0)], (0, 0), ks i a q r) (by rfl) ?_
  generalize (bif decide (0 < m1) then m1 else 0) = m3 at m4 ⊢
  refine ko_steps mi_in33 8 _ (22, [(3, .int m3), (0, .ref 25), (1, .ref 1), (2, .int x2)], [.int m3, .int 0, .ref 26, .int 0, .ref 2], (0, 0), ks i a q r) (by rfl) ?_
  have hJ5 := kG_al hG 26 rfl (l := mi_cpy (a 2) (a 26) ((0 : Int32).toNatClampNeg) ((0 : Int32).toNatClampNeg) m3.toNatClampNeg) (kcpy_len2 (n := 8) (c := 8) (m := 8) (b := 8) (sp := 0) (dp := 0) (n1 := m3) (hG.I.2.1 2) rfl (hG.I.2.1 26) rfl (oz16 m4.1.1 kn0) (oz66 kn0) (oz66 kn0) (oz91 m2.1.2 m4.2 kn8 kn0) (oz91 m2.1.2 m4.2 kn8 kn0)) (fun _ => kd_bd _)
  refine ko_copyI2 mi_in33 (l := a 2) (g := a 26) (n := 8) (c := 8) (m := 8) (b := 8) (by rfl) (by rfl) (by rfl) (by rfl) (by rfl) (by rfl) (hG.I.2.1 2) rfl (hG.I.2.1 26) rfl (oz16 m4.1.1 kn0) (oz66 kn0) (oz66 kn0) (oz91 m2.1.2 m4.2 kn8 kn0) (oz91 m2.1.2 m4.2 kn8 kn0) (h5 := ks i (ku a 26 (mi_cpy (a 2) (a 26) ((0 : Int32).toNatClampNeg) ((0 : Int32).toNatClampNeg) m3.toNatClampNeg)) q r) (by rfl) ?_
  refine ko_steps mi_in33 7 _ (36, [(3, .int m3), (0, .ref 25), (1, .ref 1), (2, .int x2)], [.int m3, .int 0, .ref 30, .int 0, .ref 6], (0, 0), ks i (ku a 26 (mi_cpy (a 2) (a 26) ((0 : Int32).toNatClampNeg) ((0 : Int32).toNatClampNeg) m3.toNatClampNeg)) q r) (by rfl) ?_
  have hJ6 := kG_al hJ5 30 rfl (l := mi_cpy (a 6) (a 30) ((0 : Int32).toNatClampNeg) ((0 : Int32).toNatClampNeg) m3.toNatClampNeg) (kcpy_len2 (n := 8) (c := 8) (m := 8) (b := 8) (sp := 0) (dp := 0) (n1 := m3) (hJ5.I.2.1 6) rfl (hJ5.I.2.1 30) rfl (oz16 m4.1.1 kn0) (oz66 kn0) (oz66 kn0) (oz91 m2.1.2 m4.2 kn8 kn0) (oz91 m2.1.2 m4.2 kn8 kn0)) (fun _ => kd_bd _)
  refine ko_copyI2 mi_in33 (l := a 6) (g := a 30) (n := 8) (c := 8) (m := 8) (b := 8) (by rfl) (by rfl) (by rfl) (by rfl) (by rfl) (by rfl) (hJ5.I.2.1 6) rfl (hJ5.I.2.1 30) rfl (oz16 m4.1.1 kn0) (oz66 kn0) (oz66 kn0) (oz91 m2.1.2 m4.2 kn8 kn0) (oz91 m2.1.2 m4.2 kn8 kn0) (h5 := ks i (ku (ku a 26 (mi_cpy (a 2) (a 26) ((0 : Int32).toNatClampNeg) ((0 : Int32).toNatClampNeg) m3.toNatClampNeg)) 30 (mi_cpy (a 6) (a 30) ((0 : Int32).toNatClampNeg) ((0 : Int32).toNatClampNeg) m3.toNatClampNeg)) q r) (by rfl) ?_
  refine ko_steps mi_in33 7 _ (50, [(3, .int m3), (0, .ref 25), (1, .ref 1), (2, .int x2)], [.int 5, .int 0, .ref 38, .int 0, .ref 14], (0, 0), ks i (ku (ku a 26 (mi_cpy (a 2) (a 26) ((0 : Int32).toNatClampNeg) ((0 : Int32).toNatClampNeg) m3.toNatClampNeg)) 30 (mi_cpy (a 6) (a 30) ((0 : Int32).toNatClampNeg) ((0 : Int32).toNatClampNeg) m3.toNatClampNeg)) q r) (by rfl) ?_
  have hJ7 := kG_al hJ6 38 rfl (l := mi_cpy (a 14) (a 38) ((0 : Int32).toNatClampNeg) ((0 : Int32).toNatClampNeg) ((5 : Int32).toNatClampNeg)) (kcpy_len2 (n := 5) (c := 5) (m := 5) (b := 5) (sp := 0) (dp := 0) (n1 := 5) (hJ6.I.2.1 14) rfl (hJ6.I.2.1 38) rfl (oz77 kn5) (oz66 kn0) (oz66 kn0) (oz78 kn0 kn5) (oz78 kn0 kn5)) (fun _ => kd_bd _)
  refine ko_copyI2 mi_in33 (l := a 14) (g := a 38) (n := 5) (c := 5) (m := 5) (b := 5) (by rfl) (by rfl) (by rfl) (by rfl) (by rfl) (by rfl) (hJ6.I.2.1 14) rfl (hJ6.I.2.1 38) rfl (oz77 kn5) (oz66 kn0) (oz66 kn0) (oz78 kn0 kn5) (oz78 kn0 kn5) (h5 := ks i (ku (ku (ku a 26 (mi_cpy (a 2) (a 26) ((0 : Int32).toNatClampNeg) ((0 : Int32).toNatClampNeg) m3.toNatClampNeg)) 30 (mi_cpy (a 6) (a 30) ((0 : Int32).toNatClampNeg) ((0 : Int32).toNatClampNeg) m3.toNatClampNeg)) 38 (mi_cpy (a 14) (a 38) ((0 : Int32).toNatClampNeg) ((0 : Int32).toNatClampNeg) ((5 : Int32).toNatClampNeg))) q r) (by rfl) ?_
  have hJ8 := kG_i hJ7 1608 rfl (v := (i 72)) (kd_bd _)
  have hJ9 := kG_i hJ8 1609 rfl (v := (i 73)) (kd_bd _)
  refine ko_steps mi_in33 12 _ (77, [(3, .int m3), (0, .ref 25), (1, .ref 1), (2, .int x2)], [.ref 7, .ref 31], (0, 0), ks (ku (ku i 1608 (i 72)) 1609 (i 73)) (ku (ku (ku a 26 (mi_cpy (a 2) (a 26) ((0 : Int32).toNatClampNeg) ((0 : Int32).toNatClampNeg) m3.toNatClampNeg)) 30 (mi_cpy (a 6) (a 30) ((0 : Int32).toNatClampNeg) ((0 : Int32).toNatClampNeg) m3.toNatClampNeg)) 38 (mi_cpy (a 14) (a 38) ((0 : Int32).toNatClampNeg) ((0 : Int32).toNatClampNeg) ((5 : Int32).toNatClampNeg))) q r) (by rfl) ?_
  refine ko_callN mi_in33 (pc := 77) (ls := [(3, .int m3), (0, .ref 25), (1, .ref 1), (2, .int x2)]) (st := [.ref 7, .ref 31]) (h := ks (ku (ku i 1608 (i 72)) 1609 (i 73)) (ku (ku (ku a 26 (mi_cpy (a 2) (a 26) ((0 : Int32).toNatClampNeg) ((0 : Int32).toNatClampNeg) m3.toNatClampNeg)) 30 (mi_cpy (a 6) (a 30) ((0 : Int32).toNatClampNeg) ((0 : Int32).toNatClampNeg) m3.toNatClampNeg)) 38 (mi_cpy (a 14) (a 38) ((0 : Int32).toNatClampNeg) ((0 : Int32).toNatClampNeg) ((5 : Int32).toNatClampNeg))) q r) (i := (.invokevirtual 139, 3, 3, 0, 9, 0, 217)) (by rfl) (by rfl) (cy := mi_c3) rfl rfl (kc3_31_7 hJ9.I hJ9.R ) (by decide) ?_
  intro ig10 ag10 qg10 rg10 kg10 hg10
  have hGg10 := kG_call hJ9 kg10 (by decide +kernel)
  exact ko_ret mi_in33 (by rfl) (hP  _ _ _ _ hGg10 trivial)
def w33_1_25 : kW := ([72, 73, 450], [2, 6, 8, 9, 14], [], [])
set_option maxRecDepth 100000 in
theorem kc33_1_25 {i : Nat → Int32} {a : Nat → List Int32} {q : Nat → List Int64} {r : Nat → Nat} (hI : kI i a q) (hr : kr r) (x2 : Int32) : km 3 33 [.ref 1, .ref 25, .int x2] (ks i a q r) (kVN w33_1_25 i a q r (fun i1 a1 q1 r1 => True)) := by
  have hG := kG_self w33_1_25 hI hr
  refine km_ofN (q := (mi_h33, mi_c33)) rfl (by decide) (Nat.le_of_ble_eq_true rfl) ?_
  intro P hP
  refine ko_steps mi_in33 3 _ (4, [(0, .ref 1), (1, .ref 25), (2, .int x2)], [.int 8, .int x2, .int 0], (0, 0), ks i a q r) (by rfl) ?_
  have m2 : (((bif decide (8 < x2) then 8 else x2).toInt ≤ x2.toInt) ∧ ((bif decide (8 < x2) then 8 else x2).toInt ≤ (8 : Int32).toInt)) ∧ ((bif decide (8 < x2) then 8 else x2).toInt = x2.toInt ∨ (bif decide (8 < x2) then 8 else x2).toInt = (8 : Int32).toInt) := kd_min
  refine ko_steps mi_in33 1 _ (7, [(0, .ref 1), (1, .ref 25), (2, .int x2)], [.int (bif decide (8 < x2) then 8 else x2), .int 0], (0, 0), ks i a q r) (by rfl) ?_
  generalize (bif decide (8 < x2) then 8 else x2) = m1 at m2 ⊢
  have m4 : (((0 : Int32).toInt ≤ (bif decide (0 < m1) then m1 else 0).toInt) ∧ (m1.toInt ≤ (bif decide (0 < m1) then m1 else 0).toInt)) ∧ ((bif decide (0 < m1) then m1 else 0).toInt = (0 : Int32).toInt ∨ (bif decide (0 < m1) then m1 else 0).toInt = m1.toInt) := kd_max
  refine ko_steps mi_in33 1 _ (10, [(0, .ref 1), (1, .ref 25), (2, .int x2)], [.int (bif decide (0 < m1) then m1 else 0)], (0, 0), ks i a q r) (by rfl) ?_
  generalize (bif decide (0 < m1) then m1 else 0) = m3 at m4 ⊢
  refine ko_steps mi_in33 8 _ (22, [(3, .int m3), (0, .ref 1), (1, .ref 25), (2, .int x2)], [.int m3, .int 0, .ref 2, .int 0, .ref 26], (0, 0), ks i a q r) (by rfl) ?_
  have hJ5 := kG_al hG 2 rfl (l := mi_cpy (a 26) (a 2) ((0 : Int32).toNatClampNeg) ((0 : Int32).toNatClampNeg) m3.toNatClampNeg) (kcpy_len2 (n := 8) (c := 8) (m := 8) (b := 8) (sp := 0) (dp := 0) (n1 := m3) (hG.I.2.1 26) rfl (hG.I.2.1 2) rfl (oz16 m4.1.1 kn0) (oz66 kn0) (oz66 kn0) (oz91 m2.1.2 m4.2 kn8 kn0) (oz91 m2.1.2 m4.2 kn8 kn0)) (fun _ => kd_bd _)
  refine ko_copyI2 mi_in33 (l := a 26) (g := a 2) (n := 8) (c := 8) (m := 8) (b := 8) (by rfl) (by rfl) (by rfl) (by rfl) (by rfl) (by rfl) (hG.I.2.1 26) rfl (hG.I.2.1 2) rfl (oz16 m4.1.1 kn0) (oz66 kn0) (oz66 kn0) (oz91 m2.1.2 m4.2 kn8 kn0) (oz91 m2.1.2 m4.2 kn8 kn0) (h5 := ks i (ku a 2 (mi_cpy (a 26) (a 2) ((0 : Int32).toNatClampNeg) ((0 : Int32).toNatClampNeg) m3.toNatClampNeg)) q r) (by rfl) ?_
  refine ko_steps mi_in33 7 _ (36, [(3, .int m3), (0, .ref 1), (1, .ref 25), (2, .int x2)], [.int m3, .int 0, .ref 6, .int 0, .ref 30], (0, 0), ks i (ku a 2 (mi_cpy (a 26) (a 2) ((0 : Int32).toNatClampNeg) ((0 : Int32).toNatClampNeg) m3.toNatClampNeg)) q r) (by rfl) ?_
  have hJ6 := kG_al hJ5 6 rfl (l := mi_cpy (a 30) (a 6) ((0 : Int32).toNatClampNeg) ((0 : Int32).toNatClampNeg) m3.toNatClampNeg) (kcpy_len2 (n := 8) (c := 8) (m := 8) (b := 8) (sp := 0) (dp := 0) (n1 := m3) (hJ5.I.2.1 30) rfl (hJ5.I.2.1 6) rfl (oz16 m4.1.1 kn0) (oz66 kn0) (oz66 kn0) (oz91 m2.1.2 m4.2 kn8 kn0) (oz91 m2.1.2 m4.2 kn8 kn0)) (fun _ => kd_bd _)
  refine ko_copyI2 mi_in33 (l := a 30) (g := a 6) (n := 8) (c := 8) (m := 8) (b := 8) (by rfl) (by rfl) (by rfl) (by rfl) (by rfl) (by rfl) (hJ5.I.2.1 30) rfl (hJ5.I.2.1 6) rfl (oz16 m4.1.1 kn0) (oz66 kn0) (oz66 kn0) (oz91 m2.1.2 m4.2 kn8 kn0) (oz91 m2.1.2 m4.2 kn8 kn0) (h5 := ks i (ku (ku a 2 (mi_cpy (a 26) (a 2) ((0 : Int32).toNatClampNeg) ((0 : Int32).toNatClampNeg) m3.toNatClampNeg)) 6 (mi_cpy (a 30) (a 6) ((0 : Int32).toNatClampNeg) ((0 : Int32).toNatClampNeg) m3.toNatClampNeg)) q r) (by rfl) ?_
  refine ko_steps mi_in33 7 _ (50, [(3, .int m3), (0, .ref 1), (1, .ref 25), (2, .int x2)], [.int 5, .int 0, .ref 14, .int 0, .ref 38], (0, 0), ks i (ku (ku a 2 (mi_cpy (a 26) (a 2) ((0 : Int32).toNatClampNeg) ((0 : Int32).toNatClampNeg) m3.toNatClampNeg)) 6 (mi_cpy (a 30) (a 6) ((0 : Int32).toNatClampNeg) ((0 : Int32).toNatClampNeg) m3.toNatClampNeg)) q r) (by rfl) ?_
  have hJ7 := kG_al hJ6 14 rfl (l := mi_cpy (a 38) (a 14) ((0 : Int32).toNatClampNeg) ((0 : Int32).toNatClampNeg) ((5 : Int32).toNatClampNeg)) (kcpy_len2 (n := 5) (c := 5) (m := 5) (b := 5) (sp := 0) (dp := 0) (n1 := 5) (hJ6.I.2.1 38) rfl (hJ6.I.2.1 14) rfl (oz77 kn5) (oz66 kn0) (oz66 kn0) (oz78 kn0 kn5) (oz78 kn0 kn5)) (fun _ => kd_bd _)
  refine ko_copyI2 mi_in33 (l := a 38) (g := a 14) (n := 5) (c := 5) (m := 5) (b := 5) (by rfl) (by rfl) (by rfl) (by rfl) (by rfl) (by rfl) (hJ6.I.2.1 38) rfl (hJ6.I.2.1 14) rfl (oz77 kn5) (oz66 kn0) (oz66 kn0) (oz78 kn0 kn5) (oz78 kn0 kn5) (h5 := ks i (ku (ku (ku a 2 (mi_cpy (a 26) (a 2) ((0 : Int32).toNatClampNeg) ((0 : Int32).toNatClampNeg) m3.toNatClampNeg)) 6 (mi_cpy (a 30) (a 6) ((0 : Int32).toNatClampNeg) ((0 : Int32).toNatClampNeg) m3.toNatClampNeg)) 14 (mi_cpy (a 38) (a 14) ((0 : Int32).toNatClampNeg) ((0 : Int32).toNatClampNeg) ((5 : Int32).toNatClampNeg))) q r) (by rfl) ?_
  have hJ8 := kG_i hJ7 72 rfl (v := (i 1608)) (kd_bd _)
  have hJ9 := kG_i hJ8 73 rfl (v := (i 1609)) (kd_bd _)
  refine ko_steps mi_in33 12 _ (77, [(3, .int m3), (0, .ref 1), (1, .ref 25), (2, .int x2)], [.ref 31, .ref 7], (0, 0), ks (ku (ku i 72 (i 1608)) 73 (i 1609)) (ku (ku (ku a 2 (mi_cpy (a 26) (a 2) ((0 : Int32).toNatClampNeg) ((0 : Int32).toNatClampNeg) m3.toNatClampNeg)) 6 (mi_cpy (a 30) (a 6) ((0 : Int32).toNatClampNeg) ((0 : Int32).toNatClampNeg) m3.toNatClampNeg)) 14 (mi_cpy (a 38) (a 14) ((0 : Int32).toNatClampNeg) ((0 : Int32).toNatClampNeg) ((5 : Int32).toNatClampNeg))) q r) (by rfl) ?_
  refine ko_callN mi_in33 (pc := 77) (ls := [(3, .int m3), (0, .ref 1), (1, .ref 25), (2, .int x2)]) (st := [.ref 31, .ref 7]) (h := ks (ku (ku i 72 (i 1608)) 73 (i 1609)) (ku (ku (ku a 2 (mi_cpy (a 26) (a 2) ((0 : Int32).toNatClampNeg) ((0 : Int32).toNatClampNeg) m3.toNatClampNeg)) 6 (mi_cpy (a 30) (a 6) ((0 : Int32).toNatClampNeg) ((0 : Int32).toNatClampNeg) m3.toNatClampNeg)) 14 (mi_cpy (a 38) (a 14) ((0 : Int32).toNatClampNeg) ((0 : Int32).toNatClampNeg) ((5 : Int32).toNatClampNeg))) q r) (i := (.invokevirtual 139, 3, 3, 0, 9, 0, 217)) (by rfl) (by rfl) (cy := mi_c3) rfl rfl (kc3_7_31 hJ9.I hJ9.R ) (by decide) ?_
  intro ig10 ag10 qg10 rg10 kg10 hg10
  have hGg10 := kG_call hJ9 kg10 (by decide +kernel)
  exact ko_ret mi_in33 (by rfl) (hP  _ _ _ _ hGg10 trivial)
set_option maxRecDepth 100000 in
theorem kc10 {i : Nat → Int32} {a : Nat → List Int32} {q : Nat → List Int64} {r : Nat → Nat} (hI : kI i a q) (hr : kr r) (x1 : Int32) (x2 : Int32) : km 1 10 [.int x1, .int x2] (ks i a q r) (kPI (ks i a q r) (fun v => (v = 1 ∧ (True)) ∨ (v = 0 ∧ (True)))) := by
  have hG := kG_self kW0 hI hr
  refine km_ofPI (q := (mi_h10, mi_c10)) rfl (by decide) (Nat.le_of_ble_eq_true rfl) ?_
  intro P hP
  refine ko_steps mi_in10 4 _ (4, [(3, .int 0), (2, .int x1), (0, .int x1), (1, .int x2)], [], (0, 0), ks i a q r) (by rfl) ?_
  have lp1 : ∀ (n : Nat) (l3_1 : Int32) (l2_1 : Int32), (0 : Int) ≤ l3_1.toInt → ((8 - l3_1.toInt)).toNat < n → ko 1 (mi_h10, mi_c10) P (4, [(3, .int l3_1), (2, .int l2_1), (0, .int x1), (1, .int x2)], [], (0, 0), ks i a q r) := by
    intro n
    induction n with
    | zero =>
      intro _ _ _ hm
      exact absurd hm (Nat.not_lt_zero _)
    | succ n ih1 =>
      intro l3_1 l2_1 p1_0 hm1
      refine ko_steps mi_in10 2 _ (7, [(3, .int l3_1), (2, .int l2_1), (0, .int x1), (1, .int x2)], [.int 8, .int l3_1], (0, 0), ks i a q r) (by rfl) ?_
      refine ko_if mi_in10 (decide (8 ≤ l3_1)) 39 10 ([(3, .int l3_1), (2, .int l2_1), (0, .int x1), (1, .int x2)], [], (0, 0), ks i a q r) (by rfl) (fun c => ?_) (fun c => ?_)
      ·
        have c2 : (8 : Int32).toInt ≤ l3_1.toInt := kd_le c; clear c
        refine ko_steps mi_in10 1 _ (40, [(3, .int l3_1), (2, .int l2_1), (0, .int x1), (1, .int x2)], [.int 0], (0, 0), ks i a q r) (by rfl) ?_
        exact ko_ret mi_in10 (by rfl) (hP 0 (Or.inr ⟨rfl, trivial⟩))
      ·
        have c3 : l3_1.toInt < (8 : Int32).toInt := kd_leF c; clear c
        refine ko_steps mi_in10 1 _ (11, [(3, .int l3_1), (2, .int l2_1), (0, .int x1), (1, .int x2)], [.int l2_1], (0, 0), ks i a q r) (by rfl) ?_
        refine ko_if mi_in10 (decide (l2_1 < 0)) 39 14 ([(3, .int l3_1), (2, .int l2_1), (0, .int x1), (1, .int x2)], [], (0, 0), ks i a q r) (by rfl) (fun c => ?_) (fun c => ?_)
        ·
          have c4 : l2_1.toInt < (0 : Int32).toInt := kd_lt c; clear c
          refine ko_steps mi_in10 1 _ (40, [(3, .int l3_1), (2, .int l2_1), (0, .int x1), (1, .int x2)], [.int 0], (0, 0), ks i a q r) (by rfl) ?_
          exact ko_ret mi_in10 (by rfl) (hP 0 (Or.inr ⟨rfl, trivial⟩))
        ·
          have c5 : (0 : Int32).toInt ≤ l2_1.toInt := kd_ltF c; clear c
          refine ko_steps mi_in10 2 _ (17, [(3, .int l3_1), (2, .int l2_1), (0, .int x1), (1, .int x2)], [.int 8, .int l2_1], (0, 0), ks i a q r) (by rfl) ?_
          refine ko_if mi_in10 (decide (8 ≤ l2_1)) 39 20 ([(3, .int l3_1), (2, .int l2_1), (0, .int x1), (1, .int x2)], [], (0, 0), ks i a q r) (by rfl) (fun c => ?_) (fun c => ?_)
          ·
            have c6 : (8 : Int32).toInt ≤ l2_1.toInt := kd_le c; clear c
            refine ko_steps mi_in10 1 _ (40, [(3, .int l3_1), (2, .int l2_1), (0, .int x1), (1, .int x2)], [.int 0], (0, 0), ks i a q r) (by rfl) ?_
            exact ko_ret mi_in10 (by rfl) (hP 0 (Or.inr ⟨rfl, trivial⟩))
          ·
            have c7 : l2_1.toInt < (8 : Int32).toInt := kd_leF c; clear c
            refine ko_steps mi_in10 2 _ (22, [(3, .int l3_1), (2, .int l2_1), (0, .int x1), (1, .int x2)], [.int x2, .int l2_1], (0, 0), ks i a q r) (by rfl) ?_
            refine ko_if mi_in10 (l2_1 != x2) 27 25 ([(3, .int l3_1), (2, .int l2_1), (0, .int x1), (1, .int x2)], [], (0, 0), ks i a q r) (by rfl) (fun c => ?_) (fun c => ?_)
            ·
              have c8 : l2_1.toInt ≠ x2.toInt := kd_ne c; clear c
              refine ko_steps mi_in10 2 _ (31, [(3, .int l3_1), (2, .int l2_1), (0, .int x1), (1, .int x2)], [.int l2_1, .ref (mi_RO + 4)], (0, 0), ks i a q r) (by rfl) ?_
              refine ko_iaro2 mi_in10 (l := [(-1), 0, 0, 2, 1, 3, 0, 4]) (n := 8) (c := 8) (ax := (0, 0, 0, 0, 0)) (by rfl) (by rfl) (by rfl) rfl rfl (oz16 c5 kn0) (oz51 c7 kn8) ?_
              have r9 : ((-1 : Int) ≤ (([(-1), 0, 0, 2, 1, 3, 0, 4] : List Int32).getD l2_1.toNatClampNeg 0).toInt) ∧ ((([(-1), 0, 0, 2, 1, 3, 0, 4] : List Int32).getD l2_1.toNatClampNeg 0).toInt ≤ 4) := kro_rng (lo := -1) (hi := 4) (by decide) (l2_1.toNatClampNeg)
              have s10 : (l3_1 + 1).toInt = l3_1.toInt + (1 : Int32).toInt := kd_add (oz52 p1_0 kn1) (oz63 c3 kn8 kn1)
              refine ko_steps mi_in10 3 _ (4, [(3, .int (l3_1 + 1)), (2, .int (([(-1), 0, 0, 2, 1, 3, 0, 4] : List Int32).getD l2_1.toNatClampNeg 0)), (0, .int x1), (1, .int x2)], [], (0, 0), ks i a q r) (by rfl) ?_
              exact ih1 _ _ (oz54 p1_0 s10 kn1) (kj_meas (oz64 s10 kn1) (oz65 c3 kn8) hm1)
            ·
              have c11 : l2_1.toInt = x2.toInt := kd_neF c; clear c
              refine ko_steps mi_in10 1 _ (26, [(3, .int l3_1), (2, .int l2_1), (0, .int x1), (1, .int x2)], [.int 1], (0, 0), ks i a q r) (by rfl) ?_
              exact ko_ret mi_in10 (by rfl) (hP 1 (Or.inl ⟨rfl, trivial⟩))
  exact lp1 _ _ _ (oz66 kn0) (Nat.lt_succ_self _)
set_option maxRecDepth 100000 in
theorem kc11 {i : Nat → Int32} {a : Nat → List Int32} {q : Nat → List Int64} {r : Nat → Nat} (hI : kI i a q) (hr : kr r) (x1 : Int32) (x2 : Int32) (hp0 : ((0 : Int) ≤ x2.toInt) ∧ (x2.toInt ≤ 3)) : km 1 11 [.int x1, .int x2] (ks i a q r) (kPI (ks i a q r) (fun v => ((0 : Int) ≤ v.toInt) ∧ (v.toInt ≤ 7))) := by
  have hG := kG_self kW0 hI hr
  refine km_ofPI (q := (mi_h11, mi_c11)) rfl (by decide) (Nat.le_of_ble_eq_true rfl) ?_
  intro P hP
  refine ko_steps mi_in11 4 _ (4, [(3, .int 0), (2, .int x1), (0, .int x1), (1, .int x2)], [], (0, 0), ks i a q r) (by rfl) ?_
  have lp1 : ∀ (n : Nat) (l3_1 : Int32) (l2_1 : Int32), (0 : Int) ≤ l3_1.toInt → ((8 - l3_1.toInt)).toNat < n → ko 1 (mi_h11, mi_c11) P (4, [(3, .int l3_1), (2, .int l2_1), (0, .int x1), (1, .int x2)], [], (0, 0), ks i a q r) := by
    intro n
    induction n with
    | zero =>
      intro _ _ _ hm
      exact absurd hm (Nat.not_lt_zero _)
    | succ n ih1 =>
      intro l3_1 l2_1 p1_0 hm1
      refine ko_steps mi_in11 2 _ (7, [(3, .int l3_1), (2, .int l2_1), (0, .int x1), (1, .int x2)], [.int 8, .int l3_1], (0, 0), ks i a q r) (by rfl) ?_
      refine ko_if mi_in11 (decide (8 ≤ l3_1)) 46 10 ([(3, .int l3_1), (2, .int l2_1), (0, .int x1), (1, .int x2)], [], (0, 0), ks i a q r) (by rfl) (fun c => ?_) (fun c => ?_)
      ·
        have c2 : (8 : Int32).toInt ≤ l3_1.toInt := kd_le c; clear c
        refine ko_steps mi_in11 1 _ (47, [(3, .int l3_1), (2, .int l2_1), (0, .int x1), (1, .int x2)], [.int 0], (0, 0), ks i a q r) (by rfl) ?_
        exact ko_ret mi_in11 (by rfl) (hP 0 (oz109 kn0))
      ·
        have c3 : l3_1.toInt < (8 : Int32).toInt := kd_leF c; clear c
        refine ko_steps mi_in11 1 _ (11, [(3, .int l3_1), (2, .int l2_1), (0, .int x1), (1, .int x2)], [.int l2_1], (0, 0), ks i a q r) (by rfl) ?_
        refine ko_if mi_in11 (decide (l2_1 ≤ 0)) 46 14 ([(3, .int l3_1), (2, .int l2_1), (0, .int x1), (1, .int x2)], [], (0, 0), ks i a q r) (by rfl) (fun c => ?_) (fun c => ?_)
        ·
          have c4 : l2_1.toInt ≤ (0 : Int32).toInt := kd_le c; clear c
          refine ko_steps mi_in11 1 _ (47, [(3, .int l3_1), (2, .int l2_1), (0, .int x1), (1, .int x2)], [.int 0], (0, 0), ks i a q r) (by rfl) ?_
          exact ko_ret mi_in11 (by rfl) (hP 0 (oz109 kn0))
        ·
          have c5 : (0 : Int32).toInt < l2_1.toInt := kd_leF c; clear c
          refine ko_steps mi_in11 2 _ (17, [(3, .int l3_1), (2, .int l2_1), (0, .int x1), (1, .int x2)], [.int 8, .int l2_1], (0, 0), ks i a q r) (by rfl) ?_
          refine ko_if mi_in11 (decide (8 ≤ l2_1)) 46 20 ([(3, .int l3_1), (2, .int l2_1), (0, .int x1), (1, .int x2)], [], (0, 0), ks i a q r) (by rfl) (fun c => ?_) (fun c => ?_)
          ·
            have c6 : (8 : Int32).toInt ≤ l2_1.toInt := kd_le c; clear c
            refine ko_steps mi_in11 1 _ (47, [(3, .int l3_1), (2, .int l2_1), (0, .int x1), (1, .int x2)], [.int 0], (0, 0), ks i a q r) (by rfl) ?_
            exact ko_ret mi_in11 (by rfl) (hP 0 (oz109 kn0))
          ·
            have c7 : l2_1.toInt < (8 : Int32).toInt := kd_leF c; clear c
            have s8 : (l2_1 * 4).toInt = l2_1.toInt * 4 := kd_mulc 4 kn4 (oz110 c5 kn0) (oz111 c7 kn8)
            have s9 : ((l2_1 * 4) + x2).toInt = (l2_1 * 4).toInt + x2.toInt := kd_add (oz112 c5 hp0.1 s8 kn0) (oz113 c7 hp0.2 s8 kn8)
            refine ko_steps mi_in11 6 _ (28, [(3, .int l3_1), (2, .int l2_1), (0, .int x1), (1, .int x2)], [.int ((l2_1 * 4) + x2), .ref (mi_RO + 3)], (0, 0), ks i a q r) (by rfl) ?_
            refine ko_iaro2 mi_in11 (l := [1, 10, 11, 2, 20, 0, 0, 0, 0, 30, 0, 0, 0, 41, 40, 0, 0, 0, 50, 0, 0, 0, 0, 60, 70, 0, 0, 0, 0, 80, 0, 81]) (n := 32) (c := 32) (ax := (0, 0, 0, 0, 0)) (by rfl) (by rfl) (by rfl) rfl rfl (oz114 c5 hp0.1 s8 s9 kn0) (oz115 c7 hp0.2 s8 s9 kn8) ?_
            have r10 : ((0 : Int) ≤ (([1, 10, 11, 2, 20, 0, 0, 0, 0, 30, 0, 0, 0, 41, 40, 0, 0, 0, 50, 0, 0, 0, 0, 60, 70, 0, 0, 0, 0, 80, 0, 81] : List Int32).getD ((l2_1 * 4) + x2).toNatClampNeg 0).toInt) ∧ ((([1, 10, 11, 2, 20, 0, 0, 0, 0, 30, 0, 0, 0, 41, 40, 0, 0, 0, 50, 0, 0, 0, 0, 60, 70, 0, 0, 0, 0, 80, 0, 81] : List Int32).getD ((l2_1 * 4) + x2).toNatClampNeg 0).toInt ≤ 81) := kro_rng (lo := 0) (hi := 81) (by decide) (((l2_1 * 4) + x2).toNatClampNeg)
            refine ko_if mi_in11 ((([1, 10, 11, 2, 20, 0, 0, 0, 0, 30, 0, 0, 0, 41, 40, 0, 0, 0, 50, 0, 0, 0, 0, 60, 70, 0, 0, 0, 0, 80, 0, 81] : List Int32).getD ((l2_1 * 4) + x2).toNatClampNeg 0) == 0) 34 32 ([(3, .int l3_1), (2, .int l2_1), (0, .int x1), (1, .int x2)], [], (0, 0), ks i a q r) (by rfl) (fun c => ?_) (fun c => ?_)
            ·
              have c11 : (([1, 10, 11, 2, 20, 0, 0, 0, 0, 30, 0, 0, 0, 41, 40, 0, 0, 0, 50, 0, 0, 0, 0, 60, 70, 0, 0, 0, 0, 80, 0, 81] : List Int32).getD ((l2_1 * 4) + x2).toNatClampNeg 0).toInt = (0 : Int32).toInt := kd_eq c; clear c
              refine ko_steps mi_in11 2 _ (38, [(3, .int l3_1), (2, .int l2_1), (0, .int x1), (1, .int x2)], [.int l2_1, .ref (mi_RO + 4)], (0, 0), ks i a q r) (by rfl) ?_
              refine ko_iaro2 mi_in11 (l := [(-1), 0, 0, 2, 1, 3, 0, 4]) (n := 8) (c := 8) (ax := (0, 0, 0, 0, 0)) (by rfl) (by rfl) (by rfl) rfl rfl (oz116 c5 kn0) (oz51 c7 kn8) ?_
              have r12 : ((-1 : Int) ≤ (([(-1), 0, 0, 2, 1, 3, 0, 4] : List Int32).getD l2_1.toNatClampNeg 0).toInt) ∧ ((([(-1), 0, 0, 2, 1, 3, 0, 4] : List Int32).getD l2_1.toNatClampNeg 0).toInt ≤ 4) := kro_rng (lo := -1) (hi := 4) (by decide) (l2_1.toNatClampNeg)
              have s13 : (l3_1 + 1).toInt = l3_1.toInt + (1 : Int32).toInt := kd_add (oz52 p1_0 kn1) (oz63 c3 kn8 kn1)
              refine ko_steps mi_in11 3 _ (4, [(3, .int (l3_1 + 1)), (2, .int (([(-1), 0, 0, 2, 1, 3, 0, 4] : List Int32).getD l2_1.toNatClampNeg 0)), (0, .int x1), (1, .int x2)], [], (0, 0), ks i a q r) (by rfl) ?_
              exact ih1 _ _ (oz54 p1_0 s13 kn1) (kj_meas (oz64 s13 kn1) (oz65 c3 kn8) hm1)
            ·
              have c14 : (([1, 10, 11, 2, 20, 0, 0, 0, 0, 30, 0, 0, 0, 41, 40, 0, 0, 0, 50, 0, 0, 0, 0, 60, 70, 0, 0, 0, 0, 80, 0, 81] : List Int32).getD ((l2_1 * 4) + x2).toNatClampNeg 0).toInt ≠ (0 : Int32).toInt := kd_eqF c; clear c
              refine ko_steps mi_in11 1 _ (33, [(3, .int l3_1), (2, .int l2_1), (0, .int x1), (1, .int x2)], [.int l2_1], (0, 0), ks i a q r) (by rfl) ?_
              exact ko_ret mi_in11 (by rfl) (hP l2_1 (oz117 c5 c7 kn0 kn8))
  exact lp1 _ _ _ (oz66 kn0) (Nat.lt_succ_self _)
def w9_94 : kW := ([6017], [95], [], [])
set_option maxRecDepth 100000 in
theorem kc9_94 {i : Nat → Int32} {a : Nat → List Int32} {q : Nat → List Int64} {r : Nat → Nat} (hI : kI i a q) (hr : kr r) (x1 : Int32) (hp0 : ((0 : Int) ≤ x1.toInt) ∧ (x1.toInt ≤ 7)) : km 1 9 [.ref 94, .int x1] (ks i a q r) (kVI w9_94 i a q r (fun v i1 a1 q1 r1 => True)) := by
  have hG := kG_self w9_94 hI hr
  refine km_ofI (q := (mi_h9, mi_c9)) rfl (by decide) (Nat.le_of_ble_eq_true rfl) ?_
  intro P hP
  have fi_6017 : ((0 : Int) ≤ (i 6017).toInt) ∧ ((i 6017).toInt ≤ 50) := hG.I.1 6017
  refine ko_steps mi_in9 3 _ (6, [(0, .ref 94), (1, .int x1)], [.int 50, .int (i 6017)], (0, 0), ks i a q r) (by rfl) ?_
  refine ko_if mi_in9 (decide ((i 6017) < 50)) 12 9 ([(0, .ref 94), (1, .int x1)], [], (0, 0), ks i a q r) (by rfl) (fun c => ?_) (fun c => ?_)
  ·
    have c1 : (i 6017).toInt < (50 : Int32).toInt := kd_lt c; clear c
    refine ko_steps mi_in9 5 _ (21, [(0, .ref 94), (1, .int x1)], [.int x1, .int (i 6017), .ref 95], (0, 0), ks i a q r) (by rfl) ?_
    have hJ2 := kG_a hG 95 rfl ((i 6017).toNatClampNeg) (v := x1) ⟨(oz50 hp0.1), (oz119 hp0.2)⟩
    refine ko_iast2 mi_in9 (l := a 95) (n := 50) (c := 50) (ax := (0, 0, 0, 0, 0)) (by rfl) (by rfl) (by rfl) (hG.I.2.1 95) rfl (oz50 fi_6017.1) (oz118 c1 kn50) (h2 := ks i (ku a 95 ((a 95).set (i 6017).toNatClampNeg x1)) q r) (by rfl) ?_
    have s3 : ((i 6017) + 1).toInt = (i 6017).toInt + (1 : Int32).toInt := kd_add (oz52 fi_6017.1 kn1) (oz120 fi_6017.2 kn1)
    have hJ4 := kG_i hJ2 6017 rfl (v := ((i 6017) + 1)) ⟨(oz54 fi_6017.1 s3 kn1), (oz121 c1 s3 kn50 kn1)⟩
    have s5 : (((i 6017) + 1) - 1).toInt = ((i 6017) + 1).toInt - (1 : Int32).toInt := kd_sub (oz56 fi_6017.1 s3 kn1) (oz122 fi_6017.2 s3 kn1)
    refine ko_steps mi_in9 10 _ (38, [(0, .ref 94), (1, .int x1)], [.int (((i 6017) + 1) - 1)], (0, 0), ks (ku i 6017 ((i 6017) + 1)) (ku a 95 ((a 95).set (i 6017).toNatClampNeg x1)) q r) (by rfl) ?_
    exact ko_ret mi_in9 (by rfl) (hP (((i 6017) + 1) - 1) _ _ _ _ hJ4 trivial)
  ·
    have c6 : (50 : Int32).toInt ≤ (i 6017).toInt := kd_ltF c; clear c
    refine ko_steps mi_in9 1 _ (11, [(0, .ref 94), (1, .int x1)], [.int (-3)], (0, 0), ks i a q r) (by rfl) ?_
    exact ko_ret mi_in9 (by rfl) (hP (-3) _ _ _ _ hG trivial)
