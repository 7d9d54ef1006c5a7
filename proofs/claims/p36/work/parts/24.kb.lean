set_option maxRecDepth 100000 in
theorem kc24_1 {i : Nat → Int32} {a : Nat → List Int32} {q : Nat → List Int64} {r : Nat → Nat} (hI : kI i a q) (x : Int32) : km 1 24 [.ref 1, .int x] (ks i a q r) (kB (0 ≤ x.toInt ∧ x.toInt < (i 64).toInt) (ks i a q r)) := by
  have n0 : (0 : Int32).toInt = 0 := by decide
  have n1 : (1 : Int32).toInt = 1 := by decide
  have n8 : (8 : Int32).toInt = 8 := by decide
  have hG : kG [] [] [] i a q i a q := kG_self hI
  refine km_of (q := (mi_h24, mi_c24)) rfl (by decide) (Nat.le_of_ble_eq_true rfl) ?_
  refine ko_steps mi_in24 1 _ (1, [(0, .ref 1), (1, .int x)], [.int x], (0, 0), ks i a q r) (by rfl) ?_
  refine ko_if mi_in24 (decide (x < 0)) 22 4 ([(0, .ref 1), (1, .int x)], [], (0, 0), ks i a q r) (by rfl) (fun c => ?_) (fun c => ?_)
  ·
    have c1 := kd_lt c
    clear c
    refine ko_steps mi_in24 1 _ (23, [(0, .ref 1), (1, .int x)], [.int 0], (0, 0), ks i a q r) (by rfl) ?_
    exact ko_ret mi_in24 (by rfl) ⟨rfl, 0, rfl, Or.inr ⟨rfl, by omega⟩⟩
  ·
    have c2 := kd_ltF c
    clear c
    have f64 : (0 : Int) ≤ (i 64).toInt ∧ (i 64).toInt ≤ 8 := hI.1 64
    refine ko_steps mi_in24 3 _ (9, [(0, .ref 1), (1, .int x)], [.int (i 64), .int x], (0, 0), ks i a q r) (by rfl) ?_
    refine ko_if mi_in24 (decide ((i 64) ≤ x)) 22 12 ([(0, .ref 1), (1, .int x)], [], (0, 0), ks i a q r) (by rfl) (fun c => ?_) (fun c => ?_)
    ·
      have c3 := kd_le c
      clear c
      refine ko_steps mi_in24 1 _ (23, [(0, .ref 1), (1, .int x)], [.int 0], (0, 0), ks i a q r) (by rfl) ?_
      exact ko_ret mi_in24 (by rfl) ⟨rfl, 0, rfl, Or.inr ⟨rfl, by omega⟩⟩
    ·
      have c4 := kd_leF c
      clear c
      refine ko_steps mi_in24 2 _ (15, [(0, .ref 1), (1, .int x)], [.int 8, .int x], (0, 0), ks i a q r) (by rfl) ?_
      refine ko_if mi_in24 (decide (8 ≤ x)) 22 18 ([(0, .ref 1), (1, .int x)], [], (0, 0), ks i a q r) (by rfl) (fun c => ?_) (fun c => ?_)
      ·
        have c5 := kd_le c
        clear c
        refine ko_steps mi_in24 1 _ (23, [(0, .ref 1), (1, .int x)], [.int 0], (0, 0), ks i a q r) (by rfl) ?_
        exact ko_ret mi_in24 (by rfl) ⟨rfl, 0, rfl, Or.inr ⟨rfl, by omega⟩⟩
      ·
        have c6 := kd_leF c
        clear c
        refine ko_steps mi_in24 2 _ (23, [(0, .ref 1), (1, .int x)], [.int 1], (0, 0), ks i a q r) (by rfl) ?_
        exact ko_ret mi_in24 (by rfl) ⟨rfl, 1, rfl, Or.inl ⟨rfl, by omega⟩⟩
set_option maxRecDepth 100000 in
theorem kc24_25 {i : Nat → Int32} {a : Nat → List Int32} {q : Nat → List Int64} {r : Nat → Nat} (hI : kI i a q) (x : Int32) : km 1 24 [.ref 25, .int x] (ks i a q r) (kB (0 ≤ x.toInt ∧ x.toInt < (i 1600).toInt) (ks i a q r)) := by
  have n0 : (0 : Int32).toInt = 0 := by decide
  have n1 : (1 : Int32).toInt = 1 := by decide
  have n8 : (8 : Int32).toInt = 8 := by decide
  have hG : kG [] [] [] i a q i a q := kG_self hI
  refine km_of (q := (mi_h24, mi_c24)) rfl (by decide) (Nat.le_of_ble_eq_true rfl) ?_
  refine ko_steps mi_in24 1 _ (1, [(0, .ref 25), (1, .int x)], [.int x], (0, 0), ks i a q r) (by rfl) ?_
  refine ko_if mi_in24 (decide (x < 0)) 22 4 ([(0, .ref 25), (1, .int x)], [], (0, 0), ks i a q r) (by rfl) (fun c => ?_) (fun c => ?_)
  ·
    have c1 := kd_lt c
    clear c
    refine ko_steps mi_in24 1 _ (23, [(0, .ref 25), (1, .int x)], [.int 0], (0, 0), ks i a q r) (by rfl) ?_
    exact ko_ret mi_in24 (by rfl) ⟨rfl, 0, rfl, Or.inr ⟨rfl, by omega⟩⟩
  ·
    have c2 := kd_ltF c
    clear c
    have f1600 : (0 : Int) ≤ (i 1600).toInt ∧ (i 1600).toInt ≤ 8 := hI.1 1600
    refine ko_steps mi_in24 3 _ (9, [(0, .ref 25), (1, .int x)], [.int (i 1600), .int x], (0, 0), ks i a q r) (by rfl) ?_
    refine ko_if mi_in24 (decide ((i 1600) ≤ x)) 22 12 ([(0, .ref 25), (1, .int x)], [], (0, 0), ks i a q r) (by rfl) (fun c => ?_) (fun c => ?_)
    ·
      have c3 := kd_le c
      clear c
      refine ko_steps mi_in24 1 _ (23, [(0, .ref 25), (1, .int x)], [.int 0], (0, 0), ks i a q r) (by rfl) ?_
      exact ko_ret mi_in24 (by rfl) ⟨rfl, 0, rfl, Or.inr ⟨rfl, by omega⟩⟩
    ·
      have c4 := kd_leF c
      clear c
      refine ko_steps mi_in24 2 _ (15, [(0, .ref 25), (1, .int x)], [.int 8, .int x], (0, 0), ks i a q r) (by rfl) ?_
      refine ko_if mi_in24 (decide (8 ≤ x)) 22 18 ([(0, .ref 25), (1, .int x)], [], (0, 0), ks i a q r) (by rfl) (fun c => ?_) (fun c => ?_)
      ·
        have c5 := kd_le c
        clear c
        refine ko_steps mi_in24 1 _ (23, [(0, .ref 25), (1, .int x)], [.int 0], (0, 0), ks i a q r) (by rfl) ?_
        exact ko_ret mi_in24 (by rfl) ⟨rfl, 0, rfl, Or.inr ⟨rfl, by omega⟩⟩
      ·
        have c6 := kd_leF c
        clear c
        refine ko_steps mi_in24 2 _ (23, [(0, .ref 25), (1, .int x)], [.int 1], (0, 0), ks i a q r) (by rfl) ?_
        exact ko_ret mi_in24 (by rfl) ⟨rfl, 1, rfl, Or.inl ⟨rfl, by omega⟩⟩
set_option maxRecDepth 100000 in
theorem kc24_50 {i : Nat → Int32} {a : Nat → List Int32} {q : Nat → List Int64} {r : Nat → Nat} (hI : kI i a q) (x : Int32) : km 1 24 [.ref 50, .int x] (ks i a q r) (kB (0 ≤ x.toInt ∧ x.toInt < (i 3200).toInt) (ks i a q r)) := by
  have n0 : (0 : Int32).toInt = 0 := by decide
  have n1 : (1 : Int32).toInt = 1 := by decide
  have n8 : (8 : Int32).toInt = 8 := by decide
  have hG : kG [] [] [] i a q i a q := kG_self hI
  refine km_of (q := (mi_h24, mi_c24)) rfl (by decide) (Nat.le_of_ble_eq_true rfl) ?_
  refine ko_steps mi_in24 1 _ (1, [(0, .ref 50), (1, .int x)], [.int x], (0, 0), ks i a q r) (by rfl) ?_
  refine ko_if mi_in24 (decide (x < 0)) 22 4 ([(0, .ref 50), (1, .int x)], [], (0, 0), ks i a q r) (by rfl) (fun c => ?_) (fun c => ?_)
  ·
    have c1 := kd_lt c
    clear c
    refine ko_steps mi_in24 1 _ (23, [(0, .ref 50), (1, .int x)], [.int 0], (0, 0), ks i a q r) (by rfl) ?_
    exact ko_ret mi_in24 (by rfl) ⟨rfl, 0, rfl, Or.inr ⟨rfl, by omega⟩⟩
  ·
    have c2 := kd_ltF c
    clear c
    have f3200 : (0 : Int) ≤ (i 3200).toInt ∧ (i 3200).toInt ≤ 8 := hI.1 3200
    refine ko_steps mi_in24 3 _ (9, [(0, .ref 50), (1, .int x)], [.int (i 3200), .int x], (0, 0), ks i a q r) (by rfl) ?_
    refine ko_if mi_in24 (decide ((i 3200) ≤ x)) 22 12 ([(0, .ref 50), (1, .int x)], [], (0, 0), ks i a q r) (by rfl) (fun c => ?_) (fun c => ?_)
    ·
      have c3 := kd_le c
      clear c
      refine ko_steps mi_in24 1 _ (23, [(0, .ref 50), (1, .int x)], [.int 0], (0, 0), ks i a q r) (by rfl) ?_
      exact ko_ret mi_in24 (by rfl) ⟨rfl, 0, rfl, Or.inr ⟨rfl, by omega⟩⟩
    ·
      have c4 := kd_leF c
      clear c
      refine ko_steps mi_in24 2 _ (15, [(0, .ref 50), (1, .int x)], [.int 8, .int x], (0, 0), ks i a q r) (by rfl) ?_
      refine ko_if mi_in24 (decide (8 ≤ x)) 22 18 ([(0, .ref 50), (1, .int x)], [], (0, 0), ks i a q r) (by rfl) (fun c => ?_) (fun c => ?_)
      ·
        have c5 := kd_le c
        clear c
        refine ko_steps mi_in24 1 _ (23, [(0, .ref 50), (1, .int x)], [.int 0], (0, 0), ks i a q r) (by rfl) ?_
        exact ko_ret mi_in24 (by rfl) ⟨rfl, 0, rfl, Or.inr ⟨rfl, by omega⟩⟩
      ·
        have c6 := kd_leF c
        clear c
        refine ko_steps mi_in24 2 _ (23, [(0, .ref 50), (1, .int x)], [.int 1], (0, 0), ks i a q r) (by rfl) ?_
        exact ko_ret mi_in24 (by rfl) ⟨rfl, 1, rfl, Or.inl ⟨rfl, by omega⟩⟩
set_option maxRecDepth 100000 in
theorem kc123_0 {i : Nat → Int32} {a : Nat → List Int32} {q : Nat → List Int64} {r : Nat → Nat} (hI : kI i a q) (x : Int32) : km 3 123 [.ref 0, .int x] (ks i a q r) (kB (0 ≤ x.toInt ∧ x.toInt < (i 64).toInt) (ks i a q r)) := by
  have n0 : (0 : Int32).toInt = 0 := by decide
  have n1 : (1 : Int32).toInt = 1 := by decide
  have hG : kG [] [] [] i a q i a q := kG_self hI
  refine km_of (q := (mi_h123, mi_c123)) rfl (by decide) (Nat.le_of_ble_eq_true rfl) ?_
  refine ko_steps mi_in123 3 _ (5, [(0, .ref 0), (1, .int x)], [.int x, .ref 1], (0, 0), ks i a q r) (by rfl) ?_
  refine ko_call mi_in123 (i := (.invokevirtual 342, 3, 24, 0, 9, 0, 163)) (by rfl) (by rfl) (cy := mi_c24) rfl (kc24_1 hG.1 x) (by decide) ⟨Nat.le_of_ble_eq_true rfl, Nat.le_of_ble_eq_true rfl⟩ ?_
  rintro _ _ ⟨rfl, _, rfl, ⟨rfl, eg1⟩ | ⟨rfl, eg1⟩⟩
  ·
    show ko _ _ _ (8, [(0, .ref 0), (1, .int x)], [.int 1], (0, 0), ks i a q r)
    exact ko_ret mi_in123 (by rfl) ⟨rfl, 1, rfl, Or.inl ⟨rfl, by omega⟩⟩
  ·
    show ko _ _ _ (8, [(0, .ref 0), (1, .int x)], [.int 0], (0, 0), ks i a q r)
    exact ko_ret mi_in123 (by rfl) ⟨rfl, 0, rfl, Or.inr ⟨rfl, by omega⟩⟩
set_option maxRecDepth 100000 in
theorem kc121 {i : Nat → Int32} {a : Nat → List Int32} {q : Nat → List Int64} {r : Nat → Nat} (hI : kI i a q) (x : Int32) : km 3 121 [.int x] (ks i a q r) (kB (0 ≤ x.toInt ∧ x.toInt ≤ 5) (ks i a q r)) := by
  have n0 : (0 : Int32).toInt = 0 := by decide
  have n1 : (1 : Int32).toInt = 1 := by decide
  have n5 : (5 : Int32).toInt = 5 := by decide
  have hG : kG [] [] [] i a q i a q := kG_self hI
  refine km_of (q := (mi_h121, mi_c121)) rfl (by decide) (Nat.le_of_ble_eq_true rfl) ?_
  refine ko_steps mi_in121 3 _ (3, [(0, .int x)], [.int 5, .int 0, .int x], (0, 0), ks i a q r) (by rfl) ?_
  refine ko_call mi_in121 (i := (.invokestatic 74, 3, 120, 0, 9, 0, 152)) (by rfl) (by rfl) (cy := mi_c120) rfl (kc120 _ x 0 5) (by decide) ⟨Nat.le_of_ble_eq_true rfl, Nat.le_of_ble_eq_true rfl⟩ ?_
  rintro _ _ ⟨rfl, _, rfl, ⟨rfl, eg1⟩ | ⟨rfl, eg1⟩⟩
  ·
    show ko _ _ _ (6, [(0, .int x)], [.int 1], (0, 0), ks i a q r)
    exact ko_ret mi_in121 (by rfl) ⟨rfl, 1, rfl, Or.inl ⟨rfl, by omega⟩⟩
  ·
    show ko _ _ _ (6, [(0, .int x)], [.int 0], (0, 0), ks i a q r)
    exact ko_ret mi_in121 (by rfl) ⟨rfl, 0, rfl, Or.inr ⟨rfl, by omega⟩⟩
set_option maxRecDepth 100000 in
theorem kc122 {i : Nat → Int32} {a : Nat → List Int32} {q : Nat → List Int64} {r : Nat → Nat} (hI : kI i a q) (x : Int32) : km 4 122 [.int x] (ks i a q r) (kB (0 ≤ (x).toInt ∧ (0 ≤ (x / 10).toInt ∧ (x / 10).toInt ≤ 5) ∧ (0 ≤ (x - x / 10 * 10).toInt ∧ (x - x / 10 * 10).toInt ≤ 5)) (ks i a q r)) := by
  have n0 : (0 : Int32).toInt = 0 := by decide
  have n1 : (1 : Int32).toInt = 1 := by decide
  have n10 : (10 : Int32).toInt = 10 := by decide
  have hG : kG [] [] [] i a q i a q := kG_self hI
  refine km_of (q := (mi_h122, mi_c122)) rfl (by decide) (Nat.le_of_ble_eq_true rfl) ?_
  refine ko_steps mi_in122 1 _ (1, [(0, .int x)], [.int x], (0, 0), ks i a q r) (by rfl) ?_
  refine ko_if mi_in122 (decide (x < 0)) 28 4 ([(0, .int x)], [], (0, 0), ks i a q r) (by rfl) (fun c => ?_) (fun c => ?_)
  ·
    have c1 := kd_lt c
    clear c
    refine ko_steps mi_in122 1 _ (29, [(0, .int x)], [.int 0], (0, 0), ks i a q r) (by rfl) ?_
    exact ko_ret mi_in122 (by rfl) ⟨rfl, 0, rfl, Or.inr ⟨rfl, by omega⟩⟩
  ·
    have c2 := kd_ltF c
    clear c
    refine ko_steps mi_in122 3 _ (8, [(0, .int x)], [.int ((x / 10))], (0, 0), ks i a q r) (by rfl) ?_
    refine ko_call mi_in122 (i := (.invokestatic 70, 3, 121, 0, 9, 0, 157)) (by rfl) (by rfl) (cy := mi_c121) rfl (kc121 hG.1 (((x / 10)))) (by decide) ⟨Nat.le_of_ble_eq_true rfl, Nat.le_of_ble_eq_true rfl⟩ ?_
    rintro _ _ ⟨rfl, _, rfl, ⟨rfl, eg3⟩ | ⟨rfl, eg3⟩⟩
    ·
      show ko _ _ _ (11, [(0, .int x)], [.int 1], (0, 0), ks i a q r)
      refine ko_steps mi_in122 4 _ (18, [(0, .int x)], [.int ((x - x / 10 * 10))], (0, 0), ks i a q r) (by rfl) ?_
      refine ko_call mi_in122 (i := (.invokestatic 70, 3, 121, 0, 9, 0, 157)) (by rfl) (by rfl) (cy := mi_c121) rfl (kc121 hG.1 (((x - x / 10 * 10)))) (by decide) ⟨Nat.le_of_ble_eq_true rfl, Nat.le_of_ble_eq_true rfl⟩ ?_
      rintro _ _ ⟨rfl, _, rfl, ⟨rfl, eg4⟩ | ⟨rfl, eg4⟩⟩
      ·
        show ko _ _ _ (21, [(0, .int x)], [.int 1], (0, 0), ks i a q r)
        refine ko_steps mi_in122 3 _ (29, [(0, .int x)], [.int 1], (0, 0), ks i a q r) (by rfl) ?_
        exact ko_ret mi_in122 (by rfl) ⟨rfl, 1, rfl, Or.inl ⟨rfl, by omega⟩⟩
      ·
        show ko _ _ _ (21, [(0, .int x)], [.int 0], (0, 0), ks i a q r)
        refine ko_steps mi_in122 2 _ (29, [(0, .int x)], [.int 0], (0, 0), ks i a q r) (by rfl) ?_
        exact ko_ret mi_in122 (by rfl) ⟨rfl, 0, rfl, Or.inr ⟨rfl, by omega⟩⟩
    ·
      show ko _ _ _ (11, [(0, .int x)], [.int 0], (0, 0), ks i a q r)
      refine ko_steps mi_in122 2 _ (29, [(0, .int x)], [.int 0], (0, 0), ks i a q r) (by rfl) ?_
      exact ko_ret mi_in122 (by rfl) ⟨rfl, 0, rfl, Or.inr ⟨rfl, by omega⟩⟩
set_option maxRecDepth 100000 in
theorem kc124_0 {i : Nat → Int32} {a : Nat → List Int32} {q : Nat → List Int64} {r : Nat → Nat} (hI : kI i a q) (x : Int32) : km 5 124 [.ref 0, .int x] (ks i a q r) (kB (0 ≤ (x).toInt ∧ (0 ≤ (x / 10).toInt ∧ (x / 10).toInt < (i 64).toInt) ∧ (0 ≤ (x - x / 10 * 10).toInt ∧ (x - x / 10 * 10).toInt < (i 64).toInt) ∧ (x / 10).toInt ≠ (x - x / 10 * 10).toInt) (ks i a q r)) := by
  have n0 : (0 : Int32).toInt = 0 := by decide
  have n1 : (1 : Int32).toInt = 1 := by decide
  have n10 : (10 : Int32).toInt = 10 := by decide
  have hG : kG [] [] [] i a q i a q := kG_self hI
  refine km_of (q := (mi_h124, mi_c124)) rfl (by decide) (Nat.le_of_ble_eq_true rfl) ?_
  refine ko_steps mi_in124 1 _ (1, [(0, .ref 0), (1, .int x)], [.int x], (0, 0), ks i a q r) (by rfl) ?_
  refine ko_if mi_in124 (decide (x < 0)) 41 4 ([(0, .ref 0), (1, .int x)], [], (0, 0), ks i a q r) (by rfl) (fun c => ?_) (fun c => ?_)
  ·
    have c1 := kd_lt c
    clear c
    refine ko_steps mi_in124 1 _ (42, [(0, .ref 0), (1, .int x)], [.int 0], (0, 0), ks i a q r) (by rfl) ?_
    exact ko_ret mi_in124 (by rfl) ⟨rfl, 0, rfl, Or.inr ⟨rfl, by omega⟩⟩
  ·
    have c2 := kd_ltF c
    clear c
    refine ko_steps mi_in124 4 _ (9, [(0, .ref 0), (1, .int x)], [.int ((x / 10)), .ref 0], (0, 0), ks i a q r) (by rfl) ?_
    refine ko_call mi_in124 (i := (.invokevirtual 141, 3, 123, 0, 9, 0, 162)) (by rfl) (by rfl) (cy := mi_c123) rfl (kc123_0 hG.1 (((x / 10)))) (by decide) ⟨Nat.le_of_ble_eq_true rfl, Nat.le_of_ble_eq_true rfl⟩ ?_
    rintro _ _ ⟨rfl, _, rfl, ⟨rfl, eg3⟩ | ⟨rfl, eg3⟩⟩
    ·
      show ko _ _ _ (12, [(0, .ref 0), (1, .int x)], [.int 1], (0, 0), ks i a q r)
      refine ko_steps mi_in124 5 _ (20, [(0, .ref 0), (1, .int x)], [.int ((x - x / 10 * 10)), .ref 0], (0, 0), ks i a q r) (by rfl) ?_
      refine ko_call mi_in124 (i := (.invokevirtual 141, 3, 123, 0, 9, 0, 162)) (by rfl) (by rfl) (cy := mi_c123) rfl (kc123_0 hG.1 (((x - x / 10 * 10)))) (by decide) ⟨Nat.le_of_ble_eq_true rfl, Nat.le_of_ble_eq_true rfl⟩ ?_
      rintro _ _ ⟨rfl, _, rfl, ⟨rfl, eg4⟩ | ⟨rfl, eg4⟩⟩
      ·
        show ko _ _ _ (23, [(0, .ref 0), (1, .int x)], [.int 1], (0, 0), ks i a q r)
        refine ko_steps mi_in124 7 _ (34, [(0, .ref 0), (1, .int x)], [.int ((x - x / 10 * 10)), .int ((x / 10))], (0, 0), ks i a q r) (by rfl) ?_
        refine ko_if mi_in124 ((((x / 10)) == ((x - x / 10 * 10)))) 41 37 ([(0, .ref 0), (1, .int x)], [], (0, 0), ks i a q r) (by rfl) (fun c => ?_) (fun c => ?_)
        ·
          have c5 := kd_eq c
          clear c
          refine ko_steps mi_in124 1 _ (42, [(0, .ref 0), (1, .int x)], [.int 0], (0, 0), ks i a q r) (by rfl) ?_
          exact ko_ret mi_in124 (by rfl) ⟨rfl, 0, rfl, Or.inr ⟨rfl, by omega⟩⟩
        ·
          have c6 := kd_eqF c
          clear c
          refine ko_steps mi_in124 2 _ (42, [(0, .ref 0), (1, .int x)], [.int 1], (0, 0), ks i a q r) (by rfl) ?_
          exact ko_ret mi_in124 (by rfl) ⟨rfl, 1, rfl, Or.inl ⟨rfl, by omega⟩⟩
      ·
        show ko _ _ _ (23, [(0, .ref 0), (1, .int x)], [.int 0], (0, 0), ks i a q r)
        refine ko_steps mi_in124 2 _ (42, [(0, .ref 0), (1, .int x)], [.int 0], (0, 0), ks i a q r) (by rfl) ?_
        exact ko_ret mi_in124 (by rfl) ⟨rfl, 0, rfl, Or.inr ⟨rfl, by omega⟩⟩
    ·
      show ko _ _ _ (12, [(0, .ref 0), (1, .int x)], [.int 0], (0, 0), ks i a q r)
      refine ko_steps mi_in124 2 _ (42, [(0, .ref 0), (1, .int x)], [.int 0], (0, 0), ks i a q r) (by rfl) ?_
      exact ko_ret mi_in124 (by rfl) ⟨rfl, 0, rfl, Or.inr ⟨rfl, by omega⟩⟩
set_option maxRecDepth 100000 in
theorem kc125_0 {i : Nat → Int32} {a : Nat → List Int32} {q : Nat → List Int64} {r : Nat → Nat} (hI : kI i a q) (x : Int32) (w : Int32) : km 5 125 [.ref 0, .int x, .int w] (ks i a q r) (kB ((0 ≤ (w).toInt ∧ (w).toInt ≤ 3 ∧ 0 ≤ (x).toInt ∧ (x).toInt < (i 64).toInt) ∨ (4 ≤ (w).toInt ∧ (w).toInt ≤ 6 ∧ (x).toInt = 0)) (ks i a q r)) := by
  have n0 : (0 : Int32).toInt = 0 := by decide
  have n1 : (1 : Int32).toInt = 1 := by decide
  have n4 : (4 : Int32).toInt = 4 := by decide
  have n6 : (6 : Int32).toInt = 6 := by decide
  have hG : kG [] [] [] i a q i a q := kG_self hI
  refine km_of (q := (mi_h125, mi_c125)) rfl (by decide) (Nat.le_of_ble_eq_true rfl) ?_
  refine ko_steps mi_in125 1 _ (1, [(0, .ref 0), (1, .int x), (2, .int w)], [.int w], (0, 0), ks i a q r) (by rfl) ?_
  refine ko_if mi_in125 (decide (w < 0)) 17 4 ([(0, .ref 0), (1, .int x), (2, .int w)], [], (0, 0), ks i a q r) (by rfl) (fun c => ?_) (fun c => ?_)
  ·
    have c1 := kd_lt c
    clear c
    refine ko_steps mi_in125 2 _ (19, [(0, .ref 0), (1, .int x), (2, .int w)], [.int 4, .int w], (0, 0), ks i a q r) (by rfl) ?_
    refine ko_if mi_in125 (decide (w < 4)) 36 22 ([(0, .ref 0), (1, .int x), (2, .int w)], [], (0, 0), ks i a q r) (by rfl) (fun c => ?_) (fun c => ?_)
    ·
      have c2 := kd_lt c
      clear c
      refine ko_steps mi_in125 1 _ (37, [(0, .ref 0), (1, .int x), (2, .int w)], [.int 0], (0, 0), ks i a q r) (by rfl) ?_
      exact ko_ret mi_in125 (by rfl) ⟨rfl, 0, rfl, Or.inr ⟨rfl, by omega⟩⟩
    ·
      have c3 := kd_ltF c
      clear c
      refine ko_steps mi_in125 2 _ (25, [(0, .ref 0), (1, .int x), (2, .int w)], [.int 6, .int w], (0, 0), ks i a q r) (by rfl) ?_
      refine ko_if mi_in125 (decide (6 < w)) 36 28 ([(0, .ref 0), (1, .int x), (2, .int w)], [], (0, 0), ks i a q r) (by rfl) (fun c => ?_) (fun c => ?_)
      ·
        have c4 := kd_lt c
        clear c
        refine ko_steps mi_in125 1 _ (37, [(0, .ref 0), (1, .int x), (2, .int w)], [.int 0], (0, 0), ks i a q r) (by rfl) ?_
        exact ko_ret mi_in125 (by rfl) ⟨rfl, 0, rfl, Or.inr ⟨rfl, by omega⟩⟩
      ·
        have c5 := kd_ltF c
        clear c
        refine ko_steps mi_in125 1 _ (29, [(0, .ref 0), (1, .int x), (2, .int w)], [.int x], (0, 0), ks i a q r) (by rfl) ?_
        refine ko_if mi_in125 ((x != 0)) 36 32 ([(0, .ref 0), (1, .int x), (2, .int w)], [], (0, 0), ks i a q r) (by rfl) (fun c => ?_) (fun c => ?_)
        ·
          have c6 := kd_ne c
          clear c
          refine ko_steps mi_in125 1 _ (37, [(0, .ref 0), (1, .int x), (2, .int w)], [.int 0], (0, 0), ks i a q r) (by rfl) ?_
          exact ko_ret mi_in125 (by rfl) ⟨rfl, 0, rfl, Or.inr ⟨rfl, by omega⟩⟩
        ·
          have c7 := kd_neF c
          clear c
          refine ko_steps mi_in125 2 _ (37, [(0, .ref 0), (1, .int x), (2, .int w)], [.int 1], (0, 0), ks i a q r) (by rfl) ?_
          exact ko_ret mi_in125 (by rfl) ⟨rfl, 1, rfl, Or.inl ⟨rfl, by omega⟩⟩
  ·
    have c8 := kd_ltF c
    clear c
    refine ko_steps mi_in125 2 _ (6, [(0, .ref 0), (1, .int x), (2, .int w)], [.int 4, .int w], (0, 0), ks i a q r) (by rfl) ?_
    refine ko_if mi_in125 (decide (4 ≤ w)) 17 9 ([(0, .ref 0), (1, .int x), (2, .int w)], [], (0, 0), ks i a q r) (by rfl) (fun c => ?_) (fun c => ?_)
    ·
      have c9 := kd_le c
      clear c
      refine ko_steps mi_in125 2 _ (19, [(0, .ref 0), (1, .int x), (2, .int w)], [.int 4, .int w], (0, 0), ks i a q r) (by rfl) ?_
      refine ko_if mi_in125 (decide (w < 4)) 36 22 ([(0, .ref 0), (1, .int x), (2, .int w)], [], (0, 0), ks i a q r) (by rfl) (fun c => ?_) (fun c => ?_)
      ·
        have c10 := kd_lt c
        clear c
        refine ko_steps mi_in125 1 _ (37, [(0, .ref 0), (1, .int x), (2, .int w)], [.int 0], (0, 0), ks i a q r) (by rfl) ?_
        exact ko_ret mi_in125 (by rfl) ⟨rfl, 0, rfl, Or.inr ⟨rfl, by omega⟩⟩
      ·
        have c11 := kd_ltF c
        clear c
        refine ko_steps mi_in125 2 _ (25, [(0, .ref 0), (1, .int x), (2, .int w)], [.int 6, .int w], (0, 0), ks i a q r) (by rfl) ?_
        refine ko_if mi_in125 (decide (6 < w)) 36 28 ([(0, .ref 0), (1, .int x), (2, .int w)], [], (0, 0), ks i a q r) (by rfl) (fun c => ?_) (fun c => ?_)
        ·
          have c12 := kd_lt c
          clear c
          refine ko_steps mi_in125 1 _ (37, [(0, .ref 0), (1, .int x), (2, .int w)], [.int 0], (0, 0), ks i a q r) (by rfl) ?_
          exact ko_ret mi_in125 (by rfl) ⟨rfl, 0, rfl, Or.inr ⟨rfl, by omega⟩⟩
        ·
          have c13 := kd_ltF c
          clear c
          refine ko_steps mi_in125 1 _ (29, [(0, .ref 0), (1, .int x), (2, .int w)], [.int x], (0, 0), ks i a q r) (by rfl) ?_
          refine ko_if mi_in125 ((x != 0)) 36 32 ([(0, .ref 0), (1, .int x), (2, .int w)], [], (0, 0), ks i a q r) (by rfl) (fun c => ?_) (fun c => ?_)
          ·
            have c14 := kd_ne c
            clear c
            refine ko_steps mi_in125 1 _ (37, [(0, .ref 0), (1, .int x), (2, .int w)], [.int 0], (0, 0), ks i a q r) (by rfl) ?_
            exact ko_ret mi_in125 (by rfl) ⟨rfl, 0, rfl, Or.inr ⟨rfl, by omega⟩⟩
          ·
            have c15 := kd_neF c
            clear c
            refine ko_steps mi_in125 2 _ (37, [(0, .ref 0), (1, .int x), (2, .int w)], [.int 1], (0, 0), ks i a q r) (by rfl) ?_
            exact ko_ret mi_in125 (by rfl) ⟨rfl, 1, rfl, Or.inl ⟨rfl, by omega⟩⟩
    ·
      have c16 := kd_leF c
      clear c
      refine ko_steps mi_in125 2 _ (11, [(0, .ref 0), (1, .int x), (2, .int w)], [.int x, .ref 0], (0, 0), ks i a q r) (by rfl) ?_
      refine ko_call mi_in125 (i := (.invokevirtual 141, 3, 123, 0, 9, 0, 162)) (by rfl) (by rfl) (cy := mi_c123) rfl (kc123_0 hG.1 x) (by decide) ⟨Nat.le_of_ble_eq_true rfl, Nat.le_of_ble_eq_true rfl⟩ ?_
      rintro _ _ ⟨rfl, _, rfl, ⟨rfl, eg17⟩ | ⟨rfl, eg17⟩⟩
      ·
        show ko _ _ _ (14, [(0, .ref 0), (1, .int x), (2, .int w)], [.int 1], (0, 0), ks i a q r)
        refine ko_steps mi_in125 3 _ (37, [(0, .ref 0), (1, .int x), (2, .int w)], [.int 1], (0, 0), ks i a q r) (by rfl) ?_
        exact ko_ret mi_in125 (by rfl) ⟨rfl, 1, rfl, Or.inl ⟨rfl, by omega⟩⟩
      ·
        show ko _ _ _ (14, [(0, .ref 0), (1, .int x), (2, .int w)], [.int 0], (0, 0), ks i a q r)
        refine ko_steps mi_in125 3 _ (19, [(0, .ref 0), (1, .int x), (2, .int w)], [.int 4, .int w], (0, 0), ks i a q r) (by rfl) ?_
        refine ko_if mi_in125 (decide (w < 4)) 36 22 ([(0, .ref 0), (1, .int x), (2, .int w)], [], (0, 0), ks i a q r) (by rfl) (fun c => ?_) (fun c => ?_)
        ·
          have c18 := kd_lt c
          clear c
          refine ko_steps mi_in125 1 _ (37, [(0, .ref 0), (1, .int x), (2, .int w)], [.int 0], (0, 0), ks i a q r) (by rfl) ?_
          exact ko_ret mi_in125 (by rfl) ⟨rfl, 0, rfl, Or.inr ⟨rfl, by omega⟩⟩
        ·
          have c19 := kd_ltF c
          clear c
          refine ko_steps mi_in125 2 _ (25, [(0, .ref 0), (1, .int x), (2, .int w)], [.int 6, .int w], (0, 0), ks i a q r) (by rfl) ?_
          refine ko_if mi_in125 (decide (6 < w)) 36 28 ([(0, .ref 0), (1, .int x), (2, .int w)], [], (0, 0), ks i a q r) (by rfl) (fun c => ?_) (fun c => ?_)
          ·
            have c20 := kd_lt c
            clear c
            refine ko_steps mi_in125 1 _ (37, [(0, .ref 0), (1, .int x), (2, .int w)], [.int 0], (0, 0), ks i a q r) (by rfl) ?_
            exact ko_ret mi_in125 (by rfl) ⟨rfl, 0, rfl, Or.inr ⟨rfl, by omega⟩⟩
          ·
            have c21 := kd_ltF c
            clear c
            refine ko_steps mi_in125 1 _ (29, [(0, .ref 0), (1, .int x), (2, .int w)], [.int x], (0, 0), ks i a q r) (by rfl) ?_
            refine ko_if mi_in125 ((x != 0)) 36 32 ([(0, .ref 0), (1, .int x), (2, .int w)], [], (0, 0), ks i a q r) (by rfl) (fun c => ?_) (fun c => ?_)
            ·
              have c22 := kd_ne c
              clear c
              refine ko_steps mi_in125 1 _ (37, [(0, .ref 0), (1, .int x), (2, .int w)], [.int 0], (0, 0), ks i a q r) (by rfl) ?_
              exact ko_ret mi_in125 (by rfl) ⟨rfl, 0, rfl, Or.inr ⟨rfl, by omega⟩⟩
            ·
              have c23 := kd_neF c
              clear c
              refine ko_steps mi_in125 2 _ (37, [(0, .ref 0), (1, .int x), (2, .int w)], [.int 1], (0, 0), ks i a q r) (by rfl) ?_
              exact ko_ret mi_in125 (by rfl) ⟨rfl, 1, rfl, Or.inl ⟨rfl, by omega⟩⟩
set_option maxRecDepth 100000 in
theorem kc126 {i : Nat → Int32} {a : Nat → List Int32} {q : Nat → List Int64} {r : Nat → Nat} (hI : kI i a q) (w : Int32) (v : Int32) : km 3 126 [.int w, .int v] (ks i a q r) (kB (0 ≤ (w).toInt ∧ (w).toInt ≤ 6 ∧ (([0, 0, 0, 0, 1, 0, 0] : List Int32).getD (w).toNatClampNeg 0).toInt ≤ (v).toInt ∧ (v).toInt ≤ (([999, 9, 9, 1, 5, 1, 99] : List Int32).getD (w).toNatClampNeg 0).toInt) (ks i a q r)) := by
  have n0 : (0 : Int32).toInt = 0 := by decide
  have n1 : (1 : Int32).toInt = 1 := by decide
  have n6 : (6 : Int32).toInt = 6 := by decide
  have hG : kG [] [] [] i a q i a q := kG_self hI
  refine km_of (q := (mi_h126, mi_c126)) rfl (by decide) (Nat.le_of_ble_eq_true rfl) ?_
  refine ko_steps mi_in126 3 _ (4, [(0, .int w), (1, .int v)], [.int 6, .int 0, .int w], (0, 0), ks i a q r) (by rfl) ?_
  refine ko_call mi_in126 (i := (.invokestatic 74, 3, 120, 0, 9, 0, 152)) (by rfl) (by rfl) (cy := mi_c120) rfl (kc120 _ w 0 6) (by decide) ⟨Nat.le_of_ble_eq_true rfl, Nat.le_of_ble_eq_true rfl⟩ ?_
  rintro _ _ ⟨rfl, _, rfl, ⟨rfl, eg1⟩ | ⟨rfl, eg1⟩⟩
  ·
    show ko _ _ _ (7, [(0, .int w), (1, .int v)], [.int 1], (0, 0), ks i a q r)
    refine ko_steps mi_in126 4 _ (15, [(0, .int w), (1, .int v)], [.int w, .ref (mi_RO + 1), .int v], (0, 0), ks i a q r) (by rfl) ?_
    refine ko_iaro mi_in126 (l := [0, 0, 0, 0, 1, 0, 0]) (ax := (0, 0, 0, 0, 0)) (by rfl) (by rfl) (by rfl) (by omega) (by show _ < (7 : Int); omega) ?_
    refine ko_steps mi_in126 2 _ (20, [(0, .int w), (1, .int v)], [.int w, .ref (mi_RO + 2), .int (([0, 0, 0, 0, 1, 0, 0] : List Int32).getD (w).toNatClampNeg 0), .int v], (0, 0), ks i a q r) (by rfl) ?_
    refine ko_iaro mi_in126 (l := [999, 9, 9, 1, 5, 1, 99]) (ax := (0, 0, 0, 0, 0)) (by rfl) (by rfl) (by rfl) (by omega) (by show _ < (7 : Int); omega) ?_
    refine ko_call mi_in126 (i := (.invokestatic 74, 3, 120, 0, 9, 0, 152)) (by rfl) (by rfl) (cy := mi_c120) rfl (kc120 _ v ((([0, 0, 0, 0, 1, 0, 0] : List Int32).getD (w).toNatClampNeg 0)) ((([999, 9, 9, 1, 5, 1, 99] : List Int32).getD (w).toNatClampNeg 0))) (by decide) ⟨Nat.le_of_ble_eq_true rfl, Nat.le_of_ble_eq_true rfl⟩ ?_
    rintro _ _ ⟨rfl, _, rfl, ⟨rfl, eg2⟩ | ⟨rfl, eg2⟩⟩
    ·
      show ko _ _ _ (24, [(0, .int w), (1, .int v)], [.int 1], (0, 0), ks i a q r)
      refine ko_steps mi_in126 3 _ (32, [(0, .int w), (1, .int v)], [.int 1], (0, 0), ks i a q r) (by rfl) ?_
      exact ko_ret mi_in126 (by rfl) ⟨rfl, 1, rfl, Or.inl ⟨rfl, by omega⟩⟩
    ·
      show ko _ _ _ (24, [(0, .int w), (1, .int v)], [.int 0], (0, 0), ks i a q r)
      refine ko_steps mi_in126 2 _ (32, [(0, .int w), (1, .int v)], [.int 0], (0, 0), ks i a q r) (by rfl) ?_
      exact ko_ret mi_in126 (by rfl) ⟨rfl, 0, rfl, Or.inr ⟨rfl, by omega⟩⟩
  ·
    show ko _ _ _ (7, [(0, .int w), (1, .int v)], [.int 0], (0, 0), ks i a q r)
    refine ko_steps mi_in126 2 _ (32, [(0, .int w), (1, .int v)], [.int 0], (0, 0), ks i a q r) (by rfl) ?_
    exact ko_ret mi_in126 (by rfl) ⟨rfl, 0, rfl, Or.inr ⟨rfl, by omega⟩⟩
set_option maxRecDepth 100000 in
theorem kc8_94 {i : Nat → Int32} {a : Nat → List Int32} {q : Nat → List Int64} {r : Nat → Nat} (hI : kI i a q) (x : Int32) : km 1 8 [.ref 94, .int x] (ks i a q r) (kB (0 ≤ (x).toInt ∧ (x).toInt < (i 6017).toInt) (ks i a q r)) := by
  have n0 : (0 : Int32).toInt = 0 := by decide
  have n1 : (1 : Int32).toInt = 1 := by decide
  have n50 : (50 : Int32).toInt = 50 := by decide
  have hG : kG [] [] [] i a q i a q := kG_self hI
  refine km_of (q := (mi_h8, mi_c8)) rfl (by decide) (Nat.le_of_ble_eq_true rfl) ?_
  refine ko_steps mi_in8 1 _ (1, [(0, .ref 94), (1, .int x)], [.int x], (0, 0), ks i a q r) (by rfl) ?_
  refine ko_if mi_in8 (decide (x < 0)) 22 4 ([(0, .ref 94), (1, .int x)], [], (0, 0), ks i a q r) (by rfl) (fun c => ?_) (fun c => ?_)
  ·
    have c1 := kd_lt c
    clear c
    refine ko_steps mi_in8 1 _ (23, [(0, .ref 94), (1, .int x)], [.int 0], (0, 0), ks i a q r) (by rfl) ?_
    exact ko_ret mi_in8 (by rfl) ⟨rfl, 0, rfl, Or.inr ⟨rfl, by omega⟩⟩
  ·
    have c2 := kd_ltF c
    clear c
    have f6017 : (0 : Int) ≤ (i 6017).toInt ∧ (i 6017).toInt ≤ 50 := hI.1 6017
    refine ko_steps mi_in8 3 _ (9, [(0, .ref 94), (1, .int x)], [.int (i 6017), .int x], (0, 0), ks i a q r) (by rfl) ?_
    refine ko_if mi_in8 (decide ((i 6017) ≤ x)) 22 12 ([(0, .ref 94), (1, .int x)], [], (0, 0), ks i a q r) (by rfl) (fun c => ?_) (fun c => ?_)
    ·
      have c3 := kd_le c
      clear c
      refine ko_steps mi_in8 1 _ (23, [(0, .ref 94), (1, .int x)], [.int 0], (0, 0), ks i a q r) (by rfl) ?_
      exact ko_ret mi_in8 (by rfl) ⟨rfl, 0, rfl, Or.inr ⟨rfl, by omega⟩⟩
    ·
      have c4 := kd_leF c
      clear c
      refine ko_steps mi_in8 2 _ (15, [(0, .ref 94), (1, .int x)], [.int 50, .int x], (0, 0), ks i a q r) (by rfl) ?_
      refine ko_if mi_in8 (decide (50 ≤ x)) 22 18 ([(0, .ref 94), (1, .int x)], [], (0, 0), ks i a q r) (by rfl) (fun c => ?_) (fun c => ?_)
      ·
        have c5 := kd_le c
        clear c
        refine ko_steps mi_in8 1 _ (23, [(0, .ref 94), (1, .int x)], [.int 0], (0, 0), ks i a q r) (by rfl) ?_
        exact ko_ret mi_in8 (by rfl) ⟨rfl, 0, rfl, Or.inr ⟨rfl, by omega⟩⟩
      ·
        have c6 := kd_leF c
        clear c
        refine ko_steps mi_in8 2 _ (23, [(0, .ref 94), (1, .int x)], [.int 1], (0, 0), ks i a q r) (by rfl) ?_
        exact ko_ret mi_in8 (by rfl) ⟨rfl, 1, rfl, Or.inl ⟨rfl, by omega⟩⟩
set_option maxRecDepth 100000 in
theorem kc36_104 {i : Nat → Int32} {a : Nat → List Int32} {q : Nat → List Int64} {r : Nat → Nat} (hI : kI i a q) (x : Int32) : km 1 36 [.ref 104, .int x] (ks i a q r) (kB ((i 6656).toInt = 2 ∧ (i 6658).toInt = (x).toInt) (ks i a q r)) := by
  have n0 : (0 : Int32).toInt = 0 := by decide
  have n1 : (1 : Int32).toInt = 1 := by decide
  have n2 : (2 : Int32).toInt = 2 := by decide
  have hG : kG [] [] [] i a q i a q := kG_self hI
  refine km_of (q := (mi_h36, mi_c36)) rfl (by decide) (Nat.le_of_ble_eq_true rfl) ?_
  have f6656 : (0 : Int) ≤ (i 6656).toInt ∧ (i 6656).toInt ≤ 2 := hI.1 6656
  refine ko_steps mi_in36 3 _ (5, [(0, .ref 104), (1, .int x)], [.int 2, .int (i 6656)], (0, 0), ks i a q r) (by rfl) ?_
  refine ko_if mi_in36 (((i 6656) != 2)) 20 8 ([(0, .ref 104), (1, .int x)], [], (0, 0), ks i a q r) (by rfl) (fun c => ?_) (fun c => ?_)
  ·
    have c1 := kd_ne c
    clear c
    refine ko_steps mi_in36 1 _ (21, [(0, .ref 104), (1, .int x)], [.int 0], (0, 0), ks i a q r) (by rfl) ?_
    exact ko_ret mi_in36 (by rfl) ⟨rfl, 0, rfl, Or.inr ⟨rfl, by omega⟩⟩
  ·
    have c2 := kd_neF c
    clear c
    have f6658 : (0 : Int) ≤ (i 6658).toInt ∧ (i 6658).toInt ≤ 4 := hI.1 6658
    refine ko_steps mi_in36 3 _ (13, [(0, .ref 104), (1, .int x)], [.int x, .int (i 6658)], (0, 0), ks i a q r) (by rfl) ?_
    refine ko_if mi_in36 (((i 6658) != x)) 20 16 ([(0, .ref 104), (1, .int x)], [], (0, 0), ks i a q r) (by rfl) (fun c => ?_) (fun c => ?_)
    ·
      have c3 := kd_ne c
      clear c
      refine ko_steps mi_in36 1 _ (21, [(0, .ref 104), (1, .int x)], [.int 0], (0, 0), ks i a q r) (by rfl) ?_
      exact ko_ret mi_in36 (by rfl) ⟨rfl, 0, rfl, Or.inr ⟨rfl, by omega⟩⟩
    ·
      have c4 := kd_neF c
      clear c
      refine ko_steps mi_in36 2 _ (21, [(0, .ref 104), (1, .int x)], [.int 1], (0, 0), ks i a q r) (by rfl) ?_
      exact ko_ret mi_in36 (by rfl) ⟨rfl, 1, rfl, Or.inl ⟨rfl, by omega⟩⟩
set_option maxRecDepth 100000 in
theorem kc37_104 {i : Nat → Int32} {a : Nat → List Int32} {q : Nat → List Int64} {r : Nat → Nat} (hI : kI i a q) (f : Int32) (n : Int32) : km 1 37 [.ref 104, .int f, .int n] (ks i a q r) (kB (0 ≤ (n).toInt ∧ (n).toInt ≤ (i 6659).toInt ∧ 0 ≤ (f).toInt ∧ (f).toInt + (n).toInt ≤ (i 6659).toInt) (ks i a q r)) := by
  have n0 : (0 : Int32).toInt = 0 := by decide
  have n1 : (1 : Int32).toInt = 1 := by decide
  have hG : kG [] [] [] i a q i a q := kG_self hI
  refine km_of (q := (mi_h37, mi_c37)) rfl (by decide) (Nat.le_of_ble_eq_true rfl) ?_
  refine ko_steps mi_in37 1 _ (1, [(0, .ref 104), (1, .int f), (2, .int n)], [.int n], (0, 0), ks i a q r) (by rfl) ?_
  refine ko_if mi_in37 (decide (n < 0)) 30 4 ([(0, .ref 104), (1, .int f), (2, .int n)], [], (0, 0), ks i a q r) (by rfl) (fun c => ?_) (fun c => ?_)
  ·
    have c1 := kd_lt c
    clear c
    refine ko_steps mi_in37 1 _ (31, [(0, .ref 104), (1, .int f), (2, .int n)], [.int 0], (0, 0), ks i a q r) (by rfl) ?_
    exact ko_ret mi_in37 (by rfl) ⟨rfl, 0, rfl, Or.inr ⟨rfl, by omega⟩⟩
  ·
    have c2 := kd_ltF c
    clear c
    have f6659 : (0 : Int) ≤ (i 6659).toInt ∧ (i 6659).toInt ≤ 60 := hI.1 6659
    refine ko_steps mi_in37 3 _ (9, [(0, .ref 104), (1, .int f), (2, .int n)], [.int (i 6659), .int n], (0, 0), ks i a q r) (by rfl) ?_
    refine ko_if mi_in37 (decide ((i 6659) < n)) 30 12 ([(0, .ref 104), (1, .int f), (2, .int n)], [], (0, 0), ks i a q r) (by rfl) (fun c => ?_) (fun c => ?_)
    ·
      have c3 := kd_lt c
      clear c
      refine ko_steps mi_in37 1 _ (31, [(0, .ref 104), (1, .int f), (2, .int n)], [.int 0], (0, 0), ks i a q r) (by rfl) ?_
      exact ko_ret mi_in37 (by rfl) ⟨rfl, 0, rfl, Or.inr ⟨rfl, by omega⟩⟩
    ·
      have c4 := kd_ltF c
      clear c
      refine ko_steps mi_in37 1 _ (13, [(0, .ref 104), (1, .int f), (2, .int n)], [.int f], (0, 0), ks i a q r) (by rfl) ?_
      refine ko_if mi_in37 (decide (f < 0)) 30 16 ([(0, .ref 104), (1, .int f), (2, .int n)], [], (0, 0), ks i a q r) (by rfl) (fun c => ?_) (fun c => ?_)
      ·
        have c5 := kd_lt c
        clear c
        refine ko_steps mi_in37 1 _ (31, [(0, .ref 104), (1, .int f), (2, .int n)], [.int 0], (0, 0), ks i a q r) (by rfl) ?_
        exact ko_ret mi_in37 (by rfl) ⟨rfl, 0, rfl, Or.inr ⟨rfl, by omega⟩⟩
      ·
        have c6 := kd_ltF c
        clear c
        try have s7 := kd_sub (x := (i 6659)) (y := n) (by omega) (by omega)
        refine ko_steps mi_in37 5 _ (23, [(0, .ref 104), (1, .int f), (2, .int n)], [.int (((i 6659) - n)), .int f], (0, 0), ks i a q r) (by rfl) ?_
        refine ko_if mi_in37 (decide ((((i 6659) - n)) < f)) 30 26 ([(0, .ref 104), (1, .int f), (2, .int n)], [], (0, 0), ks i a q r) (by rfl) (fun c => ?_) (fun c => ?_)
        ·
          have c8 := kd_lt c
          clear c
          refine ko_steps mi_in37 1 _ (31, [(0, .ref 104), (1, .int f), (2, .int n)], [.int 0], (0, 0), ks i a q r) (by rfl) ?_
          exact ko_ret mi_in37 (by rfl) ⟨rfl, 0, rfl, Or.inr ⟨rfl, by omega⟩⟩
        ·
          have c9 := kd_ltF c
          clear c
          refine ko_steps mi_in37 2 _ (31, [(0, .ref 104), (1, .int f), (2, .int n)], [.int 1], (0, 0), ks i a q r) (by rfl) ?_
          exact ko_ret mi_in37 (by rfl) ⟨rfl, 1, rfl, Or.inl ⟨rfl, by omega⟩⟩
set_option maxRecDepth 100000 in
theorem kc36_106 {i : Nat → Int32} {a : Nat → List Int32} {q : Nat → List Int64} {r : Nat → Nat} (hI : kI i a q) (x : Int32) : km 1 36 [.ref 106, .int x] (ks i a q r) (kB ((i 6784).toInt = 2 ∧ (i 6786).toInt = (x).toInt) (ks i a q r)) := by
  have n0 : (0 : Int32).toInt = 0 := by decide
  have n1 : (1 : Int32).toInt = 1 := by decide
  have n2 : (2 : Int32).toInt = 2 := by decide
  have hG : kG [] [] [] i a q i a q := kG_self hI
  refine km_of (q := (mi_h36, mi_c36)) rfl (by decide) (Nat.le_of_ble_eq_true rfl) ?_
  have f6784 : (0 : Int) ≤ (i 6784).toInt ∧ (i 6784).toInt ≤ 2 := hI.1 6784
  refine ko_steps mi_in36 3 _ (5, [(0, .ref 106), (1, .int x)], [.int 2, .int (i 6784)], (0, 0), ks i a q r) (by rfl) ?_
  refine ko_if mi_in36 (((i 6784) != 2)) 20 8 ([(0, .ref 106), (1, .int x)], [], (0, 0), ks i a q r) (by rfl) (fun c => ?_) (fun c => ?_)
  ·
    have c1 := kd_ne c
    clear c
    refine ko_steps mi_in36 1 _ (21, [(0, .ref 106), (1, .int x)], [.int 0], (0, 0), ks i a q r) (by rfl) ?_
    exact ko_ret mi_in36 (by rfl) ⟨rfl, 0, rfl, Or.inr ⟨rfl, by omega⟩⟩
  ·
    have c2 := kd_neF c
    clear c
    have f6786 : (0 : Int) ≤ (i 6786).toInt ∧ (i 6786).toInt ≤ 4 := hI.1 6786
    refine ko_steps mi_in36 3 _ (13, [(0, .ref 106), (1, .int x)], [.int x, .int (i 6786)], (0, 0), ks i a q r) (by rfl) ?_
    refine ko_if mi_in36 (((i 6786) != x)) 20 16 ([(0, .ref 106), (1, .int x)], [], (0, 0), ks i a q r) (by rfl) (fun c => ?_) (fun c => ?_)
    ·
      have c3 := kd_ne c
      clear c
      refine ko_steps mi_in36 1 _ (21, [(0, .ref 106), (1, .int x)], [.int 0], (0, 0), ks i a q r) (by rfl) ?_
      exact ko_ret mi_in36 (by rfl) ⟨rfl, 0, rfl, Or.inr ⟨rfl, by omega⟩⟩
    ·
      have c4 := kd_neF c
      clear c
      refine ko_steps mi_in36 2 _ (21, [(0, .ref 106), (1, .int x)], [.int 1], (0, 0), ks i a q r) (by rfl) ?_
      exact ko_ret mi_in36 (by rfl) ⟨rfl, 1, rfl, Or.inl ⟨rfl, by omega⟩⟩
set_option maxRecDepth 100000 in
theorem kc37_106 {i : Nat → Int32} {a : Nat → List Int32} {q : Nat → List Int64} {r : Nat → Nat} (hI : kI i a q) (f : Int32) (n : Int32) : km 1 37 [.ref 106, .int f, .int n] (ks i a q r) (kB (0 ≤ (n).toInt ∧ (n).toInt ≤ (i 6787).toInt ∧ 0 ≤ (f).toInt ∧ (f).toInt + (n).toInt ≤ (i 6787).toInt) (ks i a q r)) := by
  have n0 : (0 : Int32).toInt = 0 := by decide
  have n1 : (1 : Int32).toInt = 1 := by decide
  have hG : kG [] [] [] i a q i a q := kG_self hI
  refine km_of (q := (mi_h37, mi_c37)) rfl (by decide) (Nat.le_of_ble_eq_true rfl) ?_
  refine ko_steps mi_in37 1 _ (1, [(0, .ref 106), (1, .int f), (2, .int n)], [.int n], (0, 0), ks i a q r) (by rfl) ?_
  refine ko_if mi_in37 (decide (n < 0)) 30 4 ([(0, .ref 106), (1, .int f), (2, .int n)], [], (0, 0), ks i a q r) (by rfl) (fun c => ?_) (fun c => ?_)
  ·
    have c1 := kd_lt c
    clear c
    refine ko_steps mi_in37 1 _ (31, [(0, .ref 106), (1, .int f), (2, .int n)], [.int 0], (0, 0), ks i a q r) (by rfl) ?_
    exact ko_ret mi_in37 (by rfl) ⟨rfl, 0, rfl, Or.inr ⟨rfl, by omega⟩⟩
  ·
    have c2 := kd_ltF c
    clear c
    have f6787 : (0 : Int) ≤ (i 6787).toInt ∧ (i 6787).toInt ≤ 60 := hI.1 6787
    refine ko_steps mi_in37 3 _ (9, [(0, .ref 106), (1, .int f), (2, .int n)], [.int (i 6787), .int n], (0, 0), ks i a q r) (by rfl) ?_
    refine ko_if mi_in37 (decide ((i 6787) < n)) 30 12 ([(0, .ref 106), (1, .int f), (2, .int n)], [], (0, 0), ks i a q r) (by rfl) (fun c => ?_) (fun c => ?_)
    ·
      have c3 := kd_lt c
      clear c
      refine ko_steps mi_in37 1 _ (31, [(0, .ref 106), (1, .int f), (2, .int n)], [.int 0], (0, 0), ks i a q r) (by rfl) ?_
      exact ko_ret mi_in37 (by rfl) ⟨rfl, 0, rfl, Or.inr ⟨rfl, by omega⟩⟩
    ·
      have c4 := kd_ltF c
      clear c
      refine ko_steps mi_in37 1 _ (13, [(0, .ref 106), (1, .int f), (2, .int n)], [.int f], (0, 0), ks i a q r) (by rfl) ?_
      refine ko_if mi_in37 (decide (f < 0)) 30 16 ([(0, .ref 106), (1, .int f), (2, .int n)], [], (0, 0), ks i a q r) (by rfl) (fun c => ?_) (fun c => ?_)
      ·
        have c5 := kd_lt c
        clear c
        refine ko_steps mi_in37 1 _ (31, [(0, .ref 106), (1, .int f), (2, .int n)], [.int 0], (0, 0), ks i a q r) (by rfl) ?_
        exact ko_ret mi_in37 (by rfl) ⟨rfl, 0, rfl, Or.inr ⟨rfl, by omega⟩⟩
      ·
        have c6 := kd_ltF c
        clear c
        try have s7 := kd_sub (x := (i 6787)) (y := n) (by omega) (by omega)
        refine ko_steps mi_in37 5 _ (23, [(0, .ref 106), (1, .int f), (2, .int n)], [.int (((i 6787) - n)), .int f], (0, 0), ks i a q r) (by rfl) ?_
        refine ko_if mi_in37 (decide ((((i 6787) - n)) < f)) 30 26 ([(0, .ref 106), (1, .int f), (2, .int n)], [], (0, 0), ks i a q r) (by rfl) (fun c => ?_) (fun c => ?_)
        ·
          have c8 := kd_lt c
          clear c
          refine ko_steps mi_in37 1 _ (31, [(0, .ref 106), (1, .int f), (2, .int n)], [.int 0], (0, 0), ks i a q r) (by rfl) ?_
          exact ko_ret mi_in37 (by rfl) ⟨rfl, 0, rfl, Or.inr ⟨rfl, by omega⟩⟩
        ·
          have c9 := kd_ltF c
          clear c
          refine ko_steps mi_in37 2 _ (31, [(0, .ref 106), (1, .int f), (2, .int n)], [.int 1], (0, 0), ks i a q r) (by rfl) ?_
          exact ko_ret mi_in37 (by rfl) ⟨rfl, 1, rfl, Or.inl ⟨rfl, by omega⟩⟩
set_option maxRecDepth 100000 in
theorem kc36_108 {i : Nat → Int32} {a : Nat → List Int32} {q : Nat → List Int64} {r : Nat → Nat} (hI : kI i a q) (x : Int32) : km 1 36 [.ref 108, .int x] (ks i a q r) (kB ((i 6912).toInt = 2 ∧ (i 6914).toInt = (x).toInt) (ks i a q r)) := by
  have n0 : (0 : Int32).toInt = 0 := by decide
  have n1 : (1 : Int32).toInt = 1 := by decide
  have n2 : (2 : Int32).toInt = 2 := by decide
  have hG : kG [] [] [] i a q i a q := kG_self hI
  refine km_of (q := (mi_h36, mi_c36)) rfl (by decide) (Nat.le_of_ble_eq_true rfl) ?_
  have f6912 : (0 : Int) ≤ (i 6912).toInt ∧ (i 6912).toInt ≤ 2 := hI.1 6912
  refine ko_steps mi_in36 3 _ (5, [(0, .ref 108), (1, .int x)], [.int 2, .int (i 6912)], (0, 0), ks i a q r) (by rfl) ?_
  refine ko_if mi_in36 (((i 6912) != 2)) 20 8 ([(0, .ref 108), (1, .int x)], [], (0, 0), ks i a q r) (by rfl) (fun c => ?_) (fun c => ?_)
  ·
    have c1 := kd_ne c
    clear c
    refine ko_steps mi_in36 1 _ (21, [(0, .ref 108), (1, .int x)], [.int 0], (0, 0), ks i a q r) (by rfl) ?_
    exact ko_ret mi_in36 (by rfl) ⟨rfl, 0, rfl, Or.inr ⟨rfl, by omega⟩⟩
  ·
    have c2 := kd_neF c
    clear c
    have f6914 : (0 : Int) ≤ (i 6914).toInt ∧ (i 6914).toInt ≤ 4 := hI.1 6914
    refine ko_steps mi_in36 3 _ (13, [(0, .ref 108), (1, .int x)], [.int x, .int (i 6914)], (0, 0), ks i a q r) (by rfl) ?_
    refine ko_if mi_in36 (((i 6914) != x)) 20 16 ([(0, .ref 108), (1, .int x)], [], (0, 0), ks i a q r) (by rfl) (fun c => ?_) (fun c => ?_)
    ·
      have c3 := kd_ne c
      clear c
      refine ko_steps mi_in36 1 _ (21, [(0, .ref 108), (1, .int x)], [.int 0], (0, 0), ks i a q r) (by rfl) ?_
      exact ko_ret mi_in36 (by rfl) ⟨rfl, 0, rfl, Or.inr ⟨rfl, by omega⟩⟩
    ·
      have c4 := kd_neF c
      clear c
      refine ko_steps mi_in36 2 _ (21, [(0, .ref 108), (1, .int x)], [.int 1], (0, 0), ks i a q r) (by rfl) ?_
      exact ko_ret mi_in36 (by rfl) ⟨rfl, 1, rfl, Or.inl ⟨rfl, by omega⟩⟩
set_option maxRecDepth 100000 in
theorem kc37_108 {i : Nat → Int32} {a : Nat → List Int32} {q : Nat → List Int64} {r : Nat → Nat} (hI : kI i a q) (f : Int32) (n : Int32) : km 1 37 [.ref 108, .int f, .int n] (ks i a q r) (kB (0 ≤ (n).toInt ∧ (n).toInt ≤ (i 6915).toInt ∧ 0 ≤ (f).toInt ∧ (f).toInt + (n).toInt ≤ (i 6915).toInt) (ks i a q r)) := by
  have n0 : (0 : Int32).toInt = 0 := by decide
  have n1 : (1 : Int32).toInt = 1 := by decide
  have hG : kG [] [] [] i a q i a q := kG_self hI
  refine km_of (q := (mi_h37, mi_c37)) rfl (by decide) (Nat.le_of_ble_eq_true rfl) ?_
  refine ko_steps mi_in37 1 _ (1, [(0, .ref 108), (1, .int f), (2, .int n)], [.int n], (0, 0), ks i a q r) (by rfl) ?_
  refine ko_if mi_in37 (decide (n < 0)) 30 4 ([(0, .ref 108), (1, .int f), (2, .int n)], [], (0, 0), ks i a q r) (by rfl) (fun c => ?_) (fun c => ?_)
  ·
    have c1 := kd_lt c
    clear c
    refine ko_steps mi_in37 1 _ (31, [(0, .ref 108), (1, .int f), (2, .int n)], [.int 0], (0, 0), ks i a q r) (by rfl) ?_
    exact ko_ret mi_in37 (by rfl) ⟨rfl, 0, rfl, Or.inr ⟨rfl, by omega⟩⟩
  ·
    have c2 := kd_ltF c
    clear c
    have f6915 : (0 : Int) ≤ (i 6915).toInt ∧ (i 6915).toInt ≤ 60 := hI.1 6915
    refine ko_steps mi_in37 3 _ (9, [(0, .ref 108), (1, .int f), (2, .int n)], [.int (i 6915), .int n], (0, 0), ks i a q r) (by rfl) ?_
    refine ko_if mi_in37 (decide ((i 6915) < n)) 30 12 ([(0, .ref 108), (1, .int f), (2, .int n)], [], (0, 0), ks i a q r) (by rfl) (fun c => ?_) (fun c => ?_)
    ·
      have c3 := kd_lt c
      clear c
      refine ko_steps mi_in37 1 _ (31, [(0, .ref 108), (1, .int f), (2, .int n)], [.int 0], (0, 0), ks i a q r) (by rfl) ?_
      exact ko_ret mi_in37 (by rfl) ⟨rfl, 0, rfl, Or.inr ⟨rfl, by omega⟩⟩
    ·
      have c4 := kd_ltF c
      clear c
      refine ko_steps mi_in37 1 _ (13, [(0, .ref 108), (1, .int f), (2, .int n)], [.int f], (0, 0), ks i a q r) (by rfl) ?_
      refine ko_if mi_in37 (decide (f < 0)) 30 16 ([(0, .ref 108), (1, .int f), (2, .int n)], [], (0, 0), ks i a q r) (by rfl) (fun c => ?_) (fun c => ?_)
      ·
        have c5 := kd_lt c
        clear c
        refine ko_steps mi_in37 1 _ (31, [(0, .ref 108), (1, .int f), (2, .int n)], [.int 0], (0, 0), ks i a q r) (by rfl) ?_
        exact ko_ret mi_in37 (by rfl) ⟨rfl, 0, rfl, Or.inr ⟨rfl, by omega⟩⟩
      ·
        have c6 := kd_ltF c
        clear c
        try have s7 := kd_sub (x := (i 6915)) (y := n) (by omega) (by omega)
        refine ko_steps mi_in37 5 _ (23, [(0, .ref 108), (1, .int f), (2, .int n)], [.int (((i 6915) - n)), .int f], (0, 0), ks i a q r) (by rfl) ?_
        refine ko_if mi_in37 (decide ((((i 6915) - n)) < f)) 30 26 ([(0, .ref 108), (1, .int f), (2, .int n)], [], (0, 0), ks i a q r) (by rfl) (fun c => ?_) (fun c => ?_)
        ·
          have c8 := kd_lt c
          clear c
          refine ko_steps mi_in37 1 _ (31, [(0, .ref 108), (1, .int f), (2, .int n)], [.int 0], (0, 0), ks i a q r) (by rfl) ?_
          exact ko_ret mi_in37 (by rfl) ⟨rfl, 0, rfl, Or.inr ⟨rfl, by omega⟩⟩
        ·
          have c9 := kd_ltF c
          clear c
          refine ko_steps mi_in37 2 _ (31, [(0, .ref 108), (1, .int f), (2, .int n)], [.int 1], (0, 0), ks i a q r) (by rfl) ?_
          exact ko_ret mi_in37 (by rfl) ⟨rfl, 1, rfl, Or.inl ⟨rfl, by omega⟩⟩
set_option maxRecDepth 100000 in
theorem kc36_110 {i : Nat → Int32} {a : Nat → List Int32} {q : Nat → List Int64} {r : Nat → Nat} (hI : kI i a q) (x : Int32) : km 1 36 [.ref 110, .int x] (ks i a q r) (kB ((i 7040).toInt = 2 ∧ (i 7042).toInt = (x).toInt) (ks i a q r)) := by
  have n0 : (0 : Int32).toInt = 0 := by decide
  have n1 : (1 : Int32).toInt = 1 := by decide
  have n2 : (2 : Int32).toInt = 2 := by decide
  have hG : kG [] [] [] i a q i a q := kG_self hI
  refine km_of (q := (mi_h36, mi_c36)) rfl (by decide) (Nat.le_of_ble_eq_true rfl) ?_
  have f7040 : (0 : Int) ≤ (i 7040).toInt ∧ (i 7040).toInt ≤ 2 := hI.1 7040
  refine ko_steps mi_in36 3 _ (5, [(0, .ref 110), (1, .int x)], [.int 2, .int (i 7040)], (0, 0), ks i a q r) (by rfl) ?_
  refine ko_if mi_in36 (((i 7040) != 2)) 20 8 ([(0, .ref 110), (1, .int x)], [], (0, 0), ks i a q r) (by rfl) (fun c => ?_) (fun c => ?_)
  ·
    have c1 := kd_ne c
    clear c
    refine ko_steps mi_in36 1 _ (21, [(0, .ref 110), (1, .int x)], [.int 0], (0, 0), ks i a q r) (by rfl) ?_
    exact ko_ret mi_in36 (by rfl) ⟨rfl, 0, rfl, Or.inr ⟨rfl, by omega⟩⟩
  ·
    have c2 := kd_neF c
    clear c
    have f7042 : (0 : Int) ≤ (i 7042).toInt ∧ (i 7042).toInt ≤ 4 := hI.1 7042
    refine ko_steps mi_in36 3 _ (13, [(0, .ref 110), (1, .int x)], [.int x, .int (i 7042)], (0, 0), ks i a q r) (by rfl) ?_
    refine ko_if mi_in36 (((i 7042) != x)) 20 16 ([(0, .ref 110), (1, .int x)], [], (0, 0), ks i a q r) (by rfl) (fun c => ?_) (fun c => ?_)
    ·
      have c3 := kd_ne c
      clear c
      refine ko_steps mi_in36 1 _ (21, [(0, .ref 110), (1, .int x)], [.int 0], (0, 0), ks i a q r) (by rfl) ?_
      exact ko_ret mi_in36 (by rfl) ⟨rfl, 0, rfl, Or.inr ⟨rfl, by omega⟩⟩
    ·
      have c4 := kd_neF c
      clear c
      refine ko_steps mi_in36 2 _ (21, [(0, .ref 110), (1, .int x)], [.int 1], (0, 0), ks i a q r) (by rfl) ?_
      exact ko_ret mi_in36 (by rfl) ⟨rfl, 1, rfl, Or.inl ⟨rfl, by omega⟩⟩
set_option maxRecDepth 100000 in
theorem kc37_110 {i : Nat → Int32} {a : Nat → List Int32} {q : Nat → List Int64} {r : Nat → Nat} (hI : kI i a q) (f : Int32) (n : Int32) : km 1 37 [.ref 110, .int f, .int n] (ks i a q r) (kB (0 ≤ (n).toInt ∧ (n).toInt ≤ (i 7043).toInt ∧ 0 ≤ (f).toInt ∧ (f).toInt + (n).toInt ≤ (i 7043).toInt) (ks i a q r)) := by
  have n0 : (0 : Int32).toInt = 0 := by decide
  have n1 : (1 : Int32).toInt = 1 := by decide
  have hG : kG [] [] [] i a q i a q := kG_self hI
  refine km_of (q := (mi_h37, mi_c37)) rfl (by decide) (Nat.le_of_ble_eq_true rfl) ?_
  refine ko_steps mi_in37 1 _ (1, [(0, .ref 110), (1, .int f), (2, .int n)], [.int n], (0, 0), ks i a q r) (by rfl) ?_
  refine ko_if mi_in37 (decide (n < 0)) 30 4 ([(0, .ref 110), (1, .int f), (2, .int n)], [], (0, 0), ks i a q r) (by rfl) (fun c => ?_) (fun c => ?_)
  ·
    have c1 := kd_lt c
    clear c
    refine ko_steps mi_in37 1 _ (31, [(0, .ref 110), (1, .int f), (2, .int n)], [.int 0], (0, 0), ks i a q r) (by rfl) ?_
    exact ko_ret mi_in37 (by rfl) ⟨rfl, 0, rfl, Or.inr ⟨rfl, by omega⟩⟩
  ·
    have c2 := kd_ltF c
    clear c
    have f7043 : (0 : Int) ≤ (i 7043).toInt ∧ (i 7043).toInt ≤ 60 := hI.1 7043
    refine ko_steps mi_in37 3 _ (9, [(0, .ref 110), (1, .int f), (2, .int n)], [.int (i 7043), .int n], (0, 0), ks i a q r) (by rfl) ?_
    refine ko_if mi_in37 (decide ((i 7043) < n)) 30 12 ([(0, .ref 110), (1, .int f), (2, .int n)], [], (0, 0), ks i a q r) (by rfl) (fun c => ?_) (fun c => ?_)
    ·
      have c3 := kd_lt c
      clear c
      refine ko_steps mi_in37 1 _ (31, [(0, .ref 110), (1, .int f), (2, .int n)], [.int 0], (0, 0), ks i a q r) (by rfl) ?_
      exact ko_ret mi_in37 (by rfl) ⟨rfl, 0, rfl, Or.inr ⟨rfl, by omega⟩⟩
    ·
      have c4 := kd_ltF c
      clear c
      refine ko_steps mi_in37 1 _ (13, [(0, .ref 110), (1, .int f), (2, .int n)], [.int f], (0, 0), ks i a q r) (by rfl) ?_
      refine ko_if mi_in37 (decide (f < 0)) 30 16 ([(0, .ref 110), (1, .int f), (2, .int n)], [], (0, 0), ks i a q r) (by rfl) (fun c => ?_) (fun c => ?_)
      ·
        have c5 := kd_lt c
        clear c
        refine ko_steps mi_in37 1 _ (31, [(0, .ref 110), (1, .int f), (2, .int n)], [.int 0], (0, 0), ks i a q r) (by rfl) ?_
        exact ko_ret mi_in37 (by rfl) ⟨rfl, 0, rfl, Or.inr ⟨rfl, by omega⟩⟩
      ·
        have c6 := kd_ltF c
        clear c
        try have s7 := kd_sub (x := (i 7043)) (y := n) (by omega) (by omega)
        refine ko_steps mi_in37 5 _ (23, [(0, .ref 110), (1, .int f), (2, .int n)], [.int (((i 7043) - n)), .int f], (0, 0), ks i a q r) (by rfl) ?_
        refine ko_if mi_in37 (decide ((((i 7043) - n)) < f)) 30 26 ([(0, .ref 110), (1, .int f), (2, .int n)], [], (0, 0), ks i a q r) (by rfl) (fun c => ?_) (fun c => ?_)
        ·
          have c8 := kd_lt c
          clear c
          refine ko_steps mi_in37 1 _ (31, [(0, .ref 110), (1, .int f), (2, .int n)], [.int 0], (0, 0), ks i a q r) (by rfl) ?_
          exact ko_ret mi_in37 (by rfl) ⟨rfl, 0, rfl, Or.inr ⟨rfl, by omega⟩⟩
        ·
          have c9 := kd_ltF c
          clear c
          refine ko_steps mi_in37 2 _ (31, [(0, .ref 110), (1, .int f), (2, .int n)], [.int 1], (0, 0), ks i a q r) (by rfl) ?_
          exact ko_ret mi_in37 (by rfl) ⟨rfl, 1, rfl, Or.inl ⟨rfl, by omega⟩⟩
set_option maxRecDepth 100000 in
theorem kc36_112 {i : Nat → Int32} {a : Nat → List Int32} {q : Nat → List Int64} {r : Nat → Nat} (hI : kI i a q) (x : Int32) : km 1 36 [.ref 112, .int x] (ks i a q r) (kB ((i 7168).toInt = 2 ∧ (i 7170).toInt = (x).toInt) (ks i a q r)) := by
  have n0 : (0 : Int32).toInt = 0 := by decide
  have n1 : (1 : Int32).toInt = 1 := by decide
  have n2 : (2 : Int32).toInt = 2 := by decide
  have hG : kG [] [] [] i a q i a q := kG_self hI
  refine km_of (q := (mi_h36, mi_c36)) rfl (by decide) (Nat.le_of_ble_eq_true rfl) ?_
  have f7168 : (0 : Int) ≤ (i 7168).toInt ∧ (i 7168).toInt ≤ 2 := hI.1 7168
  refine ko_steps mi_in36 3 _ (5, [(0, .ref 112), (1, .int x)], [.int 2, .int (i 7168)], (0, 0), ks i a q r) (by rfl) ?_
  refine ko_if mi_in36 (((i 7168) != 2)) 20 8 ([(0, .ref 112), (1, .int x)], [], (0, 0), ks i a q r) (by rfl) (fun c => ?_) (fun c => ?_)
  ·
    have c1 := kd_ne c
    clear c
    refine ko_steps mi_in36 1 _ (21, [(0, .ref 112), (1, .int x)], [.int 0], (0, 0), ks i a q r) (by rfl) ?_
    exact ko_ret mi_in36 (by rfl) ⟨rfl, 0, rfl, Or.inr ⟨rfl, by omega⟩⟩
  ·
    have c2 := kd_neF c
    clear c
    have f7170 : (0 : Int) ≤ (i 7170).toInt ∧ (i 7170).toInt ≤ 4 := hI.1 7170
    refine ko_steps mi_in36 3 _ (13, [(0, .ref 112), (1, .int x)], [.int x, .int (i 7170)], (0, 0), ks i a q r) (by rfl) ?_
    refine ko_if mi_in36 (((i 7170) != x)) 20 16 ([(0, .ref 112), (1, .int x)], [], (0, 0), ks i a q r) (by rfl) (fun c => ?_) (fun c => ?_)
    ·
      have c3 := kd_ne c
      clear c
      refine ko_steps mi_in36 1 _ (21, [(0, .ref 112), (1, .int x)], [.int 0], (0, 0), ks i a q r) (by rfl) ?_
      exact ko_ret mi_in36 (by rfl) ⟨rfl, 0, rfl, Or.inr ⟨rfl, by omega⟩⟩
    ·
      have c4 := kd_neF c
      clear c
      refine ko_steps mi_in36 2 _ (21, [(0, .ref 112), (1, .int x)], [.int 1], (0, 0), ks i a q r) (by rfl) ?_
      exact ko_ret mi_in36 (by rfl) ⟨rfl, 1, rfl, Or.inl ⟨rfl, by omega⟩⟩
set_option maxRecDepth 100000 in
theorem kc37_112 {i : Nat → Int32} {a : Nat → List Int32} {q : Nat → List Int64} {r : Nat → Nat} (hI : kI i a q) (f : Int32) (n : Int32) : km 1 37 [.ref 112, .int f, .int n] (ks i a q r) (kB (0 ≤ (n).toInt ∧ (n).toInt ≤ (i 7171).toInt ∧ 0 ≤ (f).toInt ∧ (f).toInt + (n).toInt ≤ (i 7171).toInt) (ks i a q r)) := by
  have n0 : (0 : Int32).toInt = 0 := by decide
  have n1 : (1 : Int32).toInt = 1 := by decide
  have hG : kG [] [] [] i a q i a q := kG_self hI
  refine km_of (q := (mi_h37, mi_c37)) rfl (by decide) (Nat.le_of_ble_eq_true rfl) ?_
  refine ko_steps mi_in37 1 _ (1, [(0, .ref 112), (1, .int f), (2, .int n)], [.int n], (0, 0), ks i a q r) (by rfl) ?_
  refine ko_if mi_in37 (decide (n < 0)) 30 4 ([(0, .ref 112), (1, .int f), (2, .int n)], [], (0, 0), ks i a q r) (by rfl) (fun c => ?_) (fun c => ?_)
  ·
    have c1 := kd_lt c
    clear c
    refine ko_steps mi_in37 1 _ (31, [(0, .ref 112), (1, .int f), (2, .int n)], [.int 0], (0, 0), ks i a q r) (by rfl) ?_
    exact ko_ret mi_in37 (by rfl) ⟨rfl, 0, rfl, Or.inr ⟨rfl, by omega⟩⟩
  ·
    have c2 := kd_ltF c
    clear c
    have f7171 : (0 : Int) ≤ (i 7171).toInt ∧ (i 7171).toInt ≤ 60 := hI.1 7171
    refine ko_steps mi_in37 3 _ (9, [(0, .ref 112), (1, .int f), (2, .int n)], [.int (i 7171), .int n], (0, 0), ks i a q r) (by rfl) ?_
    refine ko_if mi_in37 (decide ((i 7171) < n)) 30 12 ([(0, .ref 112), (1, .int f), (2, .int n)], [], (0, 0), ks i a q r) (by rfl) (fun c => ?_) (fun c => ?_)
    ·
      have c3 := kd_lt c
      clear c
      refine ko_steps mi_in37 1 _ (31, [(0, .ref 112), (1, .int f), (2, .int n)], [.int 0], (0, 0), ks i a q r) (by rfl) ?_
      exact ko_ret mi_in37 (by rfl) ⟨rfl, 0, rfl, Or.inr ⟨rfl, by omega⟩⟩
    ·
      have c4 := kd_ltF c
      clear c
      refine ko_steps mi_in37 1 _ (13, [(0, .ref 112), (1, .int f), (2, .int n)], [.int f], (0, 0), ks i a q r) (by rfl) ?_
      refine ko_if mi_in37 (decide (f < 0)) 30 16 ([(0, .ref 112), (1, .int f), (2, .int n)], [], (0, 0), ks i a q r) (by rfl) (fun c => ?_) (fun c => ?_)
      ·
        have c5 := kd_lt c
        clear c
        refine ko_steps mi_in37 1 _ (31, [(0, .ref 112), (1, .int f), (2, .int n)], [.int 0], (0, 0), ks i a q r) (by rfl) ?_
        exact ko_ret mi_in37 (by rfl) ⟨rfl, 0, rfl, Or.inr ⟨rfl, by omega⟩⟩
      ·
        have c6 := kd_ltF c
        clear c
        try have s7 := kd_sub (x := (i 7171)) (y := n) (by omega) (by omega)
        refine ko_steps mi_in37 5 _ (23, [(0, .ref 112), (1, .int f), (2, .int n)], [.int (((i 7171) - n)), .int f], (0, 0), ks i a q r) (by rfl) ?_
        refine ko_if mi_in37 (decide ((((i 7171) - n)) < f)) 30 26 ([(0, .ref 112), (1, .int f), (2, .int n)], [], (0, 0), ks i a q r) (by rfl) (fun c => ?_) (fun c => ?_)
        ·
          have c8 := kd_lt c
          clear c
          refine ko_steps mi_in37 1 _ (31, [(0, .ref 112), (1, .int f), (2, .int n)], [.int 0], (0, 0), ks i a q r) (by rfl) ?_
          exact ko_ret mi_in37 (by rfl) ⟨rfl, 0, rfl, Or.inr ⟨rfl, by omega⟩⟩
        ·
          have c9 := kd_ltF c
          clear c
          refine ko_steps mi_in37 2 _ (31, [(0, .ref 112), (1, .int f), (2, .int n)], [.int 1], (0, 0), ks i a q r) (by rfl) ?_
          exact ko_ret mi_in37 (by rfl) ⟨rfl, 1, rfl, Or.inl ⟨rfl, by omega⟩⟩
set_option maxRecDepth 100000 in
theorem kc36_114 {i : Nat → Int32} {a : Nat → List Int32} {q : Nat → List Int64} {r : Nat → Nat} (hI : kI i a q) (x : Int32) : km 1 36 [.ref 114, .int x] (ks i a q r) (kB ((i 7296).toInt = 2 ∧ (i 7298).toInt = (x).toInt) (ks i a q r)) := by
  have n0 : (0 : Int32).toInt = 0 := by decide
  have n1 : (1 : Int32).toInt = 1 := by decide
  have n2 : (2 : Int32).toInt = 2 := by decide
  have hG : kG [] [] [] i a q i a q := kG_self hI
  refine km_of (q := (mi_h36, mi_c36)) rfl (by decide) (Nat.le_of_ble_eq_true rfl) ?_
  have f7296 : (0 : Int) ≤ (i 7296).toInt ∧ (i 7296).toInt ≤ 2 := hI.1 7296
  refine ko_steps mi_in36 3 _ (5, [(0, .ref 114), (1, .int x)], [.int 2, .int (i 7296)], (0, 0), ks i a q r) (by rfl) ?_
  refine ko_if mi_in36 (((i 7296) != 2)) 20 8 ([(0, .ref 114), (1, .int x)], [], (0, 0), ks i a q r) (by rfl) (fun c => ?_) (fun c => ?_)
  ·
    have c1 := kd_ne c
    clear c
    refine ko_steps mi_in36 1 _ (21, [(0, .ref 114), (1, .int x)], [.int 0], (0, 0), ks i a q r) (by rfl) ?_
    exact ko_ret mi_in36 (by rfl) ⟨rfl, 0, rfl, Or.inr ⟨rfl, by omega⟩⟩
  ·
    have c2 := kd_neF c
    clear c
    have f7298 : (0 : Int) ≤ (i 7298).toInt ∧ (i 7298).toInt ≤ 4 := hI.1 7298
    refine ko_steps mi_in36 3 _ (13, [(0, .ref 114), (1, .int x)], [.int x, .int (i 7298)], (0, 0), ks i a q r) (by rfl) ?_
    refine ko_if mi_in36 (((i 7298) != x)) 20 16 ([(0, .ref 114), (1, .int x)], [], (0, 0), ks i a q r) (by rfl) (fun c => ?_) (fun c => ?_)
    ·
      have c3 := kd_ne c
      clear c
      refine ko_steps mi_in36 1 _ (21, [(0, .ref 114), (1, .int x)], [.int 0], (0, 0), ks i a q r) (by rfl) ?_
      exact ko_ret mi_in36 (by rfl) ⟨rfl, 0, rfl, Or.inr ⟨rfl, by omega⟩⟩
    ·
      have c4 := kd_neF c
      clear c
      refine ko_steps mi_in36 2 _ (21, [(0, .ref 114), (1, .int x)], [.int 1], (0, 0), ks i a q r) (by rfl) ?_
      exact ko_ret mi_in36 (by rfl) ⟨rfl, 1, rfl, Or.inl ⟨rfl, by omega⟩⟩
set_option maxRecDepth 100000 in
theorem kc37_114 {i : Nat → Int32} {a : Nat → List Int32} {q : Nat → List Int64} {r : Nat → Nat} (hI : kI i a q) (f : Int32) (n : Int32) : km 1 37 [.ref 114, .int f, .int n] (ks i a q r) (kB (0 ≤ (n).toInt ∧ (n).toInt ≤ (i 7299).toInt ∧ 0 ≤ (f).toInt ∧ (f).toInt + (n).toInt ≤ (i 7299).toInt) (ks i a q r)) := by
  have n0 : (0 : Int32).toInt = 0 := by decide
  have n1 : (1 : Int32).toInt = 1 := by decide
  have hG : kG [] [] [] i a q i a q := kG_self hI
  refine km_of (q := (mi_h37, mi_c37)) rfl (by decide) (Nat.le_of_ble_eq_true rfl) ?_
  refine ko_steps mi_in37 1 _ (1, [(0, .ref 114), (1, .int f), (2, .int n)], [.int n], (0, 0), ks i a q r) (by rfl) ?_
  refine ko_if mi_in37 (decide (n < 0)) 30 4 ([(0, .ref 114), (1, .int f), (2, .int n)], [], (0, 0), ks i a q r) (by rfl) (fun c => ?_) (fun c => ?_)
  ·
    have c1 := kd_lt c
    clear c
    refine ko_steps mi_in37 1 _ (31, [(0, .ref 114), (1, .int f), (2, .int n)], [.int 0], (0, 0), ks i a q r) (by rfl) ?_
    exact ko_ret mi_in37 (by rfl) ⟨rfl, 0, rfl, Or.inr ⟨rfl, by omega⟩⟩
  ·
    have c2 := kd_ltF c
    clear c
    have f7299 : (0 : Int) ≤ (i 7299).toInt ∧ (i 7299).toInt ≤ 60 := hI.1 7299
    refine ko_steps mi_in37 3 _ (9, [(0, .ref 114), (1, .int f), (2, .int n)], [.int (i 7299), .int n], (0, 0), ks i a q r) (by rfl) ?_
    refine ko_if mi_in37 (decide ((i 7299) < n)) 30 12 ([(0, .ref 114), (1, .int f), (2, .int n)], [], (0, 0), ks i a q r) (by rfl) (fun c => ?_) (fun c => ?_)
    ·
      have c3 := kd_lt c
      clear c
      refine ko_steps mi_in37 1 _ (31, [(0, .ref 114), (1, .int f), (2, .int n)], [.int 0], (0, 0), ks i a q r) (by rfl) ?_
      exact ko_ret mi_in37 (by rfl) ⟨rfl, 0, rfl, Or.inr ⟨rfl, by omega⟩⟩
    ·
      have c4 := kd_ltF c
      clear c
      refine ko_steps mi_in37 1 _ (13, [(0, .ref 114), (1, .int f), (2, .int n)], [.int f], (0, 0), ks i a q r) (by rfl) ?_
      refine ko_if mi_in37 (decide (f < 0)) 30 16 ([(0, .ref 114), (1, .int f), (2, .int n)], [], (0, 0), ks i a q r) (by rfl) (fun c => ?_) (fun c => ?_)
      ·
        have c5 := kd_lt c
        clear c
        refine ko_steps mi_in37 1 _ (31, [(0, .ref 114), (1, .int f), (2, .int n)], [.int 0], (0, 0), ks i a q r) (by rfl) ?_
        exact ko_ret mi_in37 (by rfl) ⟨rfl, 0, rfl, Or.inr ⟨rfl, by omega⟩⟩
      ·
        have c6 := kd_ltF c
        clear c
        try have s7 := kd_sub (x := (i 7299)) (y := n) (by omega) (by omega)
        refine ko_steps mi_in37 5 _ (23, [(0, .ref 114), (1, .int f), (2, .int n)], [.int (((i 7299) - n)), .int f], (0, 0), ks i a q r) (by rfl) ?_
        refine ko_if mi_in37 (decide ((((i 7299) - n)) < f)) 30 26 ([(0, .ref 114), (1, .int f), (2, .int n)], [], (0, 0), ks i a q r) (by rfl) (fun c => ?_) (fun c => ?_)
        ·
          have c8 := kd_lt c
          clear c
          refine ko_steps mi_in37 1 _ (31, [(0, .ref 114), (1, .int f), (2, .int n)], [.int 0], (0, 0), ks i a q r) (by rfl) ?_
          exact ko_ret mi_in37 (by rfl) ⟨rfl, 0, rfl, Or.inr ⟨rfl, by omega⟩⟩
        ·
          have c9 := kd_ltF c
          clear c
          refine ko_steps mi_in37 2 _ (31, [(0, .ref 114), (1, .int f), (2, .int n)], [.int 1], (0, 0), ks i a q r) (by rfl) ?_
          exact ko_ret mi_in37 (by rfl) ⟨rfl, 1, rfl, Or.inl ⟨rfl, by omega⟩⟩
set_option maxRecDepth 100000 in
theorem kc56 {i : Nat → Int32} {a : Nat → List Int32} {q : Nat → List Int64} {r : Nat → Nat} (hI : kI i a q) (x : Int32) : km 1 56 [.int x] (ks i a q r) (kB (48 ≤ (x).toInt ∧ (x).toInt ≤ 57) (ks i a q r)) := by
  have n0 : (0 : Int32).toInt = 0 := by decide
  have n1 : (1 : Int32).toInt = 1 := by decide
  have n48 : (48 : Int32).toInt = 48 := by decide
  have n57 : (57 : Int32).toInt = 57 := by decide
  have hG : kG [] [] [] i a q i a q := kG_self hI
  refine km_of (q := (mi_h56, mi_c56)) rfl (by decide) (Nat.le_of_ble_eq_true rfl) ?_
  refine ko_steps mi_in56 2 _ (3, [(0, .int x)], [.int 48, .int x], (0, 0), ks i a q r) (by rfl) ?_
  refine ko_if mi_in56 (decide (x < 48)) 16 6 ([(0, .int x)], [], (0, 0), ks i a q r) (by rfl) (fun c => ?_) (fun c => ?_)
  ·
    have c1 := kd_lt c
    clear c
    refine ko_steps mi_in56 1 _ (17, [(0, .int x)], [.int 0], (0, 0), ks i a q r) (by rfl) ?_
    exact ko_ret mi_in56 (by rfl) ⟨rfl, 0, rfl, Or.inr ⟨rfl, by omega⟩⟩
  ·
    have c2 := kd_ltF c
    clear c
    refine ko_steps mi_in56 2 _ (9, [(0, .int x)], [.int 57, .int x], (0, 0), ks i a q r) (by rfl) ?_
    refine ko_if mi_in56 (decide (57 < x)) 16 12 ([(0, .int x)], [], (0, 0), ks i a q r) (by rfl) (fun c => ?_) (fun c => ?_)
    ·
      have c3 := kd_lt c
      clear c
      refine ko_steps mi_in56 1 _ (17, [(0, .int x)], [.int 0], (0, 0), ks i a q r) (by rfl) ?_
      exact ko_ret mi_in56 (by rfl) ⟨rfl, 0, rfl, Or.inr ⟨rfl, by omega⟩⟩
    ·
      have c4 := kd_ltF c
      clear c
      refine ko_steps mi_in56 2 _ (17, [(0, .int x)], [.int 1], (0, 0), ks i a q r) (by rfl) ?_
      exact ko_ret mi_in56 (by rfl) ⟨rfl, 1, rfl, Or.inl ⟨rfl, by omega⟩⟩
