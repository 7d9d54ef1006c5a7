set_option maxRecDepth 100000 in
theorem kc80_0 {i : Nat → Int32} {a : Nat → List Int32} {q : Nat → List Int64} {r : Nat → Nat} (hI : kI i a q) (x : Int32) (y : Int32) : km 5 80 [.ref 0, .int x, .int y] (ks i a q r) (kV [64] [2, 3, 4, 5, 6] [] i a q r (fun rv _ _ _ => ∃ v : Int32, rv = some (.int v))) := by
  have nm3 : ((-3) : Int32).toInt = -3 := by decide
  have nm1 : ((-1) : Int32).toInt = -1 := by decide
  have n0 : (0 : Int32).toInt = 0 := by decide
  have n1 : (1 : Int32).toInt = 1 := by decide
  have n2 : (2 : Int32).toInt = 2 := by decide
  have n8 : (8 : Int32).toInt = 8 := by decide
  have n100 : (100 : Int32).toInt = 100 := by decide
  have hG : kG [64] [2, 3, 4, 5, 6] [] i a q i a q := kG_self hI
  refine km_of (q := (mi_h80, mi_c80)) rfl (by decide) (Nat.le_of_ble_eq_true rfl) ?_
  refine ko_steps mi_in80 2 _ (2, [(0, .ref 0), (1, .int x), (2, .int y)], [.int x, .int 1], (0, 0), ks i a q r) (by rfl) ?_
  refine ko_call mi_in80 (i := (.invokestatic 58, 3, 126, 0, 9, 0, 151)) (by rfl) (by rfl) (cy := mi_c126) rfl (kc126 hG.1 1 x) (by decide) ⟨Nat.le_of_ble_eq_true rfl, Nat.le_of_ble_eq_true rfl⟩ ?_
  rintro _ _ ⟨rfl, _, rfl, ⟨rfl, eg1⟩ | ⟨rfl, eg1⟩⟩
  ·
    show ko _ _ _ (5, [(0, .ref 0), (1, .int x), (2, .int y)], [.int 1], (0, 0), ks i a q r)
    refine ko_steps mi_in80 3 _ (10, [(0, .ref 0), (1, .int x), (2, .int y)], [.int y, .int 2], (0, 0), ks i a q r) (by rfl) ?_
    refine ko_call mi_in80 (i := (.invokestatic 58, 3, 126, 0, 9, 0, 151)) (by rfl) (by rfl) (cy := mi_c126) rfl (kc126 hG.1 2 y) (by decide) ⟨Nat.le_of_ble_eq_true rfl, Nat.le_of_ble_eq_true rfl⟩ ?_
    rintro _ _ ⟨rfl, _, rfl, ⟨rfl, eg2⟩ | ⟨rfl, eg2⟩⟩
    ·
      show ko _ _ _ (13, [(0, .ref 0), (1, .int x), (2, .int y)], [.int 1], (0, 0), ks i a q r)
      have f64 : (0 : Int) ≤ (i 64).toInt ∧ (i 64).toInt ≤ 8 := hI.1 64
      refine ko_steps mi_in80 5 _ (27, [(0, .ref 0), (1, .int x), (2, .int y)], [.int 8, .int (i 64)], (0, 0), ks i a q r) (by rfl) ?_
      refine ko_if mi_in80 (decide ((i 64) < 8)) 35 30 ([(0, .ref 0), (1, .int x), (2, .int y)], [], (0, 0), ks i a q r) (by rfl) (fun c => ?_) (fun c => ?_)
      ·
        have c3 := kd_lt c
        clear c
        refine ko_steps mi_in80 5 _ (43, [(0, .ref 0), (1, .int x), (2, .int y)], [.int y, .int x, .int 100, .ref 1], (0, 0), ks i a q r) (by rfl) ?_
        refine ko_call mi_in80 (i := (.invokevirtual 66, 3, 25, 0, 9, 0, 155)) (by rfl) (by rfl) (cy := mi_c25) rfl (kc25_1 hG.1 100 x y) (by decide) ⟨Nat.le_of_ble_eq_true rfl, Nat.le_of_ble_eq_true rfl⟩ ?_
        rintro _ _ ⟨ig4, ag4, qg4, rfl, kg4, ⟨vg4, rfl⟩⟩
        have hGg4 := kG_call hG kg4 rfl rfl rfl
        have hIg4 := kg4.1
        show ko _ _ _ (46, [(0, .ref 0), (1, .int x), (2, .int y)], [.int vg4], (0, 0), ks ig4 ag4 qg4 r)
        exact ko_ret mi_in80 (by rfl) ⟨_, _, _, rfl, hGg4, ⟨_, rfl⟩⟩
      ·
        have c5 := kd_ltF c
        clear c
        refine ko_steps mi_in80 2 _ (46, [(0, .ref 0), (1, .int x), (2, .int y)], [.int (-3)], (0, 0), ks i a q r) (by rfl) ?_
        exact ko_ret mi_in80 (by rfl) ⟨_, _, _, rfl, hG, ⟨_, rfl⟩⟩
    ·
      show ko _ _ _ (13, [(0, .ref 0), (1, .int x), (2, .int y)], [.int 0], (0, 0), ks i a q r)
      refine ko_steps mi_in80 2 _ (17, [(0, .ref 0), (1, .int x), (2, .int y)], [.int (-1)], (0, 0), ks i a q r) (by rfl) ?_
      exact ko_ret mi_in80 (by rfl) ⟨_, _, _, rfl, hG, ⟨_, rfl⟩⟩
  ·
    show ko _ _ _ (5, [(0, .ref 0), (1, .int x), (2, .int y)], [.int 0], (0, 0), ks i a q r)
    refine ko_steps mi_in80 2 _ (17, [(0, .ref 0), (1, .int x), (2, .int y)], [.int (-1)], (0, 0), ks i a q r) (by rfl) ?_
    exact ko_ret mi_in80 (by rfl) ⟨_, _, _, rfl, hG, ⟨_, rfl⟩⟩
set_option maxRecDepth 100000 in
theorem kc110_0 {i : Nat → Int32} {a : Nat → List Int32} {q : Nat → List Int64} {r : Nat → Nat} (hI : kI i a q) (x : Int32) : km 3 110 [.ref 0, .int x] (ks i a q r) (kV [6017] [95] [] i a q r (fun rv _ _ _ => ∃ v : Int32, rv = some (.int v))) := by
  have nm3 : ((-3) : Int32).toInt = -3 := by decide
  have nm1 : ((-1) : Int32).toInt = -1 := by decide
  have n0 : (0 : Int32).toInt = 0 := by decide
  have n1 : (1 : Int32).toInt = 1 := by decide
  have n7 : (7 : Int32).toInt = 7 := by decide
  have n50 : (50 : Int32).toInt = 50 := by decide
  have hG : kG [6017] [95] [] i a q i a q := kG_self hI
  refine km_of (q := (mi_h110, mi_c110)) rfl (by decide) (Nat.le_of_ble_eq_true rfl) ?_
  refine ko_steps mi_in110 3 _ (4, [(0, .ref 0), (1, .int x)], [.int 7, .int 0, .int x], (0, 0), ks i a q r) (by rfl) ?_
  refine ko_call mi_in110 (i := (.invokestatic 74, 3, 120, 0, 9, 0, 152)) (by rfl) (by rfl) (cy := mi_c120) rfl (kc120 _ x 0 7) (by decide) ⟨Nat.le_of_ble_eq_true rfl, Nat.le_of_ble_eq_true rfl⟩ ?_
  rintro _ _ ⟨rfl, _, rfl, ⟨rfl, eg1⟩ | ⟨rfl, eg1⟩⟩
  ·
    show ko _ _ _ (7, [(0, .ref 0), (1, .int x)], [.int 1], (0, 0), ks i a q r)
    have f6017 : (0 : Int) ≤ (i 6017).toInt ∧ (i 6017).toInt ≤ 50 := hI.1 6017
    refine ko_steps mi_in110 5 _ (21, [(0, .ref 0), (1, .int x)], [.int 50, .int (i 6017)], (0, 0), ks i a q r) (by rfl) ?_
    refine ko_if mi_in110 (decide ((i 6017) < 50)) 29 24 ([(0, .ref 0), (1, .int x)], [], (0, 0), ks i a q r) (by rfl) (fun c => ?_) (fun c => ?_)
    ·
      have c2 := kd_lt c
      clear c
      refine ko_steps mi_in110 3 _ (34, [(0, .ref 0), (1, .int x)], [.int x, .ref 94], (0, 0), ks i a q r) (by rfl) ?_
      refine ko_call mi_in110 (i := (.invokevirtual 291, 3, 9, 0, 9, 0, 293)) (by rfl) (by rfl) (cy := mi_c9) rfl (kc9_94 hG.1 x ⟨by omega, by omega⟩) (by decide) ⟨Nat.le_of_ble_eq_true rfl, Nat.le_of_ble_eq_true rfl⟩ ?_
      rintro _ _ ⟨ig3, ag3, qg3, rfl, kg3, ⟨vg3, rfl⟩⟩
      have hGg3 := kG_call hG kg3 rfl rfl rfl
      have hIg3 := kg3.1
      show ko _ _ _ (37, [(0, .ref 0), (1, .int x)], [.int vg3], (0, 0), ks ig3 ag3 qg3 r)
      exact ko_ret mi_in110 (by rfl) ⟨_, _, _, rfl, hGg3, ⟨_, rfl⟩⟩
    ·
      have c4 := kd_ltF c
      clear c
      refine ko_steps mi_in110 2 _ (37, [(0, .ref 0), (1, .int x)], [.int (-3)], (0, 0), ks i a q r) (by rfl) ?_
      exact ko_ret mi_in110 (by rfl) ⟨_, _, _, rfl, hG, ⟨_, rfl⟩⟩
  ·
    show ko _ _ _ (7, [(0, .ref 0), (1, .int x)], [.int 0], (0, 0), ks i a q r)
    refine ko_steps mi_in110 2 _ (11, [(0, .ref 0), (1, .int x)], [.int (-1)], (0, 0), ks i a q r) (by rfl) ?_
    exact ko_ret mi_in110 (by rfl) ⟨_, _, _, rfl, hG, ⟨_, rfl⟩⟩
set_option maxRecDepth 100000 in
theorem kc85_0 {i : Nat → Int32} {a : Nat → List Int32} {q : Nat → List Int64} {r : Nat → Nat} (hI : kI i a q) (x : Int32) : km 3 85 [.ref 0, .int x] (ks i a q r) (kV [6273] [99] [] i a q r (fun rv _ _ _ => ∃ v : Int32, rv = some (.int v))) := by
  have nm3 : ((-3) : Int32).toInt = -3 := by decide
  have nm1 : ((-1) : Int32).toInt = -1 := by decide
  have n0 : (0 : Int32).toInt = 0 := by decide
  have n1 : (1 : Int32).toInt = 1 := by decide
  have n120 : (120 : Int32).toInt = 120 := by decide
  have n255 : (255 : Int32).toInt = 255 := by decide
  have hG : kG [6273] [99] [] i a q i a q := kG_self hI
  refine km_of (q := (mi_h85, mi_c85)) rfl (by decide) (Nat.le_of_ble_eq_true rfl) ?_
  refine ko_steps mi_in85 3 _ (5, [(0, .ref 0), (1, .int x)], [.int 255, .int 0, .int x], (0, 0), ks i a q r) (by rfl) ?_
  refine ko_call mi_in85 (i := (.invokestatic 74, 3, 120, 0, 9, 0, 152)) (by rfl) (by rfl) (cy := mi_c120) rfl (kc120 _ x 0 255) (by decide) ⟨Nat.le_of_ble_eq_true rfl, Nat.le_of_ble_eq_true rfl⟩ ?_
  rintro _ _ ⟨rfl, _, rfl, ⟨rfl, eg1⟩ | ⟨rfl, eg1⟩⟩
  ·
    show ko _ _ _ (8, [(0, .ref 0), (1, .int x)], [.int 1], (0, 0), ks i a q r)
    have f6273 : (0 : Int) ≤ (i 6273).toInt ∧ (i 6273).toInt ≤ 120 := hI.1 6273
    refine ko_steps mi_in85 5 _ (22, [(0, .ref 0), (1, .int x)], [.int 120, .int (i 6273)], (0, 0), ks i a q r) (by rfl) ?_
    refine ko_if mi_in85 (decide ((i 6273) < 120)) 30 25 ([(0, .ref 0), (1, .int x)], [], (0, 0), ks i a q r) (by rfl) (fun c => ?_) (fun c => ?_)
    ·
      have c2 := kd_lt c
      clear c
      refine ko_steps mi_in85 3 _ (35, [(0, .ref 0), (1, .int x)], [.int x, .ref 98], (0, 0), ks i a q r) (by rfl) ?_
      refine ko_call mi_in85 (i := (.invokevirtual 110, 3, 42, 0, 9, 0, 173)) (by rfl) (by rfl) (cy := mi_c42) rfl (kc42_98 hG.1 x) (by decide) ⟨Nat.le_of_ble_eq_true rfl, Nat.le_of_ble_eq_true rfl⟩ ?_
      rintro _ _ ⟨ig3, ag3, qg3, rfl, kg3, ⟨vg3, rfl⟩⟩
      have hGg3 := kG_call hG kg3 rfl rfl rfl
      have hIg3 := kg3.1
      show ko _ _ _ (38, [(0, .ref 0), (1, .int x)], [.int vg3], (0, 0), ks ig3 ag3 qg3 r)
      exact ko_ret mi_in85 (by rfl) ⟨_, _, _, rfl, hGg3, ⟨_, rfl⟩⟩
    ·
      have c4 := kd_ltF c
      clear c
      refine ko_steps mi_in85 2 _ (38, [(0, .ref 0), (1, .int x)], [.int (-3)], (0, 0), ks i a q r) (by rfl) ?_
      exact ko_ret mi_in85 (by rfl) ⟨_, _, _, rfl, hG, ⟨_, rfl⟩⟩
  ·
    show ko _ _ _ (8, [(0, .ref 0), (1, .int x)], [.int 0], (0, 0), ks i a q r)
    refine ko_steps mi_in85 2 _ (12, [(0, .ref 0), (1, .int x)], [.int (-1)], (0, 0), ks i a q r) (by rfl) ?_
    exact ko_ret mi_in85 (by rfl) ⟨_, _, _, rfl, hG, ⟨_, rfl⟩⟩
