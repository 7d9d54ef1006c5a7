set_option maxRecDepth 100000 in
theorem kc119_0 {i : Nat → Int32} {a : Nat → List Int32} {q : Nat → List Int64} {r : Nat → Nat} (hI : kI i a q) (x : Int32) : km 1 119 [.ref 0, .int x] (ks i a q r) (kV [] [] [] i a q r (fun rv _ _ _ => ∃ v : Int32, rv = some (.int v))) := by
  have nm1 : ((-1) : Int32).toInt = -1 := by decide
  have n0 : (0 : Int32).toInt = 0 := by decide
  have n1 : (1 : Int32).toInt = 1 := by decide
  have n2 : (2 : Int32).toInt = 2 := by decide
  have n3 : (3 : Int32).toInt = 3 := by decide
  have n4 : (4 : Int32).toInt = 4 := by decide
  have n5 : (5 : Int32).toInt = 5 := by decide
  have hG : kG [] [] [] i a q i a q := kG_self hI
  refine km_of (q := (mi_h119, mi_c119)) rfl (by decide) (Nat.le_of_ble_eq_true rfl) ?_
  refine ko_steps mi_in119 1 _ (1, [(0, .ref 0), (1, .int x)], [.int x], (0, 0), ks i a q r) (by rfl) ?_
  by_cases w1 : x = 0
  ·
    have zw1 : (x).toInt = 0 := (congrArg Int32.toInt w1).trans (by decide)
    refine ko_eq (x1 := (1, [(0, .ref 0), (1, .int x)], [.int 0], (0, 0), ks i a q r)) (by rw [w1]) ?_
    refine ko_steps mi_in119 1 _ (40, [(0, .ref 0), (1, .int x)], [], (0, 0), ks i a q r) (by rfl) ?_
    have f64 : (0 : Int) ≤ (i 64).toInt ∧ (i 64).toInt ≤ 8 := hI.1 64
    refine ko_steps mi_in119 3 _ (47, [(0, .ref 0), (1, .int x)], [.int (i 64)], (0, 0), ks i a q r) (by rfl) ?_
    exact ko_ret mi_in119 (by rfl) ⟨_, _, _, rfl, hG, ⟨_, rfl⟩⟩
  ·
    have zw1 : (x).toInt ≠ 0 := fun e => w1 (Int32.toInt_inj.mp (e.trans (by decide)))
    by_cases w2 : x = 1
    ·
      have zw2 : (x).toInt = 1 := (congrArg Int32.toInt w2).trans (by decide)
      refine ko_eq (x1 := (1, [(0, .ref 0), (1, .int x)], [.int 1], (0, 0), ks i a q r)) (by rw [w2]) ?_
      refine ko_steps mi_in119 1 _ (48, [(0, .ref 0), (1, .int x)], [], (0, 0), ks i a q r) (by rfl) ?_
      have f450 : (0 : Int) ≤ (i 450).toInt ∧ (i 450).toInt ≤ 5 := hI.1 450
      refine ko_steps mi_in119 4 _ (58, [(0, .ref 0), (1, .int x)], [.int (i 450)], (0, 0), ks i a q r) (by rfl) ?_
      exact ko_ret mi_in119 (by rfl) ⟨_, _, _, rfl, hG, ⟨_, rfl⟩⟩
    ·
      have zw2 : (x).toInt ≠ 1 := fun e => w2 (Int32.toInt_inj.mp (e.trans (by decide)))
      by_cases w3 : x = 2
      ·
        have zw3 : (x).toInt = 2 := (congrArg Int32.toInt w3).trans (by decide)
        refine ko_eq (x1 := (1, [(0, .ref 0), (1, .int x)], [.int 2], (0, 0), ks i a q r)) (by rw [w3]) ?_
        refine ko_steps mi_in119 1 _ (59, [(0, .ref 0), (1, .int x)], [], (0, 0), ks i a q r) (by rfl) ?_
        have f6273 : (0 : Int) ≤ (i 6273).toInt ∧ (i 6273).toInt ≤ 120 := hI.1 6273
        refine ko_steps mi_in119 3 _ (66, [(0, .ref 0), (1, .int x)], [.int (i 6273)], (0, 0), ks i a q r) (by rfl) ?_
        exact ko_ret mi_in119 (by rfl) ⟨_, _, _, rfl, hG, ⟨_, rfl⟩⟩
      ·
        have zw3 : (x).toInt ≠ 2 := fun e => w3 (Int32.toInt_inj.mp (e.trans (by decide)))
        by_cases w4 : x = 3
        ·
          have zw4 : (x).toInt = 3 := (congrArg Int32.toInt w4).trans (by decide)
          refine ko_eq (x1 := (1, [(0, .ref 0), (1, .int x)], [.int 3], (0, 0), ks i a q r)) (by rw [w4]) ?_
          refine ko_steps mi_in119 1 _ (67, [(0, .ref 0), (1, .int x)], [], (0, 0), ks i a q r) (by rfl) ?_
          have f5701 : (0 : Int) ≤ (i 5701).toInt ∧ (i 5701).toInt ≤ 40 := hI.1 5701
          refine ko_steps mi_in119 3 _ (74, [(0, .ref 0), (1, .int x)], [.int (i 5701)], (0, 0), ks i a q r) (by rfl) ?_
          exact ko_ret mi_in119 (by rfl) ⟨_, _, _, rfl, hG, ⟨_, rfl⟩⟩
        ·
          have zw4 : (x).toInt ≠ 3 := fun e => w4 (Int32.toInt_inj.mp (e.trans (by decide)))
          by_cases w5 : x = 4
          ·
            have zw5 : (x).toInt = 4 := (congrArg Int32.toInt w5).trans (by decide)
            refine ko_eq (x1 := (1, [(0, .ref 0), (1, .int x)], [.int 4], (0, 0), ks i a q r)) (by rw [w5]) ?_
            refine ko_steps mi_in119 1 _ (75, [(0, .ref 0), (1, .int x)], [], (0, 0), ks i a q r) (by rfl) ?_
            have f6017 : (0 : Int) ≤ (i 6017).toInt ∧ (i 6017).toInt ≤ 50 := hI.1 6017
            refine ko_steps mi_in119 3 _ (82, [(0, .ref 0), (1, .int x)], [.int (i 6017)], (0, 0), ks i a q r) (by rfl) ?_
            exact ko_ret mi_in119 (by rfl) ⟨_, _, _, rfl, hG, ⟨_, rfl⟩⟩
          ·
            have zw5 : (x).toInt ≠ 4 := fun e => w5 (Int32.toInt_inj.mp (e.trans (by decide)))
            by_cases w6 : x = 5
            ·
              have zw6 : (x).toInt = 5 := (congrArg Int32.toInt w6).trans (by decide)
              refine ko_eq (x1 := (1, [(0, .ref 0), (1, .int x)], [.int 5], (0, 0), ks i a q r)) (by rw [w6]) ?_
              refine ko_steps mi_in119 1 _ (83, [(0, .ref 0), (1, .int x)], [], (0, 0), ks i a q r) (by rfl) ?_
              have f6019 : (0 : Int) ≤ (i 6019).toInt ∧ (i 6019).toInt ≤ 1000 := hI.1 6019
              refine ko_steps mi_in119 3 _ (90, [(0, .ref 0), (1, .int x)], [.int (i 6019)], (0, 0), ks i a q r) (by rfl) ?_
              exact ko_ret mi_in119 (by rfl) ⟨_, _, _, rfl, hG, ⟨_, rfl⟩⟩
            ·
              have zw6 : (x).toInt ≠ 5 := fun e => w6 (Int32.toInt_inj.mp (e.trans (by decide)))
              refine ko_sw (ls := [(0, .ref 0), (1, .int x)]) (r := []) (h := ks i a q r) mi_in119 (v := x) (i := (.tableswitch 90 0 5 #[39, 47, 58, 66, 74, 82], 39, 0, 0, 0, 0, 0)) (by rfl) rfl (by omega) 91 (by rfl) ?_
              refine ko_steps mi_in119 1 _ (92, [(0, .ref 0), (1, .int x)], [.int (-1)], (0, 0), ks i a q r) (by rfl) ?_
              exact ko_ret mi_in119 (by rfl) ⟨_, _, _, rfl, hG, ⟨_, rfl⟩⟩
set_option maxRecDepth 100000 in
theorem kc105_0 {i : Nat → Int32} {a : Nat → List Int32} {q : Nat → List Int64} {r : Nat → Nat} (hI : kI i a q) (x : Int32) : km 3 105 [.ref 0, .int x] (ks i a q r) (kV [] [] [] i a q r (fun rv _ _ _ => ∃ v : Int32, rv = some (.int v))) := by
  have nm1 : ((-1) : Int32).toInt = -1 := by decide
  have n0 : (0 : Int32).toInt = 0 := by decide
  have n1 : (1 : Int32).toInt = 1 := by decide
  have n4 : (4 : Int32).toInt = 4 := by decide
  have hG : kG [] [] [] i a q i a q := kG_self hI
  refine km_of (q := (mi_h105, mi_c105)) rfl (by decide) (Nat.le_of_ble_eq_true rfl) ?_
  refine ko_steps mi_in105 3 _ (3, [(0, .ref 0), (1, .int x)], [.int 4, .int 0, .int x], (0, 0), ks i a q r) (by rfl) ?_
  refine ko_call mi_in105 (i := (.invokestatic 74, 3, 120, 0, 9, 0, 152)) (by rfl) (by rfl) (cy := mi_c120) rfl (kc120 _ x 0 4) (by decide) ⟨Nat.le_of_ble_eq_true rfl, Nat.le_of_ble_eq_true rfl⟩ ?_
  rintro _ _ ⟨rfl, _, rfl, ⟨rfl, eg1⟩ | ⟨rfl, eg1⟩⟩
  ·
    show ko _ _ _ (6, [(0, .ref 0), (1, .int x)], [.int 1], (0, 0), ks i a q r)
    refine ko_steps mi_in105 5 _ (17, [(0, .ref 0), (1, .int x)], [.int x, .ref 14], (0, 0), ks i a q r) (by rfl) ?_
    have l14 : (a 14).length = 5 := hI.2.1 14
    refine ko_iald mi_in105 (l := a 14) (ax := (0, 0, 0, 0, 0)) (by rfl) (by rfl) (by rfl) (by omega) (by first | omega | (simp only [List.length_set]; omega)) ?_
    refine ko_steps mi_in105 1 _ (22, [(0, .ref 0), (1, .int x)], [.int ((a 14).getD (x).toNatClampNeg 0)], (0, 0), ks i a q r) (by rfl) ?_
    exact ko_ret mi_in105 (by rfl) ⟨_, _, _, rfl, hG, ⟨_, rfl⟩⟩
  ·
    show ko _ _ _ (6, [(0, .ref 0), (1, .int x)], [.int 0], (0, 0), ks i a q r)
    refine ko_steps mi_in105 2 _ (22, [(0, .ref 0), (1, .int x)], [.int (-1)], (0, 0), ks i a q r) (by rfl) ?_
    exact ko_ret mi_in105 (by rfl) ⟨_, _, _, rfl, hG, ⟨_, rfl⟩⟩
