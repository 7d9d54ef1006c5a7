set_option maxRecDepth 100000 in
theorem kc1_7 {i : Nat → Int32} {a : Nat → List Int32} {q : Nat → List Int64} {r : Nat → Nat} (hI : kI i a q) (x : Int32) (y : Int32) : km 1 1 [.ref 7, .int x, .int y] (ks i a q r) (kV [450] [8, 9] [] i a q r (fun rv _ _ _ => rv = none)) := by
  have n1 : (1 : Int32).toInt = 1 := by decide
  have n5 : (5 : Int32).toInt = 5 := by decide
  have hG : kG [450] [8, 9] [] i a q i a q := kG_self hI
  refine km_of (q := (mi_h1, mi_c1)) rfl (by decide) (Nat.le_of_ble_eq_true rfl) ?_
  have f450 : (0 : Int) ≤ (i 450).toInt ∧ (i 450).toInt ≤ 5 := hI.1 450
  refine ko_steps mi_in1 3 _ (5, [(0, .ref 7), (1, .int x), (2, .int y)], [.int 5, .int (i 450)], (0, 0), ks i a q r) (by rfl) ?_
  refine ko_if mi_in1 (decide (5 ≤ (i 450))) 38 8 ([(0, .ref 7), (1, .int x), (2, .int y)], [], (0, 0), ks i a q r) (by rfl) (fun c => ?_) (fun c => ?_)
  ·
    have c1 := kd_le c
    clear c
    exact ko_ret mi_in1 (by rfl) ⟨_, _, _, rfl, hG, rfl⟩
  ·
    have c2 := kd_leF c
    clear c
    refine ko_steps mi_in1 5 _ (17, [(0, .ref 7), (1, .int x), (2, .int y)], [.int x, .int (i 450), .ref 8], (0, 0), ks i a q r) (by rfl) ?_
    have l8 : (a 8).length = 5 := hI.2.1 8
    refine ko_iast mi_in1 (l := a 8) (ax := (0, 0, 0, 0, 0)) (by rfl) (by rfl) (by rfl) (by omega) (by first | omega | (simp only [List.length_set]; omega)) ?_
    have hJ3 := kG_a hG 8 rfl ((i 450)).toNatClampNeg (v := x) (kd_bd _)
    refine ko_eq (x1 := (18, [(0, .ref 7), (1, .int x), (2, .int y)], [], (0, 0), ks i (ku a 8 ((a 8).set ((i 450)).toNatClampNeg x)) q r)) (by rfl) ?_
    refine ko_steps mi_in1 5 _ (27, [(0, .ref 7), (1, .int x), (2, .int y)], [.int y, .int (i 450), .ref 9], (0, 0), ks i (ku a 8 ((a 8).set ((i 450)).toNatClampNeg x)) q r) (by rfl) ?_
    have l9 : (a 9).length = 5 := hI.2.1 9
    refine ko_iast mi_in1 (l := a 9) (ax := (0, 0, 0, 0, 0)) (by rfl) (by rfl) (by rfl) (by omega) (by first | omega | (simp only [List.length_set]; omega)) ?_
    have hJ4 := kG_a hJ3 9 rfl ((i 450)).toNatClampNeg (v := y) (kd_bd _)
    refine ko_eq (x1 := (28, [(0, .ref 7), (1, .int x), (2, .int y)], [], (0, 0), ks i (ku (ku a 8 ((a 8).set ((i 450)).toNatClampNeg x)) 9 ((a 9).set ((i 450)).toNatClampNeg y)) q r)) (by rfl) ?_
    try have s5 := kd_add (x := (i 450)) (y := 1) (by omega) (by omega)
    have hJ6 := kG_i hJ4 450 rfl (v := (((i 450) + 1))) ⟨show (0 : Int) ≤ _ by omega, show _ ≤ (5 : Int) by omega⟩
    refine ko_steps mi_in1 6 _ (38, [(0, .ref 7), (1, .int x), (2, .int y)], [], (0, 0), ks (ku i 450 ((((i 450) + 1)))) (ku (ku a 8 ((a 8).set ((i 450)).toNatClampNeg x)) 9 ((a 9).set ((i 450)).toNatClampNeg y)) q r) (by rfl) ?_
    exact ko_ret mi_in1 (by rfl) ⟨_, _, _, rfl, hJ6, rfl⟩
set_option maxRecDepth 100000 in
theorem kc1_31 {i : Nat → Int32} {a : Nat → List Int32} {q : Nat → List Int64} {r : Nat → Nat} (hI : kI i a q) (x : Int32) (y : Int32) : km 1 1 [.ref 31, .int x, .int y] (ks i a q r) (kV [1986] [32, 33] [] i a q r (fun rv _ _ _ => rv = none)) := by
  have n1 : (1 : Int32).toInt = 1 := by decide
  have n5 : (5 : Int32).toInt = 5 := by decide
  have hG : kG [1986] [32, 33] [] i a q i a q := kG_self hI
  refine km_of (q := (mi_h1, mi_c1)) rfl (by decide) (Nat.le_of_ble_eq_true rfl) ?_
  have f1986 : (0 : Int) ≤ (i 1986).toInt ∧ (i 1986).toInt ≤ 5 := hI.1 1986
  refine ko_steps mi_in1 3 _ (5, [(0, .ref 31), (1, .int x), (2, .int y)], [.int 5, .int (i 1986)], (0, 0), ks i a q r) (by rfl) ?_
  refine ko_if mi_in1 (decide (5 ≤ (i 1986))) 38 8 ([(0, .ref 31), (1, .int x), (2, .int y)], [], (0, 0), ks i a q r) (by rfl) (fun c => ?_) (fun c => ?_)
  ·
    have c1 := kd_le c
    clear c
    exact ko_ret mi_in1 (by rfl) ⟨_, _, _, rfl, hG, rfl⟩
  ·
    have c2 := kd_leF c
    clear c
    refine ko_steps mi_in1 5 _ (17, [(0, .ref 31), (1, .int x), (2, .int y)], [.int x, .int (i 1986), .ref 32], (0, 0), ks i a q r) (by rfl) ?_
    have l32 : (a 32).length = 5 := hI.2.1 32
    refine ko_iast mi_in1 (l := a 32) (ax := (0, 0, 0, 0, 0)) (by rfl) (by rfl) (by rfl) (by omega) (by first | omega | (simp only [List.length_set]; omega)) ?_
    have hJ3 := kG_a hG 32 rfl ((i 1986)).toNatClampNeg (v := x) (kd_bd _)
    refine ko_eq (x1 := (18, [(0, .ref 31), (1, .int x), (2, .int y)], [], (0, 0), ks i (ku a 32 ((a 32).set ((i 1986)).toNatClampNeg x)) q r)) (by rfl) ?_
    refine ko_steps mi_in1 5 _ (27, [(0, .ref 31), (1, .int x), (2, .int y)], [.int y, .int (i 1986), .ref 33], (0, 0), ks i (ku a 32 ((a 32).set ((i 1986)).toNatClampNeg x)) q r) (by rfl) ?_
    have l33 : (a 33).length = 5 := hI.2.1 33
    refine ko_iast mi_in1 (l := a 33) (ax := (0, 0, 0, 0, 0)) (by rfl) (by rfl) (by rfl) (by omega) (by first | omega | (simp only [List.length_set]; omega)) ?_
    have hJ4 := kG_a hJ3 33 rfl ((i 1986)).toNatClampNeg (v := y) (kd_bd _)
    refine ko_eq (x1 := (28, [(0, .ref 31), (1, .int x), (2, .int y)], [], (0, 0), ks i (ku (ku a 32 ((a 32).set ((i 1986)).toNatClampNeg x)) 33 ((a 33).set ((i 1986)).toNatClampNeg y)) q r)) (by rfl) ?_
    try have s5 := kd_add (x := (i 1986)) (y := 1) (by omega) (by omega)
    have hJ6 := kG_i hJ4 1986 rfl (v := (((i 1986) + 1))) ⟨show (0 : Int) ≤ _ by omega, show _ ≤ (5 : Int) by omega⟩
    refine ko_steps mi_in1 6 _ (38, [(0, .ref 31), (1, .int x), (2, .int y)], [], (0, 0), ks (ku i 1986 ((((i 1986) + 1)))) (ku (ku a 32 ((a 32).set ((i 1986)).toNatClampNeg x)) 33 ((a 33).set ((i 1986)).toNatClampNeg y)) q r) (by rfl) ?_
    exact ko_ret mi_in1 (by rfl) ⟨_, _, _, rfl, hJ6, rfl⟩
set_option maxRecDepth 100000 in
theorem kc1_56 {i : Nat → Int32} {a : Nat → List Int32} {q : Nat → List Int64} {r : Nat → Nat} (hI : kI i a q) (x : Int32) (y : Int32) : km 1 1 [.ref 56, .int x, .int y] (ks i a q r) (kV [3586] [57, 58] [] i a q r (fun rv _ _ _ => rv = none)) := by
  have n1 : (1 : Int32).toInt = 1 := by decide
  have n5 : (5 : Int32).toInt = 5 := by decide
  have hG : kG [3586] [57, 58] [] i a q i a q := kG_self hI
  refine km_of (q := (mi_h1, mi_c1)) rfl (by decide) (Nat.le_of_ble_eq_true rfl) ?_
  have f3586 : (0 : Int) ≤ (i 3586).toInt ∧ (i 3586).toInt ≤ 5 := hI.1 3586
  refine ko_steps mi_in1 3 _ (5, [(0, .ref 56), (1, .int x), (2, .int y)], [.int 5, .int (i 3586)], (0, 0), ks i a q r) (by rfl) ?_
  refine ko_if mi_in1 (decide (5 ≤ (i 3586))) 38 8 ([(0, .ref 56), (1, .int x), (2, .int y)], [], (0, 0), ks i a q r) (by rfl) (fun c => ?_) (fun c => ?_)
  ·
    have c1 := kd_le c
    clear c
    exact ko_ret mi_in1 (by rfl) ⟨_, _, _, rfl, hG, rfl⟩
  ·
    have c2 := kd_leF c
    clear c
    refine ko_steps mi_in1 5 _ (17, [(0, .ref 56), (1, .int x), (2, .int y)], [.int x, .int (i 3586), .ref 57], (0, 0), ks i a q r) (by rfl) ?_
    have l57 : (a 57).length = 5 := hI.2.1 57
    refine ko_iast mi_in1 (l := a 57) (ax := (0, 0, 0, 0, 0)) (by rfl) (by rfl) (by rfl) (by omega) (by first | omega | (simp only [List.length_set]; omega)) ?_
    have hJ3 := kG_a hG 57 rfl ((i 3586)).toNatClampNeg (v := x) (kd_bd _)
    refine ko_eq (x1 := (18, [(0, .ref 56), (1, .int x), (2, .int y)], [], (0, 0), ks i (ku a 57 ((a 57).set ((i 3586)).toNatClampNeg x)) q r)) (by rfl) ?_
    refine ko_steps mi_in1 5 _ (27, [(0, .ref 56), (1, .int x), (2, .int y)], [.int y, .int (i 3586), .ref 58], (0, 0), ks i (ku a 57 ((a 57).set ((i 3586)).toNatClampNeg x)) q r) (by rfl) ?_
    have l58 : (a 58).length = 5 := hI.2.1 58
    refine ko_iast mi_in1 (l := a 58) (ax := (0, 0, 0, 0, 0)) (by rfl) (by rfl) (by rfl) (by omega) (by first | omega | (simp only [List.length_set]; omega)) ?_
    have hJ4 := kG_a hJ3 58 rfl ((i 3586)).toNatClampNeg (v := y) (kd_bd _)
    refine ko_eq (x1 := (28, [(0, .ref 56), (1, .int x), (2, .int y)], [], (0, 0), ks i (ku (ku a 57 ((a 57).set ((i 3586)).toNatClampNeg x)) 58 ((a 58).set ((i 3586)).toNatClampNeg y)) q r)) (by rfl) ?_
    try have s5 := kd_add (x := (i 3586)) (y := 1) (by omega) (by omega)
    have hJ6 := kG_i hJ4 3586 rfl (v := (((i 3586) + 1))) ⟨show (0 : Int) ≤ _ by omega, show _ ≤ (5 : Int) by omega⟩
    refine ko_steps mi_in1 6 _ (38, [(0, .ref 56), (1, .int x), (2, .int y)], [], (0, 0), ks (ku i 3586 ((((i 3586) + 1)))) (ku (ku a 57 ((a 57).set ((i 3586)).toNatClampNeg x)) 58 ((a 58).set ((i 3586)).toNatClampNeg y)) q r) (by rfl) ?_
    exact ko_ret mi_in1 (by rfl) ⟨_, _, _, rfl, hJ6, rfl⟩
set_option maxRecDepth 100000 in
theorem kc17_10 {i : Nat → Int32} {a : Nat → List Int32} {q : Nat → List Int64} {r : Nat → Nat} (hI : kI i a q) (x : Int32) (y : Int32) : km 1 17 [.ref 10, .int x, .int y] (ks i a q r) (kV [643] [11, 12] [] i a q r (fun rv _ _ _ => ∃ v : Int32, rv = some (.int v))) := by
  have n1 : (1 : Int32).toInt = 1 := by decide
  have n121 : (121 : Int32).toInt = 121 := by decide
  have hG : kG [643] [11, 12] [] i a q i a q := kG_self hI
  refine km_of (q := (mi_h17, mi_c17)) rfl (by decide) (Nat.le_of_ble_eq_true rfl) ?_
  have f643 : (0 : Int) ≤ (i 643).toInt ∧ (i 643).toInt ≤ 121 := hI.1 643
  refine ko_steps mi_in17 3 _ (6, [(0, .ref 10), (1, .int x), (2, .int y)], [.int 121, .int (i 643)], (0, 0), ks i a q r) (by rfl) ?_
  refine ko_if mi_in17 (decide (121 ≤ (i 643))) 39 9 ([(0, .ref 10), (1, .int x), (2, .int y)], [], (0, 0), ks i a q r) (by rfl) (fun c => ?_) (fun c => ?_)
  ·
    have c1 := kd_le c
    clear c
    try have s2 := kd_sub (x := (i 643)) (y := 1) (by omega) (by omega)
    refine ko_steps mi_in17 4 _ (45, [(0, .ref 10), (1, .int x), (2, .int y)], [.int (((i 643) - 1))], (0, 0), ks i a q r) (by rfl) ?_
    exact ko_ret mi_in17 (by rfl) ⟨_, _, _, rfl, hG, ⟨_, rfl⟩⟩
  ·
    have c3 := kd_leF c
    clear c
    refine ko_steps mi_in17 5 _ (18, [(0, .ref 10), (1, .int x), (2, .int y)], [.int x, .int (i 643), .ref 11], (0, 0), ks i a q r) (by rfl) ?_
    have l11 : (a 11).length = 121 := hI.2.1 11
    refine ko_iast mi_in17 (l := a 11) (ax := (0, 0, 0, 0, 0)) (by rfl) (by rfl) (by rfl) (by omega) (by first | omega | (simp only [List.length_set]; omega)) ?_
    have hJ4 := kG_a hG 11 rfl ((i 643)).toNatClampNeg (v := x) (kd_bd _)
    refine ko_eq (x1 := (19, [(0, .ref 10), (1, .int x), (2, .int y)], [], (0, 0), ks i (ku a 11 ((a 11).set ((i 643)).toNatClampNeg x)) q r)) (by rfl) ?_
    refine ko_steps mi_in17 5 _ (28, [(0, .ref 10), (1, .int x), (2, .int y)], [.int y, .int (i 643), .ref 12], (0, 0), ks i (ku a 11 ((a 11).set ((i 643)).toNatClampNeg x)) q r) (by rfl) ?_
    have l12 : (a 12).length = 121 := hI.2.1 12
    refine ko_iast mi_in17 (l := a 12) (ax := (0, 0, 0, 0, 0)) (by rfl) (by rfl) (by rfl) (by omega) (by first | omega | (simp only [List.length_set]; omega)) ?_
    have hJ5 := kG_a hJ4 12 rfl ((i 643)).toNatClampNeg (v := y) (kd_bd _)
    refine ko_eq (x1 := (29, [(0, .ref 10), (1, .int x), (2, .int y)], [], (0, 0), ks i (ku (ku a 11 ((a 11).set ((i 643)).toNatClampNeg x)) 12 ((a 12).set ((i 643)).toNatClampNeg y)) q r)) (by rfl) ?_
    try have s6 := kd_add (x := (i 643)) (y := 1) (by omega) (by omega)
    have hJ7 := kG_i hJ5 643 rfl (v := (((i 643) + 1))) ⟨show (0 : Int) ≤ _ by omega, show _ ≤ (121 : Int) by omega⟩
    try have s8 := kd_sub (x := (((i 643) + 1))) (y := 1) (by omega) (by omega)
    refine ko_steps mi_in17 10 _ (45, [(0, .ref 10), (1, .int x), (2, .int y)], [.int (((((i 643) + 1)) - 1))], (0, 0), ks (ku i 643 ((((i 643) + 1)))) (ku (ku a 11 ((a 11).set ((i 643)).toNatClampNeg x)) 12 ((a 12).set ((i 643)).toNatClampNeg y)) q r) (by rfl) ?_
    exact ko_ret mi_in17 (by rfl) ⟨_, _, _, rfl, hJ7, ⟨_, rfl⟩⟩
set_option maxRecDepth 100000 in
theorem kc18_10 {i : Nat → Int32} {a : Nat → List Int32} {q : Nat → List Int64} {r : Nat → Nat} (hI : kI i a q) (x : Int32) : km 1 18 [.ref 10, .int x] (ks i a q r) (kV [] [12] [] i a q r (fun rv _ _ _ => rv = none)) := by
  have n0 : (0 : Int32).toInt = 0 := by decide
  have hG : kG [] [12] [] i a q i a q := kG_self hI
  refine km_of (q := (mi_h18, mi_c18)) rfl (by decide) (Nat.le_of_ble_eq_true rfl) ?_
  refine ko_steps mi_in18 1 _ (1, [(0, .ref 10), (1, .int x)], [.int x], (0, 0), ks i a q r) (by rfl) ?_
  refine ko_if mi_in18 (decide (x < 0)) 22 4 ([(0, .ref 10), (1, .int x)], [], (0, 0), ks i a q r) (by rfl) (fun c => ?_) (fun c => ?_)
  ·
    have c1 := kd_lt c
    clear c
    exact ko_ret mi_in18 (by rfl) ⟨_, _, _, rfl, hG, rfl⟩
  ·
    have c2 := kd_ltF c
    clear c
    have f643 : (0 : Int) ≤ (i 643).toInt ∧ (i 643).toInt ≤ 121 := hI.1 643
    refine ko_steps mi_in18 3 _ (9, [(0, .ref 10), (1, .int x)], [.int (i 643), .int x], (0, 0), ks i a q r) (by rfl) ?_
    refine ko_if mi_in18 (decide ((i 643) ≤ x)) 22 12 ([(0, .ref 10), (1, .int x)], [], (0, 0), ks i a q r) (by rfl) (fun c => ?_) (fun c => ?_)
    ·
      have c3 := kd_le c
      clear c
      exact ko_ret mi_in18 (by rfl) ⟨_, _, _, rfl, hG, rfl⟩
    ·
      have c4 := kd_leF c
      clear c
      refine ko_steps mi_in18 5 _ (21, [(0, .ref 10), (1, .int x)], [.int (i 643), .int x, .ref 12], (0, 0), ks i a q r) (by rfl) ?_
      have l12 : (a 12).length = 121 := hI.2.1 12
      refine ko_iast mi_in18 (l := a 12) (ax := (0, 0, 0, 0, 0)) (by rfl) (by rfl) (by rfl) (by omega) (by first | omega | (simp only [List.length_set]; omega)) ?_
      have hJ5 := kG_a hG 12 rfl (x).toNatClampNeg (v := (i 643)) (kd_bd _)
      refine ko_eq (x1 := (22, [(0, .ref 10), (1, .int x)], [], (0, 0), ks i (ku a 12 ((a 12).set (x).toNatClampNeg ((i 643)))) q r)) (by rfl) ?_
      exact ko_ret mi_in18 (by rfl) ⟨_, _, _, rfl, hJ5, rfl⟩
set_option maxRecDepth 100000 in
theorem kc19_10 {i : Nat → Int32} {a : Nat → List Int32} {q : Nat → List Int64} {r : Nat → Nat} (hI : kI i a q) (x : Int32) : km 1 19 [.ref 10, .int x] (ks i a q r) (kV [645] [13] [] i a q r (fun rv _ _ _ => rv = none)) := by
  have n1 : (1 : Int32).toInt = 1 := by decide
  have n121 : (121 : Int32).toInt = 121 := by decide
  have hG : kG [645] [13] [] i a q i a q := kG_self hI
  refine km_of (q := (mi_h19, mi_c19)) rfl (by decide) (Nat.le_of_ble_eq_true rfl) ?_
  have f645 : (0 : Int) ≤ (i 645).toInt ∧ (i 645).toInt ≤ 121 := hI.1 645
  refine ko_steps mi_in19 3 _ (6, [(0, .ref 10), (1, .int x)], [.int 121, .int (i 645)], (0, 0), ks i a q r) (by rfl) ?_
  refine ko_if mi_in19 (decide (121 ≤ (i 645))) 29 9 ([(0, .ref 10), (1, .int x)], [], (0, 0), ks i a q r) (by rfl) (fun c => ?_) (fun c => ?_)
  ·
    have c1 := kd_le c
    clear c
    exact ko_ret mi_in19 (by rfl) ⟨_, _, _, rfl, hG, rfl⟩
  ·
    have c2 := kd_leF c
    clear c
    refine ko_steps mi_in19 5 _ (18, [(0, .ref 10), (1, .int x)], [.int x, .int (i 645), .ref 13], (0, 0), ks i a q r) (by rfl) ?_
    have l13 : (a 13).length = 121 := hI.2.1 13
    refine ko_iast mi_in19 (l := a 13) (ax := (0, 0, 0, 0, 0)) (by rfl) (by rfl) (by rfl) (by omega) (by first | omega | (simp only [List.length_set]; omega)) ?_
    have hJ3 := kG_a hG 13 rfl ((i 645)).toNatClampNeg (v := x) (kd_bd _)
    refine ko_eq (x1 := (19, [(0, .ref 10), (1, .int x)], [], (0, 0), ks i (ku a 13 ((a 13).set ((i 645)).toNatClampNeg x)) q r)) (by rfl) ?_
    try have s4 := kd_add (x := (i 645)) (y := 1) (by omega) (by omega)
    have hJ5 := kG_i hJ3 645 rfl (v := (((i 645) + 1))) ⟨show (0 : Int) ≤ _ by omega, show _ ≤ (121 : Int) by omega⟩
    refine ko_steps mi_in19 6 _ (29, [(0, .ref 10), (1, .int x)], [], (0, 0), ks (ku i 645 ((((i 645) + 1)))) (ku a 13 ((a 13).set ((i 645)).toNatClampNeg x)) q r) (by rfl) ?_
    exact ko_ret mi_in19 (by rfl) ⟨_, _, _, rfl, hJ5, rfl⟩
set_option maxRecDepth 100000 in
theorem kc20_10 {i : Nat → Int32} {a : Nat → List Int32} {q : Nat → List Int64} {r : Nat → Nat} (hI : kI i a q) : km 1 20 [.ref 10] (ks i a q r) (kV [645] [] [] i a q r (fun rv _ _ _ => ∃ v : Int32, rv = some (.int v))) := by
  have n0 : (0 : Int32).toInt = 0 := by decide
  have n1 : (1 : Int32).toInt = 1 := by decide
  have hG : kG [645] [] [] i a q i a q := kG_self hI
  refine km_of (q := (mi_h20, mi_c20)) rfl (by decide) (Nat.le_of_ble_eq_true rfl) ?_
  have f645 : (0 : Int) ≤ (i 645).toInt ∧ (i 645).toInt ≤ 121 := hI.1 645
  refine ko_steps mi_in20 2 _ (4, [(0, .ref 10)], [.int (i 645)], (0, 0), ks i a q r) (by rfl) ?_
  refine ko_if mi_in20 (decide (0 < (i 645))) 9 7 ([(0, .ref 10)], [], (0, 0), ks i a q r) (by rfl) (fun c => ?_) (fun c => ?_)
  ·
    have c1 := kd_lt c
    clear c
    try have s2 := kd_sub (x := (i 645)) (y := 1) (by omega) (by omega)
    have hJ3 := kG_i hG 645 rfl (v := (((i 645) - 1))) ⟨show (0 : Int) ≤ _ by omega, show _ ≤ (121 : Int) by omega⟩
    refine ko_steps mi_in20 10 _ (27, [(0, .ref 10)], [.int (((i 645) - 1)), .ref 13], (0, 0), ks (ku i 645 ((((i 645) - 1)))) a q r) (by rfl) ?_
    have l13 : (a 13).length = 121 := hI.2.1 13
    refine ko_iald mi_in20 (l := a 13) (ax := (0, 0, 0, 0, 0)) (by rfl) (by rfl) (by rfl) (by omega) (by first | omega | (simp only [List.length_set]; omega)) ?_
    exact ko_ret mi_in20 (by rfl) ⟨_, _, _, rfl, hJ3, ⟨_, rfl⟩⟩
  ·
    have c4 := kd_ltF c
    clear c
    refine ko_steps mi_in20 1 _ (8, [(0, .ref 10)], [.int 0], (0, 0), ks i a q r) (by rfl) ?_
    exact ko_ret mi_in20 (by rfl) ⟨_, _, _, rfl, hG, ⟨_, rfl⟩⟩
set_option maxRecDepth 100000 in
theorem kc16_10 {i : Nat → Int32} {a : Nat → List Int32} {q : Nat → List Int64} {r : Nat → Nat} (hI : kI i a q) : km 1 16 [.ref 10] (ks i a q r) (kV [640, 643] [] [] i a q r (fun rv _ _ _ => rv = none)) := by
  have n0 : (0 : Int32).toInt = 0 := by decide
  have hG : kG [640, 643] [] [] i a q i a q := kG_self hI
  refine km_of (q := (mi_h16, mi_c16)) rfl (by decide) (Nat.le_of_ble_eq_true rfl) ?_
  have hJ1 := kG_i hG 640 rfl (v := 0) ⟨show (0 : Int) ≤ _ by omega, show _ ≤ (1 : Int) by omega⟩
  have hJ2 := kG_i hJ1 643 rfl (v := 0) ⟨show (0 : Int) ≤ _ by omega, show _ ≤ (121 : Int) by omega⟩
  refine ko_steps mi_in16 6 _ (10, [(0, .ref 10)], [], (0, 0), ks (ku (ku i 640 0) 643 0) a q r) (by rfl) ?_
  exact ko_ret mi_in16 (by rfl) ⟨_, _, _, rfl, hJ2, rfl⟩
set_option maxRecDepth 100000 in
theorem kc17_34 {i : Nat → Int32} {a : Nat → List Int32} {q : Nat → List Int64} {r : Nat → Nat} (hI : kI i a q) (x : Int32) (y : Int32) : km 1 17 [.ref 34, .int x, .int y] (ks i a q r) (kV [2179] [35, 36] [] i a q r (fun rv _ _ _ => ∃ v : Int32, rv = some (.int v))) := by
  have n1 : (1 : Int32).toInt = 1 := by decide
  have n121 : (121 : Int32).toInt = 121 := by decide
  have hG : kG [2179] [35, 36] [] i a q i a q := kG_self hI
  refine km_of (q := (mi_h17, mi_c17)) rfl (by decide) (Nat.le_of_ble_eq_true rfl) ?_
  have f2179 : (0 : Int) ≤ (i 2179).toInt ∧ (i 2179).toInt ≤ 121 := hI.1 2179
  refine ko_steps mi_in17 3 _ (6, [(0, .ref 34), (1, .int x), (2, .int y)], [.int 121, .int (i 2179)], (0, 0), ks i a q r) (by rfl) ?_
  refine ko_if mi_in17 (decide (121 ≤ (i 2179))) 39 9 ([(0, .ref 34), (1, .int x), (2, .int y)], [], (0, 0), ks i a q r) (by rfl) (fun c => ?_) (fun c => ?_)
  ·
    have c1 := kd_le c
    clear c
    try have s2 := kd_sub (x := (i 2179)) (y := 1) (by omega) (by omega)
    refine ko_steps mi_in17 4 _ (45, [(0, .ref 34), (1, .int x), (2, .int y)], [.int (((i 2179) - 1))], (0, 0), ks i a q r) (by rfl) ?_
    exact ko_ret mi_in17 (by rfl) ⟨_, _, _, rfl, hG, ⟨_, rfl⟩⟩
  ·
    have c3 := kd_leF c
    clear c
    refine ko_steps mi_in17 5 _ (18, [(0, .ref 34), (1, .int x), (2, .int y)], [.int x, .int (i 2179), .ref 35], (0, 0), ks i a q r) (by rfl) ?_
    have l35 : (a 35).length = 121 := hI.2.1 35
    refine ko_iast mi_in17 (l := a 35) (ax := (0, 0, 0, 0, 0)) (by rfl) (by rfl) (by rfl) (by omega) (by first | omega | (simp only [List.length_set]; omega)) ?_
    have hJ4 := kG_a hG 35 rfl ((i 2179)).toNatClampNeg (v := x) (kd_bd _)
    refine ko_eq (x1 := (19, [(0, .ref 34), (1, .int x), (2, .int y)], [], (0, 0), ks i (ku a 35 ((a 35).set ((i 2179)).toNatClampNeg x)) q r)) (by rfl) ?_
    refine ko_steps mi_in17 5 _ (28, [(0, .ref 34), (1, .int x), (2, .int y)], [.int y, .int (i 2179), .ref 36], (0, 0), ks i (ku a 35 ((a 35).set ((i 2179)).toNatClampNeg x)) q r) (by rfl) ?_
    have l36 : (a 36).length = 121 := hI.2.1 36
    refine ko_iast mi_in17 (l := a 36) (ax := (0, 0, 0, 0, 0)) (by rfl) (by rfl) (by rfl) (by omega) (by first | omega | (simp only [List.length_set]; omega)) ?_
    have hJ5 := kG_a hJ4 36 rfl ((i 2179)).toNatClampNeg (v := y) (kd_bd _)
    refine ko_eq (x1 := (29, [(0, .ref 34), (1, .int x), (2, .int y)], [], (0, 0), ks i (ku (ku a 35 ((a 35).set ((i 2179)).toNatClampNeg x)) 36 ((a 36).set ((i 2179)).toNatClampNeg y)) q r)) (by rfl) ?_
    try have s6 := kd_add (x := (i 2179)) (y := 1) (by omega) (by omega)
    have hJ7 := kG_i hJ5 2179 rfl (v := (((i 2179) + 1))) ⟨show (0 : Int) ≤ _ by omega, show _ ≤ (121 : Int) by omega⟩
    try have s8 := kd_sub (x := (((i 2179) + 1))) (y := 1) (by omega) (by omega)
    refine ko_steps mi_in17 10 _ (45, [(0, .ref 34), (1, .int x), (2, .int y)], [.int (((((i 2179) + 1)) - 1))], (0, 0), ks (ku i 2179 ((((i 2179) + 1)))) (ku (ku a 35 ((a 35).set ((i 2179)).toNatClampNeg x)) 36 ((a 36).set ((i 2179)).toNatClampNeg y)) q r) (by rfl) ?_
    exact ko_ret mi_in17 (by rfl) ⟨_, _, _, rfl, hJ7, ⟨_, rfl⟩⟩
set_option maxRecDepth 100000 in
theorem kc18_34 {i : Nat → Int32} {a : Nat → List Int32} {q : Nat → List Int64} {r : Nat → Nat} (hI : kI i a q) (x : Int32) : km 1 18 [.ref 34, .int x] (ks i a q r) (kV [] [36] [] i a q r (fun rv _ _ _ => rv = none)) := by
  have n0 : (0 : Int32).toInt = 0 := by decide
  have hG : kG [] [36] [] i a q i a q := kG_self hI
  refine km_of (q := (mi_h18, mi_c18)) rfl (by decide) (Nat.le_of_ble_eq_true rfl) ?_
  refine ko_steps mi_in18 1 _ (1, [(0, .ref 34), (1, .int x)], [.int x], (0, 0), ks i a q r) (by rfl) ?_
  refine ko_if mi_in18 (decide (x < 0)) 22 4 ([(0, .ref 34), (1, .int x)], [], (0, 0), ks i a q r) (by rfl) (fun c => ?_) (fun c => ?_)
  ·
    have c1 := kd_lt c
    clear c
    exact ko_ret mi_in18 (by rfl) ⟨_, _, _, rfl, hG, rfl⟩
  ·
    have c2 := kd_ltF c
    clear c
    have f2179 : (0 : Int) ≤ (i 2179).toInt ∧ (i 2179).toInt ≤ 121 := hI.1 2179
    refine ko_steps mi_in18 3 _ (9, [(0, .ref 34), (1, .int x)], [.int (i 2179), .int x], (0, 0), ks i a q r) (by rfl) ?_
    refine ko_if mi_in18 (decide ((i 2179) ≤ x)) 22 12 ([(0, .ref 34), (1, .int x)], [], (0, 0), ks i a q r) (by rfl) (fun c => ?_) (fun c => ?_)
    ·
      have c3 := kd_le c
      clear c
      exact ko_ret mi_in18 (by rfl) ⟨_, _, _, rfl, hG, rfl⟩
    ·
      have c4 := kd_leF c
      clear c
      refine ko_steps mi_in18 5 _ (21, [(0, .ref 34), (1, .int x)], [.int (i 2179), .int x, .ref 36], (0, 0), ks i a q r) (by rfl) ?_
      have l36 : (a 36).length = 121 := hI.2.1 36
      refine ko_iast mi_in18 (l := a 36) (ax := (0, 0, 0, 0, 0)) (by rfl) (by rfl) (by rfl) (by omega) (by first | omega | (simp only [List.length_set]; omega)) ?_
      have hJ5 := kG_a hG 36 rfl (x).toNatClampNeg (v := (i 2179)) (kd_bd _)
      refine ko_eq (x1 := (22, [(0, .ref 34), (1, .int x)], [], (0, 0), ks i (ku a 36 ((a 36).set (x).toNatClampNeg ((i 2179)))) q r)) (by rfl) ?_
      exact ko_ret mi_in18 (by rfl) ⟨_, _, _, rfl, hJ5, rfl⟩
set_option maxRecDepth 100000 in
theorem kc19_34 {i : Nat → Int32} {a : Nat → List Int32} {q : Nat → List Int64} {r : Nat → Nat} (hI : kI i a q) (x : Int32) : km 1 19 [.ref 34, .int x] (ks i a q r) (kV [2181] [37] [] i a q r (fun rv _ _ _ => rv = none)) := by
  have n1 : (1 : Int32).toInt = 1 := by decide
  have n121 : (121 : Int32).toInt = 121 := by decide
  have hG : kG [2181] [37] [] i a q i a q := kG_self hI
  refine km_of (q := (mi_h19, mi_c19)) rfl (by decide) (Nat.le_of_ble_eq_true rfl) ?_
  have f2181 : (0 : Int) ≤ (i 2181).toInt ∧ (i 2181).toInt ≤ 121 := hI.1 2181
  refine ko_steps mi_in19 3 _ (6, [(0, .ref 34), (1, .int x)], [.int 121, .int (i 2181)], (0, 0), ks i a q r) (by rfl) ?_
  refine ko_if mi_in19 (decide (121 ≤ (i 2181))) 29 9 ([(0, .ref 34), (1, .int x)], [], (0, 0), ks i a q r) (by rfl) (fun c => ?_) (fun c => ?_)
  ·
    have c1 := kd_le c
    clear c
    exact ko_ret mi_in19 (by rfl) ⟨_, _, _, rfl, hG, rfl⟩
  ·
    have c2 := kd_leF c
    clear c
    refine ko_steps mi_in19 5 _ (18, [(0, .ref 34), (1, .int x)], [.int x, .int (i 2181), .ref 37], (0, 0), ks i a q r) (by rfl) ?_
    have l37 : (a 37).length = 121 := hI.2.1 37
    refine ko_iast mi_in19 (l := a 37) (ax := (0, 0, 0, 0, 0)) (by rfl) (by rfl) (by rfl) (by omega) (by first | omega | (simp only [List.length_set]; omega)) ?_
    have hJ3 := kG_a hG 37 rfl ((i 2181)).toNatClampNeg (v := x) (kd_bd _)
    refine ko_eq (x1 := (19, [(0, .ref 34), (1, .int x)], [], (0, 0), ks i (ku a 37 ((a 37).set ((i 2181)).toNatClampNeg x)) q r)) (by rfl) ?_
    try have s4 := kd_add (x := (i 2181)) (y := 1) (by omega) (by omega)
    have hJ5 := kG_i hJ3 2181 rfl (v := (((i 2181) + 1))) ⟨show (0 : Int) ≤ _ by omega, show _ ≤ (121 : Int) by omega⟩
    refine ko_steps mi_in19 6 _ (29, [(0, .ref 34), (1, .int x)], [], (0, 0), ks (ku i 2181 ((((i 2181) + 1)))) (ku a 37 ((a 37).set ((i 2181)).toNatClampNeg x)) q r) (by rfl) ?_
    exact ko_ret mi_in19 (by rfl) ⟨_, _, _, rfl, hJ5, rfl⟩
set_option maxRecDepth 100000 in
theorem kc20_34 {i : Nat → Int32} {a : Nat → List Int32} {q : Nat → List Int64} {r : Nat → Nat} (hI : kI i a q) : km 1 20 [.ref 34] (ks i a q r) (kV [2181] [] [] i a q r (fun rv _ _ _ => ∃ v : Int32, rv = some (.int v))) := by
  have n0 : (0 : Int32).toInt = 0 := by decide
  have n1 : (1 : Int32).toInt = 1 := by decide
  have hG : kG [2181] [] [] i a q i a q := kG_self hI
  refine km_of (q := (mi_h20, mi_c20)) rfl (by decide) (Nat.le_of_ble_eq_true rfl) ?_
  have f2181 : (0 : Int) ≤ (i 2181).toInt ∧ (i 2181).toInt ≤ 121 := hI.1 2181
  refine ko_steps mi_in20 2 _ (4, [(0, .ref 34)], [.int (i 2181)], (0, 0), ks i a q r) (by rfl) ?_
  refine ko_if mi_in20 (decide (0 < (i 2181))) 9 7 ([(0, .ref 34)], [], (0, 0), ks i a q r) (by rfl) (fun c => ?_) (fun c => ?_)
  ·
    have c1 := kd_lt c
    clear c
    try have s2 := kd_sub (x := (i 2181)) (y := 1) (by omega) (by omega)
    have hJ3 := kG_i hG 2181 rfl (v := (((i 2181) - 1))) ⟨show (0 : Int) ≤ _ by omega, show _ ≤ (121 : Int) by omega⟩
    refine ko_steps mi_in20 10 _ (27, [(0, .ref 34)], [.int (((i 2181) - 1)), .ref 37], (0, 0), ks (ku i 2181 ((((i 2181) - 1)))) a q r) (by rfl) ?_
    have l37 : (a 37).length = 121 := hI.2.1 37
    refine ko_iald mi_in20 (l := a 37) (ax := (0, 0, 0, 0, 0)) (by rfl) (by rfl) (by rfl) (by omega) (by first | omega | (simp only [List.length_set]; omega)) ?_
    exact ko_ret mi_in20 (by rfl) ⟨_, _, _, rfl, hJ3, ⟨_, rfl⟩⟩
  ·
    have c4 := kd_ltF c
    clear c
    refine ko_steps mi_in20 1 _ (8, [(0, .ref 34)], [.int 0], (0, 0), ks i a q r) (by rfl) ?_
    exact ko_ret mi_in20 (by rfl) ⟨_, _, _, rfl, hG, ⟨_, rfl⟩⟩
set_option maxRecDepth 100000 in
theorem kc16_34 {i : Nat → Int32} {a : Nat → List Int32} {q : Nat → List Int64} {r : Nat → Nat} (hI : kI i a q) : km 1 16 [.ref 34] (ks i a q r) (kV [2176, 2179] [] [] i a q r (fun rv _ _ _ => rv = none)) := by
  have n0 : (0 : Int32).toInt = 0 := by decide
  have hG : kG [2176, 2179] [] [] i a q i a q := kG_self hI
  refine km_of (q := (mi_h16, mi_c16)) rfl (by decide) (Nat.le_of_ble_eq_true rfl) ?_
  have hJ1 := kG_i hG 2176 rfl (v := 0) ⟨show (0 : Int) ≤ _ by omega, show _ ≤ (1 : Int) by omega⟩
  have hJ2 := kG_i hJ1 2179 rfl (v := 0) ⟨show (0 : Int) ≤ _ by omega, show _ ≤ (121 : Int) by omega⟩
  refine ko_steps mi_in16 6 _ (10, [(0, .ref 34)], [], (0, 0), ks (ku (ku i 2176 0) 2179 0) a q r) (by rfl) ?_
  exact ko_ret mi_in16 (by rfl) ⟨_, _, _, rfl, hJ2, rfl⟩
set_option maxRecDepth 100000 in
theorem kc17_59 {i : Nat → Int32} {a : Nat → List Int32} {q : Nat → List Int64} {r : Nat → Nat} (hI : kI i a q) (x : Int32) (y : Int32) : km 1 17 [.ref 59, .int x, .int y] (ks i a q r) (kV [3779] [60, 61] [] i a q r (fun rv _ _ _ => ∃ v : Int32, rv = some (.int v))) := by
  have n1 : (1 : Int32).toInt = 1 := by decide
  have n121 : (121 : Int32).toInt = 121 := by decide
  have hG : kG [3779] [60, 61] [] i a q i a q := kG_self hI
  refine km_of (q := (mi_h17, mi_c17)) rfl (by decide) (Nat.le_of_ble_eq_true rfl) ?_
  have f3779 : (0 : Int) ≤ (i 3779).toInt ∧ (i 3779).toInt ≤ 121 := hI.1 3779
  refine ko_steps mi_in17 3 _ (6, [(0, .ref 59), (1, .int x), (2, .int y)], [.int 121, .int (i 3779)], (0, 0), ks i a q r) (by rfl) ?_
  refine ko_if mi_in17 (decide (121 ≤ (i 3779))) 39 9 ([(0, .ref 59), (1, .int x), (2, .int y)], [], (0, 0), ks i a q r) (by rfl) (fun c => ?_) (fun c => ?_)
  ·
    have c1 := kd_le c
    clear c
    try have s2 := kd_sub (x := (i 3779)) (y := 1) (by omega) (by omega)
    refine ko_steps mi_in17 4 _ (45, [(0, .ref 59), (1, .int x), (2, .int y)], [.int (((i 3779) - 1))], (0, 0), ks i a q r) (by rfl) ?_
    exact ko_ret mi_in17 (by rfl) ⟨_, _, _, rfl, hG, ⟨_, rfl⟩⟩
  ·
    have c3 := kd_leF c
    clear c
    refine ko_steps mi_in17 5 _ (18, [(0, .ref 59), (1, .int x), (2, .int y)], [.int x, .int (i 3779), .ref 60], (0, 0), ks i a q r) (by rfl) ?_
    have l60 : (a 60).length = 121 := hI.2.1 60
    refine ko_iast mi_in17 (l := a 60) (ax := (0, 0, 0, 0, 0)) (by rfl) (by rfl) (by rfl) (by omega) (by first | omega | (simp only [List.length_set]; omega)) ?_
    have hJ4 := kG_a hG 60 rfl ((i 3779)).toNatClampNeg (v := x) (kd_bd _)
    refine ko_eq (x1 := (19, [(0, .ref 59), (1, .int x), (2, .int y)], [], (0, 0), ks i (ku a 60 ((a 60).set ((i 3779)).toNatClampNeg x)) q r)) (by rfl) ?_
    refine ko_steps mi_in17 5 _ (28, [(0, .ref 59), (1, .int x), (2, .int y)], [.int y, .int (i 3779), .ref 61], (0, 0), ks i (ku a 60 ((a 60).set ((i 3779)).toNatClampNeg x)) q r) (by rfl) ?_
    have l61 : (a 61).length = 121 := hI.2.1 61
    refine ko_iast mi_in17 (l := a 61) (ax := (0, 0, 0, 0, 0)) (by rfl) (by rfl) (by rfl) (by omega) (by first | omega | (simp only [List.length_set]; omega)) ?_
    have hJ5 := kG_a hJ4 61 rfl ((i 3779)).toNatClampNeg (v := y) (kd_bd _)
    refine ko_eq (x1 := (29, [(0, .ref 59), (1, .int x), (2, .int y)], [], (0, 0), ks i (ku (ku a 60 ((a 60).set ((i 3779)).toNatClampNeg x)) 61 ((a 61).set ((i 3779)).toNatClampNeg y)) q r)) (by rfl) ?_
    try have s6 := kd_add (x := (i 3779)) (y := 1) (by omega) (by omega)
    have hJ7 := kG_i hJ5 3779 rfl (v := (((i 3779) + 1))) ⟨show (0 : Int) ≤ _ by omega, show _ ≤ (121 : Int) by omega⟩
    try have s8 := kd_sub (x := (((i 3779) + 1))) (y := 1) (by omega) (by omega)
    refine ko_steps mi_in17 10 _ (45, [(0, .ref 59), (1, .int x), (2, .int y)], [.int (((((i 3779) + 1)) - 1))], (0, 0), ks (ku i 3779 ((((i 3779) + 1)))) (ku (ku a 60 ((a 60).set ((i 3779)).toNatClampNeg x)) 61 ((a 61).set ((i 3779)).toNatClampNeg y)) q r) (by rfl) ?_
    exact ko_ret mi_in17 (by rfl) ⟨_, _, _, rfl, hJ7, ⟨_, rfl⟩⟩
set_option maxRecDepth 100000 in
theorem kc18_59 {i : Nat → Int32} {a : Nat → List Int32} {q : Nat → List Int64} {r : Nat → Nat} (hI : kI i a q) (x : Int32) : km 1 18 [.ref 59, .int x] (ks i a q r) (kV [] [61] [] i a q r (fun rv _ _ _ => rv = none)) := by
  have n0 : (0 : Int32).toInt = 0 := by decide
  have hG : kG [] [61] [] i a q i a q := kG_self hI
  refine km_of (q := (mi_h18, mi_c18)) rfl (by decide) (Nat.le_of_ble_eq_true rfl) ?_
  refine ko_steps mi_in18 1 _ (1, [(0, .ref 59), (1, .int x)], [.int x], (0, 0), ks i a q r) (by rfl) ?_
  refine ko_if mi_in18 (decide (x < 0)) 22 4 ([(0, .ref 59), (1, .int x)], [], (0, 0), ks i a q r) (by rfl) (fun c => ?_) (fun c => ?_)
  ·
    have c1 := kd_lt c
    clear c
    exact ko_ret mi_in18 (by rfl) ⟨_, _, _, rfl, hG, rfl⟩
  ·
    have c2 := kd_ltF c
    clear c
    have f3779 : (0 : Int) ≤ (i 3779).toInt ∧ (i 3779).toInt ≤ 121 := hI.1 3779
    refine ko_steps mi_in18 3 _ (9, [(0, .ref 59), (1, .int x)], [.int (i 3779), .int x], (0, 0), ks i a q r) (by rfl) ?_
    refine ko_if mi_in18 (decide ((i 3779) ≤ x)) 22 12 ([(0, .ref 59), (1, .int x)], [], (0, 0), ks i a q r) (by rfl) (fun c => ?_) (fun c => ?_)
    ·
      have c3 := kd_le c
      clear c
      exact ko_ret mi_in18 (by rfl) ⟨_, _, _, rfl, hG, rfl⟩
    ·
      have c4 := kd_leF c
      clear c
      refine ko_steps mi_in18 5 _ (21, [(0, .ref 59), (1, .int x)], [.int (i 3779), .int x, .ref 61], (0, 0), ks i a q r) (by rfl) ?_
      have l61 : (a 61).length = 121 := hI.2.1 61
      refine ko_iast mi_in18 (l := a 61) (ax := (0, 0, 0, 0, 0)) (by rfl) (by rfl) (by rfl) (by omega) (by first | omega | (simp only [List.length_set]; omega)) ?_
      have hJ5 := kG_a hG 61 rfl (x).toNatClampNeg (v := (i 3779)) (kd_bd _)
      refine ko_eq (x1 := (22, [(0, .ref 59), (1, .int x)], [], (0, 0), ks i (ku a 61 ((a 61).set (x).toNatClampNeg ((i 3779)))) q r)) (by rfl) ?_
      exact ko_ret mi_in18 (by rfl) ⟨_, _, _, rfl, hJ5, rfl⟩
set_option maxRecDepth 100000 in
theorem kc19_59 {i : Nat → Int32} {a : Nat → List Int32} {q : Nat → List Int64} {r : Nat → Nat} (hI : kI i a q) (x : Int32) : km 1 19 [.ref 59, .int x] (ks i a q r) (kV [3781] [62] [] i a q r (fun rv _ _ _ => rv = none)) := by
  have n1 : (1 : Int32).toInt = 1 := by decide
  have n121 : (121 : Int32).toInt = 121 := by decide
  have hG : kG [3781] [62] [] i a q i a q := kG_self hI
  refine km_of (q := (mi_h19, mi_c19)) rfl (by decide) (Nat.le_of_ble_eq_true rfl) ?_
  have f3781 : (0 : Int) ≤ (i 3781).toInt ∧ (i 3781).toInt ≤ 121 := hI.1 3781
  refine ko_steps mi_in19 3 _ (6, [(0, .ref 59), (1, .int x)], [.int 121, .int (i 3781)], (0, 0), ks i a q r) (by rfl) ?_
  refine ko_if mi_in19 (decide (121 ≤ (i 3781))) 29 9 ([(0, .ref 59), (1, .int x)], [], (0, 0), ks i a q r) (by rfl) (fun c => ?_) (fun c => ?_)
  ·
    have c1 := kd_le c
    clear c
    exact ko_ret mi_in19 (by rfl) ⟨_, _, _, rfl, hG, rfl⟩
  ·
    have c2 := kd_leF c
    clear c
    refine ko_steps mi_in19 5 _ (18, [(0, .ref 59), (1, .int x)], [.int x, .int (i 3781), .ref 62], (0, 0), ks i a q r) (by rfl) ?_
    have l62 : (a 62).length = 121 := hI.2.1 62
    refine ko_iast mi_in19 (l := a 62) (ax := (0, 0, 0, 0, 0)) (by rfl) (by rfl) (by rfl) (by omega) (by first | omega | (simp only [List.length_set]; omega)) ?_
    have hJ3 := kG_a hG 62 rfl ((i 3781)).toNatClampNeg (v := x) (kd_bd _)
    refine ko_eq (x1 := (19, [(0, .ref 59), (1, .int x)], [], (0, 0), ks i (ku a 62 ((a 62).set ((i 3781)).toNatClampNeg x)) q r)) (by rfl) ?_
    try have s4 := kd_add (x := (i 3781)) (y := 1) (by omega) (by omega)
    have hJ5 := kG_i hJ3 3781 rfl (v := (((i 3781) + 1))) ⟨show (0 : Int) ≤ _ by omega, show _ ≤ (121 : Int) by omega⟩
    refine ko_steps mi_in19 6 _ (29, [(0, .ref 59), (1, .int x)], [], (0, 0), ks (ku i 3781 ((((i 3781) + 1)))) (ku a 62 ((a 62).set ((i 3781)).toNatClampNeg x)) q r) (by rfl) ?_
    exact ko_ret mi_in19 (by rfl) ⟨_, _, _, rfl, hJ5, rfl⟩
set_option maxRecDepth 100000 in
theorem kc20_59 {i : Nat → Int32} {a : Nat → List Int32} {q : Nat → List Int64} {r : Nat → Nat} (hI : kI i a q) : km 1 20 [.ref 59] (ks i a q r) (kV [3781] [] [] i a q r (fun rv _ _ _ => ∃ v : Int32, rv = some (.int v))) := by
  have n0 : (0 : Int32).toInt = 0 := by decide
  have n1 : (1 : Int32).toInt = 1 := by decide
  have hG : kG [3781] [] [] i a q i a q := kG_self hI
  refine km_of (q := (mi_h20, mi_c20)) rfl (by decide) (Nat.le_of_ble_eq_true rfl) ?_
  have f3781 : (0 : Int) ≤ (i 3781).toInt ∧ (i 3781).toInt ≤ 121 := hI.1 3781
  refine ko_steps mi_in20 2 _ (4, [(0, .ref 59)], [.int (i 3781)], (0, 0), ks i a q r) (by rfl) ?_
  refine ko_if mi_in20 (decide (0 < (i 3781))) 9 7 ([(0, .ref 59)], [], (0, 0), ks i a q r) (by rfl) (fun c => ?_) (fun c => ?_)
  ·
    have c1 := kd_lt c
    clear c
    try have s2 := kd_sub (x := (i 3781)) (y := 1) (by omega) (by omega)
    have hJ3 := kG_i hG 3781 rfl (v := (((i 3781) - 1))) ⟨show (0 : Int) ≤ _ by omega, show _ ≤ (121 : Int) by omega⟩
    refine ko_steps mi_in20 10 _ (27, [(0, .ref 59)], [.int (((i 3781) - 1)), .ref 62], (0, 0), ks (ku i 3781 ((((i 3781) - 1)))) a q r) (by rfl) ?_
    have l62 : (a 62).length = 121 := hI.2.1 62
    refine ko_iald mi_in20 (l := a 62) (ax := (0, 0, 0, 0, 0)) (by rfl) (by rfl) (by rfl) (by omega) (by first | omega | (simp only [List.length_set]; omega)) ?_
    exact ko_ret mi_in20 (by rfl) ⟨_, _, _, rfl, hJ3, ⟨_, rfl⟩⟩
  ·
    have c4 := kd_ltF c
    clear c
    refine ko_steps mi_in20 1 _ (8, [(0, .ref 59)], [.int 0], (0, 0), ks i a q r) (by rfl) ?_
    exact ko_ret mi_in20 (by rfl) ⟨_, _, _, rfl, hG, ⟨_, rfl⟩⟩
set_option maxRecDepth 100000 in
theorem kc16_59 {i : Nat → Int32} {a : Nat → List Int32} {q : Nat → List Int64} {r : Nat → Nat} (hI : kI i a q) : km 1 16 [.ref 59] (ks i a q r) (kV [3776, 3779] [] [] i a q r (fun rv _ _ _ => rv = none)) := by
  have n0 : (0 : Int32).toInt = 0 := by decide
  have hG : kG [3776, 3779] [] [] i a q i a q := kG_self hI
  refine km_of (q := (mi_h16, mi_c16)) rfl (by decide) (Nat.le_of_ble_eq_true rfl) ?_
  have hJ1 := kG_i hG 3776 rfl (v := 0) ⟨show (0 : Int) ≤ _ by omega, show _ ≤ (1 : Int) by omega⟩
  have hJ2 := kG_i hJ1 3779 rfl (v := 0) ⟨show (0 : Int) ≤ _ by omega, show _ ≤ (121 : Int) by omega⟩
  refine ko_steps mi_in16 6 _ (10, [(0, .ref 59)], [], (0, 0), ks (ku (ku i 3776 0) 3779 0) a q r) (by rfl) ?_
  exact ko_ret mi_in16 (by rfl) ⟨_, _, _, rfl, hJ2, rfl⟩
set_option maxRecDepth 100000 in
theorem kc17_100 {i : Nat → Int32} {a : Nat → List Int32} {q : Nat → List Int64} {r : Nat → Nat} (hI : kI i a q) (x : Int32) (y : Int32) : km 1 17 [.ref 100, .int x, .int y] (ks i a q r) (kV [6403] [101, 102] [] i a q r (fun rv _ _ _ => ∃ v : Int32, rv = some (.int v))) := by
  have n1 : (1 : Int32).toInt = 1 := by decide
  have n121 : (121 : Int32).toInt = 121 := by decide
  have hG : kG [6403] [101, 102] [] i a q i a q := kG_self hI
  refine km_of (q := (mi_h17, mi_c17)) rfl (by decide) (Nat.le_of_ble_eq_true rfl) ?_
  have f6403 : (0 : Int) ≤ (i 6403).toInt ∧ (i 6403).toInt ≤ 121 := hI.1 6403
  refine ko_steps mi_in17 3 _ (6, [(0, .ref 100), (1, .int x), (2, .int y)], [.int 121, .int (i 6403)], (0, 0), ks i a q r) (by rfl) ?_
  refine ko_if mi_in17 (decide (121 ≤ (i 6403))) 39 9 ([(0, .ref 100), (1, .int x), (2, .int y)], [], (0, 0), ks i a q r) (by rfl) (fun c => ?_) (fun c => ?_)
  ·
    have c1 := kd_le c
    clear c
    try have s2 := kd_sub (x := (i 6403)) (y := 1) (by omega) (by omega)
    refine ko_steps mi_in17 4 _ (45, [(0, .ref 100), (1, .int x), (2, .int y)], [.int (((i 6403) - 1))], (0, 0), ks i a q r) (by rfl) ?_
    exact ko_ret mi_in17 (by rfl) ⟨_, _, _, rfl, hG, ⟨_, rfl⟩⟩
  ·
    have c3 := kd_leF c
    clear c
    refine ko_steps mi_in17 5 _ (18, [(0, .ref 100), (1, .int x), (2, .int y)], [.int x, .int (i 6403), .ref 101], (0, 0), ks i a q r) (by rfl) ?_
    have l101 : (a 101).length = 121 := hI.2.1 101
    refine ko_iast mi_in17 (l := a 101) (ax := (0, 0, 0, 0, 0)) (by rfl) (by rfl) (by rfl) (by omega) (by first | omega | (simp only [List.length_set]; omega)) ?_
    have hJ4 := kG_a hG 101 rfl ((i 6403)).toNatClampNeg (v := x) (kd_bd _)
    refine ko_eq (x1 := (19, [(0, .ref 100), (1, .int x), (2, .int y)], [], (0, 0), ks i (ku a 101 ((a 101).set ((i 6403)).toNatClampNeg x)) q r)) (by rfl) ?_
    refine ko_steps mi_in17 5 _ (28, [(0, .ref 100), (1, .int x), (2, .int y)], [.int y, .int (i 6403), .ref 102], (0, 0), ks i (ku a 101 ((a 101).set ((i 6403)).toNatClampNeg x)) q r) (by rfl) ?_
    have l102 : (a 102).length = 121 := hI.2.1 102
    refine ko_iast mi_in17 (l := a 102) (ax := (0, 0, 0, 0, 0)) (by rfl) (by rfl) (by rfl) (by omega) (by first | omega | (simp only [List.length_set]; omega)) ?_
    have hJ5 := kG_a hJ4 102 rfl ((i 6403)).toNatClampNeg (v := y) (kd_bd _)
    refine ko_eq (x1 := (29, [(0, .ref 100), (1, .int x), (2, .int y)], [], (0, 0), ks i (ku (ku a 101 ((a 101).set ((i 6403)).toNatClampNeg x)) 102 ((a 102).set ((i 6403)).toNatClampNeg y)) q r)) (by rfl) ?_
    try have s6 := kd_add (x := (i 6403)) (y := 1) (by omega) (by omega)
    have hJ7 := kG_i hJ5 6403 rfl (v := (((i 6403) + 1))) ⟨show (0 : Int) ≤ _ by omega, show _ ≤ (121 : Int) by omega⟩
    try have s8 := kd_sub (x := (((i 6403) + 1))) (y := 1) (by omega) (by omega)
    refine ko_steps mi_in17 10 _ (45, [(0, .ref 100), (1, .int x), (2, .int y)], [.int (((((i 6403) + 1)) - 1))], (0, 0), ks (ku i 6403 ((((i 6403) + 1)))) (ku (ku a 101 ((a 101).set ((i 6403)).toNatClampNeg x)) 102 ((a 102).set ((i 6403)).toNatClampNeg y)) q r) (by rfl) ?_
    exact ko_ret mi_in17 (by rfl) ⟨_, _, _, rfl, hJ7, ⟨_, rfl⟩⟩
set_option maxRecDepth 100000 in
theorem kc18_100 {i : Nat → Int32} {a : Nat → List Int32} {q : Nat → List Int64} {r : Nat → Nat} (hI : kI i a q) (x : Int32) : km 1 18 [.ref 100, .int x] (ks i a q r) (kV [] [102] [] i a q r (fun rv _ _ _ => rv = none)) := by
  have n0 : (0 : Int32).toInt = 0 := by decide
  have hG : kG [] [102] [] i a q i a q := kG_self hI
  refine km_of (q := (mi_h18, mi_c18)) rfl (by decide) (Nat.le_of_ble_eq_true rfl) ?_
  refine ko_steps mi_in18 1 _ (1, [(0, .ref 100), (1, .int x)], [.int x], (0, 0), ks i a q r) (by rfl) ?_
  refine ko_if mi_in18 (decide (x < 0)) 22 4 ([(0, .ref 100), (1, .int x)], [], (0, 0), ks i a q r) (by rfl) (fun c => ?_) (fun c => ?_)
  ·
    have c1 := kd_lt c
    clear c
    exact ko_ret mi_in18 (by rfl) ⟨_, _, _, rfl, hG, rfl⟩
  ·
    have c2 := kd_ltF c
    clear c
    have f6403 : (0 : Int) ≤ (i 6403).toInt ∧ (i 6403).toInt ≤ 121 := hI.1 6403
    refine ko_steps mi_in18 3 _ (9, [(0, .ref 100), (1, .int x)], [.int (i 6403), .int x], (0, 0), ks i a q r) (by rfl) ?_
    refine ko_if mi_in18 (decide ((i 6403) ≤ x)) 22 12 ([(0, .ref 100), (1, .int x)], [], (0, 0), ks i a q r) (by rfl) (fun c => ?_) (fun c => ?_)
    ·
      have c3 := kd_le c
      clear c
      exact ko_ret mi_in18 (by rfl) ⟨_, _, _, rfl, hG, rfl⟩
    ·
      have c4 := kd_leF c
      clear c
      refine ko_steps mi_in18 5 _ (21, [(0, .ref 100), (1, .int x)], [.int (i 6403), .int x, .ref 102], (0, 0), ks i a q r) (by rfl) ?_
      have l102 : (a 102).length = 121 := hI.2.1 102
      refine ko_iast mi_in18 (l := a 102) (ax := (0, 0, 0, 0, 0)) (by rfl) (by rfl) (by rfl) (by omega) (by first | omega | (simp only [List.length_set]; omega)) ?_
      have hJ5 := kG_a hG 102 rfl (x).toNatClampNeg (v := (i 6403)) (kd_bd _)
      refine ko_eq (x1 := (22, [(0, .ref 100), (1, .int x)], [], (0, 0), ks i (ku a 102 ((a 102).set (x).toNatClampNeg ((i 6403)))) q r)) (by rfl) ?_
      exact ko_ret mi_in18 (by rfl) ⟨_, _, _, rfl, hJ5, rfl⟩
set_option maxRecDepth 100000 in
theorem kc19_100 {i : Nat → Int32} {a : Nat → List Int32} {q : Nat → List Int64} {r : Nat → Nat} (hI : kI i a q) (x : Int32) : km 1 19 [.ref 100, .int x] (ks i a q r) (kV [6405] [103] [] i a q r (fun rv _ _ _ => rv = none)) := by
  have n1 : (1 : Int32).toInt = 1 := by decide
  have n121 : (121 : Int32).toInt = 121 := by decide
  have hG : kG [6405] [103] [] i a q i a q := kG_self hI
  refine km_of (q := (mi_h19, mi_c19)) rfl (by decide) (Nat.le_of_ble_eq_true rfl) ?_
  have f6405 : (0 : Int) ≤ (i 6405).toInt ∧ (i 6405).toInt ≤ 121 := hI.1 6405
  refine ko_steps mi_in19 3 _ (6, [(0, .ref 100), (1, .int x)], [.int 121, .int (i 6405)], (0, 0), ks i a q r) (by rfl) ?_
  refine ko_if mi_in19 (decide (121 ≤ (i 6405))) 29 9 ([(0, .ref 100), (1, .int x)], [], (0, 0), ks i a q r) (by rfl) (fun c => ?_) (fun c => ?_)
  ·
    have c1 := kd_le c
    clear c
    exact ko_ret mi_in19 (by rfl) ⟨_, _, _, rfl, hG, rfl⟩
  ·
    have c2 := kd_leF c
    clear c
    refine ko_steps mi_in19 5 _ (18, [(0, .ref 100), (1, .int x)], [.int x, .int (i 6405), .ref 103], (0, 0), ks i a q r) (by rfl) ?_
    have l103 : (a 103).length = 121 := hI.2.1 103
    refine ko_iast mi_in19 (l := a 103) (ax := (0, 0, 0, 0, 0)) (by rfl) (by rfl) (by rfl) (by omega) (by first | omega | (simp only [List.length_set]; omega)) ?_
    have hJ3 := kG_a hG 103 rfl ((i 6405)).toNatClampNeg (v := x) (kd_bd _)
    refine ko_eq (x1 := (19, [(0, .ref 100), (1, .int x)], [], (0, 0), ks i (ku a 103 ((a 103).set ((i 6405)).toNatClampNeg x)) q r)) (by rfl) ?_
    try have s4 := kd_add (x := (i 6405)) (y := 1) (by omega) (by omega)
    have hJ5 := kG_i hJ3 6405 rfl (v := (((i 6405) + 1))) ⟨show (0 : Int) ≤ _ by omega, show _ ≤ (121 : Int) by omega⟩
    refine ko_steps mi_in19 6 _ (29, [(0, .ref 100), (1, .int x)], [], (0, 0), ks (ku i 6405 ((((i 6405) + 1)))) (ku a 103 ((a 103).set ((i 6405)).toNatClampNeg x)) q r) (by rfl) ?_
    exact ko_ret mi_in19 (by rfl) ⟨_, _, _, rfl, hJ5, rfl⟩
set_option maxRecDepth 100000 in
theorem kc20_100 {i : Nat → Int32} {a : Nat → List Int32} {q : Nat → List Int64} {r : Nat → Nat} (hI : kI i a q) : km 1 20 [.ref 100] (ks i a q r) (kV [6405] [] [] i a q r (fun rv _ _ _ => ∃ v : Int32, rv = some (.int v))) := by
  have n0 : (0 : Int32).toInt = 0 := by decide
  have n1 : (1 : Int32).toInt = 1 := by decide
  have hG : kG [6405] [] [] i a q i a q := kG_self hI
  refine km_of (q := (mi_h20, mi_c20)) rfl (by decide) (Nat.le_of_ble_eq_true rfl) ?_
  have f6405 : (0 : Int) ≤ (i 6405).toInt ∧ (i 6405).toInt ≤ 121 := hI.1 6405
  refine ko_steps mi_in20 2 _ (4, [(0, .ref 100)], [.int (i 6405)], (0, 0), ks i a q r) (by rfl) ?_
  refine ko_if mi_in20 (decide (0 < (i 6405))) 9 7 ([(0, .ref 100)], [], (0, 0), ks i a q r) (by rfl) (fun c => ?_) (fun c => ?_)
  ·
    have c1 := kd_lt c
    clear c
    try have s2 := kd_sub (x := (i 6405)) (y := 1) (by omega) (by omega)
    have hJ3 := kG_i hG 6405 rfl (v := (((i 6405) - 1))) ⟨show (0 : Int) ≤ _ by omega, show _ ≤ (121 : Int) by omega⟩
    refine ko_steps mi_in20 10 _ (27, [(0, .ref 100)], [.int (((i 6405) - 1)), .ref 103], (0, 0), ks (ku i 6405 ((((i 6405) - 1)))) a q r) (by rfl) ?_
    have l103 : (a 103).length = 121 := hI.2.1 103
    refine ko_iald mi_in20 (l := a 103) (ax := (0, 0, 0, 0, 0)) (by rfl) (by rfl) (by rfl) (by omega) (by first | omega | (simp only [List.length_set]; omega)) ?_
    exact ko_ret mi_in20 (by rfl) ⟨_, _, _, rfl, hJ3, ⟨_, rfl⟩⟩
  ·
    have c4 := kd_ltF c
    clear c
    refine ko_steps mi_in20 1 _ (8, [(0, .ref 100)], [.int 0], (0, 0), ks i a q r) (by rfl) ?_
    exact ko_ret mi_in20 (by rfl) ⟨_, _, _, rfl, hG, ⟨_, rfl⟩⟩
set_option maxRecDepth 100000 in
theorem kc16_100 {i : Nat → Int32} {a : Nat → List Int32} {q : Nat → List Int64} {r : Nat → Nat} (hI : kI i a q) : km 1 16 [.ref 100] (ks i a q r) (kV [6400, 6403] [] [] i a q r (fun rv _ _ _ => rv = none)) := by
  have n0 : (0 : Int32).toInt = 0 := by decide
  have hG : kG [6400, 6403] [] [] i a q i a q := kG_self hI
  refine km_of (q := (mi_h16, mi_c16)) rfl (by decide) (Nat.le_of_ble_eq_true rfl) ?_
  have hJ1 := kG_i hG 6400 rfl (v := 0) ⟨show (0 : Int) ≤ _ by omega, show _ ≤ (1 : Int) by omega⟩
  have hJ2 := kG_i hJ1 6403 rfl (v := 0) ⟨show (0 : Int) ≤ _ by omega, show _ ≤ (121 : Int) by omega⟩
  refine ko_steps mi_in16 6 _ (10, [(0, .ref 100)], [], (0, 0), ks (ku (ku i 6400 0) 6403 0) a q r) (by rfl) ?_
  exact ko_ret mi_in16 (by rfl) ⟨_, _, _, rfl, hJ2, rfl⟩
set_option maxRecDepth 100000 in
theorem kc25_1 {i : Nat → Int32} {a : Nat → List Int32} {q : Nat → List Int64} {r : Nat → Nat} (hI : kI i a q) (x : Int32) (y : Int32) (z : Int32) : km 1 25 [.ref 1, .int x, .int y, .int z] (ks i a q r) (kV [64] [2, 3, 4, 5, 6] [] i a q r (fun rv _ _ _ => ∃ v : Int32, rv = some (.int v))) := by
  have nm3 : ((-3) : Int32).toInt = -3 := by decide
  have n0 : (0 : Int32).toInt = 0 := by decide
  have n1 : (1 : Int32).toInt = 1 := by decide
  have n8 : (8 : Int32).toInt = 8 := by decide
  have hG : kG [64] [2, 3, 4, 5, 6] [] i a q i a q := kG_self hI
  refine km_of (q := (mi_h25, mi_c25)) rfl (by decide) (Nat.le_of_ble_eq_true rfl) ?_
  have f64 : (0 : Int) ≤ (i 64).toInt ∧ (i 64).toInt ≤ 8 := hI.1 64
  refine ko_steps mi_in25 3 _ (6, [(0, .ref 1), (1, .int x), (2, .int y), (3, .int z)], [.int 8, .int (i 64)], (0, 0), ks i a q r) (by rfl) ?_
  refine ko_if mi_in25 (decide ((i 64) < 8)) 12 9 ([(0, .ref 1), (1, .int x), (2, .int y), (3, .int z)], [], (0, 0), ks i a q r) (by rfl) (fun c => ?_) (fun c => ?_)
  ·
    have c1 := kd_lt c
    clear c
    refine ko_steps mi_in25 5 _ (21, [(0, .ref 1), (1, .int x), (2, .int y), (3, .int z)], [.int x, .int (i 64), .ref 2], (0, 0), ks i a q r) (by rfl) ?_
    have l2 : (a 2).length = 8 := hI.2.1 2
    refine ko_iast mi_in25 (l := a 2) (ax := (0, 0, 0, 0, 0)) (by rfl) (by rfl) (by rfl) (by omega) (by first | omega | (simp only [List.length_set]; omega)) ?_
    have hJ2 := kG_a hG 2 rfl ((i 64)).toNatClampNeg (v := x) (kd_bd _)
    refine ko_eq (x1 := (22, [(0, .ref 1), (1, .int x), (2, .int y), (3, .int z)], [], (0, 0), ks i (ku a 2 ((a 2).set ((i 64)).toNatClampNeg x)) q r)) (by rfl) ?_
    refine ko_steps mi_in25 5 _ (31, [(0, .ref 1), (1, .int x), (2, .int y), (3, .int z)], [.int y, .int (i 64), .ref 3], (0, 0), ks i (ku a 2 ((a 2).set ((i 64)).toNatClampNeg x)) q r) (by rfl) ?_
    have l3 : (a 3).length = 8 := hI.2.1 3
    refine ko_iast mi_in25 (l := a 3) (ax := (0, 0, 0, 0, 0)) (by rfl) (by rfl) (by rfl) (by omega) (by first | omega | (simp only [List.length_set]; omega)) ?_
    have hJ3 := kG_a hJ2 3 rfl ((i 64)).toNatClampNeg (v := y) (kd_bd _)
    refine ko_eq (x1 := (32, [(0, .ref 1), (1, .int x), (2, .int y), (3, .int z)], [], (0, 0), ks i (ku (ku a 2 ((a 2).set ((i 64)).toNatClampNeg x)) 3 ((a 3).set ((i 64)).toNatClampNeg y)) q r)) (by rfl) ?_
    refine ko_steps mi_in25 5 _ (41, [(0, .ref 1), (1, .int x), (2, .int y), (3, .int z)], [.int z, .int (i 64), .ref 4], (0, 0), ks i (ku (ku a 2 ((a 2).set ((i 64)).toNatClampNeg x)) 3 ((a 3).set ((i 64)).toNatClampNeg y)) q r) (by rfl) ?_
    have l4 : (a 4).length = 8 := hI.2.1 4
    refine ko_iast mi_in25 (l := a 4) (ax := (0, 0, 0, 0, 0)) (by rfl) (by rfl) (by rfl) (by omega) (by first | omega | (simp only [List.length_set]; omega)) ?_
    have hJ4 := kG_a hJ3 4 rfl ((i 64)).toNatClampNeg (v := z) (kd_bd _)
    refine ko_eq (x1 := (42, [(0, .ref 1), (1, .int x), (2, .int y), (3, .int z)], [], (0, 0), ks i (ku (ku (ku a 2 ((a 2).set ((i 64)).toNatClampNeg x)) 3 ((a 3).set ((i 64)).toNatClampNeg y)) 4 ((a 4).set ((i 64)).toNatClampNeg z)) q r)) (by rfl) ?_
    refine ko_steps mi_in25 5 _ (51, [(0, .ref 1), (1, .int x), (2, .int y), (3, .int z)], [.int 0, .int (i 64), .ref 5], (0, 0), ks i (ku (ku (ku a 2 ((a 2).set ((i 64)).toNatClampNeg x)) 3 ((a 3).set ((i 64)).toNatClampNeg y)) 4 ((a 4).set ((i 64)).toNatClampNeg z)) q r) (by rfl) ?_
    have l5 : (a 5).length = 8 := hI.2.1 5
    refine ko_iast mi_in25 (l := a 5) (ax := (0, 0, 0, 0, 0)) (by rfl) (by rfl) (by rfl) (by omega) (by first | omega | (simp only [List.length_set]; omega)) ?_
    have hJ5 := kG_a hJ4 5 rfl ((i 64)).toNatClampNeg (v := 0) (kd_bd _)
    refine ko_eq (x1 := (52, [(0, .ref 1), (1, .int x), (2, .int y), (3, .int z)], [], (0, 0), ks i (ku (ku (ku (ku a 2 ((a 2).set ((i 64)).toNatClampNeg x)) 3 ((a 3).set ((i 64)).toNatClampNeg y)) 4 ((a 4).set ((i 64)).toNatClampNeg z)) 5 ((a 5).set ((i 64)).toNatClampNeg 0)) q r)) (by rfl) ?_
    refine ko_steps mi_in25 5 _ (61, [(0, .ref 1), (1, .int x), (2, .int y), (3, .int z)], [.int 0, .int (i 64), .ref 6], (0, 0), ks i (ku (ku (ku (ku a 2 ((a 2).set ((i 64)).toNatClampNeg x)) 3 ((a 3).set ((i 64)).toNatClampNeg y)) 4 ((a 4).set ((i 64)).toNatClampNeg z)) 5 ((a 5).set ((i 64)).toNatClampNeg 0)) q r) (by rfl) ?_
    have l6 : (a 6).length = 8 := hI.2.1 6
    refine ko_iast mi_in25 (l := a 6) (ax := (0, 0, 0, 0, 0)) (by rfl) (by rfl) (by rfl) (by omega) (by first | omega | (simp only [List.length_set]; omega)) ?_
    have hJ6 := kG_a hJ5 6 rfl ((i 64)).toNatClampNeg (v := 0) (kd_bd _)
    refine ko_eq (x1 := (62, [(0, .ref 1), (1, .int x), (2, .int y), (3, .int z)], [], (0, 0), ks i (ku (ku (ku (ku (ku a 2 ((a 2).set ((i 64)).toNatClampNeg x)) 3 ((a 3).set ((i 64)).toNatClampNeg y)) 4 ((a 4).set ((i 64)).toNatClampNeg z)) 5 ((a 5).set ((i 64)).toNatClampNeg 0)) 6 ((a 6).set ((i 64)).toNatClampNeg 0)) q r)) (by rfl) ?_
    try have s7 := kd_add (x := (i 64)) (y := 1) (by omega) (by omega)
    have hJ8 := kG_i hJ6 64 rfl (v := (((i 64) + 1))) ⟨show (0 : Int) ≤ _ by omega, show _ ≤ (8 : Int) by omega⟩
    try have s9 := kd_sub (x := (((i 64) + 1))) (y := 1) (by omega) (by omega)
    refine ko_steps mi_in25 10 _ (78, [(0, .ref 1), (1, .int x), (2, .int y), (3, .int z)], [.int (((((i 64) + 1)) - 1))], (0, 0), ks (ku i 64 ((((i 64) + 1)))) (ku (ku (ku (ku (ku a 2 ((a 2).set ((i 64)).toNatClampNeg x)) 3 ((a 3).set ((i 64)).toNatClampNeg y)) 4 ((a 4).set ((i 64)).toNatClampNeg z)) 5 ((a 5).set ((i 64)).toNatClampNeg 0)) 6 ((a 6).set ((i 64)).toNatClampNeg 0)) q r) (by rfl) ?_
    exact ko_ret mi_in25 (by rfl) ⟨_, _, _, rfl, hJ8, ⟨_, rfl⟩⟩
  ·
    have c10 := kd_ltF c
    clear c
    refine ko_steps mi_in25 1 _ (11, [(0, .ref 1), (1, .int x), (2, .int y), (3, .int z)], [.int (-3)], (0, 0), ks i a q r) (by rfl) ?_
    exact ko_ret mi_in25 (by rfl) ⟨_, _, _, rfl, hG, ⟨_, rfl⟩⟩
set_option maxRecDepth 100000 in
theorem kc25_25 {i : Nat → Int32} {a : Nat → List Int32} {q : Nat → List Int64} {r : Nat → Nat} (hI : kI i a q) (x : Int32) (y : Int32) (z : Int32) : km 1 25 [.ref 25, .int x, .int y, .int z] (ks i a q r) (kV [1600] [26, 27, 28, 29, 30] [] i a q r (fun rv _ _ _ => ∃ v : Int32, rv = some (.int v))) := by
  have nm3 : ((-3) : Int32).toInt = -3 := by decide
  have n0 : (0 : Int32).toInt = 0 := by decide
  have n1 : (1 : Int32).toInt = 1 := by decide
  have n8 : (8 : Int32).toInt = 8 := by decide
  have hG : kG [1600] [26, 27, 28, 29, 30] [] i a q i a q := kG_self hI
  refine km_of (q := (mi_h25, mi_c25)) rfl (by decide) (Nat.le_of_ble_eq_true rfl) ?_
  have f1600 : (0 : Int) ≤ (i 1600).toInt ∧ (i 1600).toInt ≤ 8 := hI.1 1600
  refine ko_steps mi_in25 3 _ (6, [(0, .ref 25), (1, .int x), (2, .int y), (3, .int z)], [.int 8, .int (i 1600)], (0, 0), ks i a q r) (by rfl) ?_
  refine ko_if mi_in25 (decide ((i 1600) < 8)) 12 9 ([(0, .ref 25), (1, .int x), (2, .int y), (3, .int z)], [], (0, 0), ks i a q r) (by rfl) (fun c => ?_) (fun c => ?_)
  ·
    have c1 := kd_lt c
    clear c
    refine ko_steps mi_in25 5 _ (21, [(0, .ref 25), (1, .int x), (2, .int y), (3, .int z)], [.int x, .int (i 1600), .ref 26], (0, 0), ks i a q r) (by rfl) ?_
    have l26 : (a 26).length = 8 := hI.2.1 26
    refine ko_iast mi_in25 (l := a 26) (ax := (0, 0, 0, 0, 0)) (by rfl) (by rfl) (by rfl) (by omega) (by first | omega | (simp only [List.length_set]; omega)) ?_
    have hJ2 := kG_a hG 26 rfl ((i 1600)).toNatClampNeg (v := x) (kd_bd _)
    refine ko_eq (x1 := (22, [(0, .ref 25), (1, .int x), (2, .int y), (3, .int z)], [], (0, 0), ks i (ku a 26 ((a 26).set ((i 1600)).toNatClampNeg x)) q r)) (by rfl) ?_
    refine ko_steps mi_in25 5 _ (31, [(0, .ref 25), (1, .int x), (2, .int y), (3, .int z)], [.int y, .int (i 1600), .ref 27], (0, 0), ks i (ku a 26 ((a 26).set ((i 1600)).toNatClampNeg x)) q r) (by rfl) ?_
    have l27 : (a 27).length = 8 := hI.2.1 27
    refine ko_iast mi_in25 (l := a 27) (ax := (0, 0, 0, 0, 0)) (by rfl) (by rfl) (by rfl) (by omega) (by first | omega | (simp only [List.length_set]; omega)) ?_
    have hJ3 := kG_a hJ2 27 rfl ((i 1600)).toNatClampNeg (v := y) (kd_bd _)
    refine ko_eq (x1 := (32, [(0, .ref 25), (1, .int x), (2, .int y), (3, .int z)], [], (0, 0), ks i (ku (ku a 26 ((a 26).set ((i 1600)).toNatClampNeg x)) 27 ((a 27).set ((i 1600)).toNatClampNeg y)) q r)) (by rfl) ?_
    refine ko_steps mi_in25 5 _ (41, [(0, .ref 25), (1, .int x), (2, .int y), (3, .int z)], [.int z, .int (i 1600), .ref 28], (0, 0), ks i (ku (ku a 26 ((a 26).set ((i 1600)).toNatClampNeg x)) 27 ((a 27).set ((i 1600)).toNatClampNeg y)) q r) (by rfl) ?_
    have l28 : (a 28).length = 8 := hI.2.1 28
    refine ko_iast mi_in25 (l := a 28) (ax := (0, 0, 0, 0, 0)) (by rfl) (by rfl) (by rfl) (by omega) (by first | omega | (simp only [List.length_set]; omega)) ?_
    have hJ4 := kG_a hJ3 28 rfl ((i 1600)).toNatClampNeg (v := z) (kd_bd _)
    refine ko_eq (x1 := (42, [(0, .ref 25), (1, .int x), (2, .int y), (3, .int z)], [], (0, 0), ks i (ku (ku (ku a 26 ((a 26).set ((i 1600)).toNatClampNeg x)) 27 ((a 27).set ((i 1600)).toNatClampNeg y)) 28 ((a 28).set ((i 1600)).toNatClampNeg z)) q r)) (by rfl) ?_
    refine ko_steps mi_in25 5 _ (51, [(0, .ref 25), (1, .int x), (2, .int y), (3, .int z)], [.int 0, .int (i 1600), .ref 29], (0, 0), ks i (ku (ku (ku a 26 ((a 26).set ((i 1600)).toNatClampNeg x)) 27 ((a 27).set ((i 1600)).toNatClampNeg y)) 28 ((a 28).set ((i 1600)).toNatClampNeg z)) q r) (by rfl) ?_
    have l29 : (a 29).length = 8 := hI.2.1 29
    refine ko_iast mi_in25 (l := a 29) (ax := (0, 0, 0, 0, 0)) (by rfl) (by rfl) (by rfl) (by omega) (by first | omega | (simp only [List.length_set]; omega)) ?_
    have hJ5 := kG_a hJ4 29 rfl ((i 1600)).toNatClampNeg (v := 0) (kd_bd _)
    refine ko_eq (x1 := (52, [(0, .ref 25), (1, .int x), (2, .int y), (3, .int z)], [], (0, 0), ks i (ku (ku (ku (ku a 26 ((a 26).set ((i 1600)).toNatClampNeg x)) 27 ((a 27).set ((i 1600)).toNatClampNeg y)) 28 ((a 28).set ((i 1600)).toNatClampNeg z)) 29 ((a 29).set ((i 1600)).toNatClampNeg 0)) q r)) (by rfl) ?_
    refine ko_steps mi_in25 5 _ (61, [(0, .ref 25), (1, .int x), (2, .int y), (3, .int z)], [.int 0, .int (i 1600), .ref 30], (0, 0), ks i (ku (ku (ku (ku a 26 ((a 26).set ((i 1600)).toNatClampNeg x)) 27 ((a 27).set ((i 1600)).toNatClampNeg y)) 28 ((a 28).set ((i 1600)).toNatClampNeg z)) 29 ((a 29).set ((i 1600)).toNatClampNeg 0)) q r) (by rfl) ?_
    have l30 : (a 30).length = 8 := hI.2.1 30
    refine ko_iast mi_in25 (l := a 30) (ax := (0, 0, 0, 0, 0)) (by rfl) (by rfl) (by rfl) (by omega) (by first | omega | (simp only [List.length_set]; omega)) ?_
    have hJ6 := kG_a hJ5 30 rfl ((i 1600)).toNatClampNeg (v := 0) (kd_bd _)
    refine ko_eq (x1 := (62, [(0, .ref 25), (1, .int x), (2, .int y), (3, .int z)], [], (0, 0), ks i (ku (ku (ku (ku (ku a 26 ((a 26).set ((i 1600)).toNatClampNeg x)) 27 ((a 27).set ((i 1600)).toNatClampNeg y)) 28 ((a 28).set ((i 1600)).toNatClampNeg z)) 29 ((a 29).set ((i 1600)).toNatClampNeg 0)) 30 ((a 30).set ((i 1600)).toNatClampNeg 0)) q r)) (by rfl) ?_
    try have s7 := kd_add (x := (i 1600)) (y := 1) (by omega) (by omega)
    have hJ8 := kG_i hJ6 1600 rfl (v := (((i 1600) + 1))) ⟨show (0 : Int) ≤ _ by omega, show _ ≤ (8 : Int) by omega⟩
    try have s9 := kd_sub (x := (((i 1600) + 1))) (y := 1) (by omega) (by omega)
    refine ko_steps mi_in25 10 _ (78, [(0, .ref 25), (1, .int x), (2, .int y), (3, .int z)], [.int (((((i 1600) + 1)) - 1))], (0, 0), ks (ku i 1600 ((((i 1600) + 1)))) (ku (ku (ku (ku (ku a 26 ((a 26).set ((i 1600)).toNatClampNeg x)) 27 ((a 27).set ((i 1600)).toNatClampNeg y)) 28 ((a 28).set ((i 1600)).toNatClampNeg z)) 29 ((a 29).set ((i 1600)).toNatClampNeg 0)) 30 ((a 30).set ((i 1600)).toNatClampNeg 0)) q r) (by rfl) ?_
    exact ko_ret mi_in25 (by rfl) ⟨_, _, _, rfl, hJ8, ⟨_, rfl⟩⟩
  ·
    have c10 := kd_ltF c
    clear c
    refine ko_steps mi_in25 1 _ (11, [(0, .ref 25), (1, .int x), (2, .int y), (3, .int z)], [.int (-3)], (0, 0), ks i a q r) (by rfl) ?_
    exact ko_ret mi_in25 (by rfl) ⟨_, _, _, rfl, hG, ⟨_, rfl⟩⟩
set_option maxRecDepth 100000 in
theorem kc25_50 {i : Nat → Int32} {a : Nat → List Int32} {q : Nat → List Int64} {r : Nat → Nat} (hI : kI i a q) (x : Int32) (y : Int32) (z : Int32) : km 1 25 [.ref 50, .int x, .int y, .int z] (ks i a q r) (kV [3200] [51, 52, 53, 54, 55] [] i a q r (fun rv _ _ _ => ∃ v : Int32, rv = some (.int v))) := by
  have nm3 : ((-3) : Int32).toInt = -3 := by decide
  have n0 : (0 : Int32).toInt = 0 := by decide
  have n1 : (1 : Int32).toInt = 1 := by decide
  have n8 : (8 : Int32).toInt = 8 := by decide
  have hG : kG [3200] [51, 52, 53, 54, 55] [] i a q i a q := kG_self hI
  refine km_of (q := (mi_h25, mi_c25)) rfl (by decide) (Nat.le_of_ble_eq_true rfl) ?_
  have f3200 : (0 : Int) ≤ (i 3200).toInt ∧ (i 3200).toInt ≤ 8 := hI.1 3200
  refine ko_steps mi_in25 3 _ (6, [(0, .ref 50), (1, .int x), (2, .int y), (3, .int z)], [.int 8, .int (i 3200)], (0, 0), ks i a q r) (by rfl) ?_
  refine ko_if mi_in25 (decide ((i 3200) < 8)) 12 9 ([(0, .ref 50), (1, .int x), (2, .int y), (3, .int z)], [], (0, 0), ks i a q r) (by rfl) (fun c => ?_) (fun c => ?_)
  ·
    have c1 := kd_lt c
    clear c
    refine ko_steps mi_in25 5 _ (21, [(0, .ref 50), (1, .int x), (2, .int y), (3, .int z)], [.int x, .int (i 3200), .ref 51], (0, 0), ks i a q r) (by rfl) ?_
    have l51 : (a 51).length = 8 := hI.2.1 51
    refine ko_iast mi_in25 (l := a 51) (ax := (0, 0, 0, 0, 0)) (by rfl) (by rfl) (by rfl) (by omega) (by first | omega | (simp only [List.length_set]; omega)) ?_
    have hJ2 := kG_a hG 51 rfl ((i 3200)).toNatClampNeg (v := x) (kd_bd _)
    refine ko_eq (x1 := (22, [(0, .ref 50), (1, .int x), (2, .int y), (3, .int z)], [], (0, 0), ks i (ku a 51 ((a 51).set ((i 3200)).toNatClampNeg x)) q r)) (by rfl) ?_
    refine ko_steps mi_in25 5 _ (31, [(0, .ref 50), (1, .int x), (2, .int y), (3, .int z)], [.int y, .int (i 3200), .ref 52], (0, 0), ks i (ku a 51 ((a 51).set ((i 3200)).toNatClampNeg x)) q r) (by rfl) ?_
    have l52 : (a 52).length = 8 := hI.2.1 52
    refine ko_iast mi_in25 (l := a 52) (ax := (0, 0, 0, 0, 0)) (by rfl) (by rfl) (by rfl) (by omega) (by first | omega | (simp only [List.length_set]; omega)) ?_
    have hJ3 := kG_a hJ2 52 rfl ((i 3200)).toNatClampNeg (v := y) (kd_bd _)
    refine ko_eq (x1 := (32, [(0, .ref 50), (1, .int x), (2, .int y), (3, .int z)], [], (0, 0), ks i (ku (ku a 51 ((a 51).set ((i 3200)).toNatClampNeg x)) 52 ((a 52).set ((i 3200)).toNatClampNeg y)) q r)) (by rfl) ?_
    refine ko_steps mi_in25 5 _ (41, [(0, .ref 50), (1, .int x), (2, .int y), (3, .int z)], [.int z, .int (i 3200), .ref 53], (0, 0), ks i (ku (ku a 51 ((a 51).set ((i 3200)).toNatClampNeg x)) 52 ((a 52).set ((i 3200)).toNatClampNeg y)) q r) (by rfl) ?_
    have l53 : (a 53).length = 8 := hI.2.1 53
    refine ko_iast mi_in25 (l := a 53) (ax := (0, 0, 0, 0, 0)) (by rfl) (by rfl) (by rfl) (by omega) (by first | omega | (simp only [List.length_set]; omega)) ?_
    have hJ4 := kG_a hJ3 53 rfl ((i 3200)).toNatClampNeg (v := z) (kd_bd _)
    refine ko_eq (x1 := (42, [(0, .ref 50), (1, .int x), (2, .int y), (3, .int z)], [], (0, 0), ks i (ku (ku (ku a 51 ((a 51).set ((i 3200)).toNatClampNeg x)) 52 ((a 52).set ((i 3200)).toNatClampNeg y)) 53 ((a 53).set ((i 3200)).toNatClampNeg z)) q r)) (by rfl) ?_
    refine ko_steps mi_in25 5 _ (51, [(0, .ref 50), (1, .int x), (2, .int y), (3, .int z)], [.int 0, .int (i 3200), .ref 54], (0, 0), ks i (ku (ku (ku a 51 ((a 51).set ((i 3200)).toNatClampNeg x)) 52 ((a 52).set ((i 3200)).toNatClampNeg y)) 53 ((a 53).set ((i 3200)).toNatClampNeg z)) q r) (by rfl) ?_
    have l54 : (a 54).length = 8 := hI.2.1 54
    refine ko_iast mi_in25 (l := a 54) (ax := (0, 0, 0, 0, 0)) (by rfl) (by rfl) (by rfl) (by omega) (by first | omega | (simp only [List.length_set]; omega)) ?_
    have hJ5 := kG_a hJ4 54 rfl ((i 3200)).toNatClampNeg (v := 0) (kd_bd _)
    refine ko_eq (x1 := (52, [(0, .ref 50), (1, .int x), (2, .int y), (3, .int z)], [], (0, 0), ks i (ku (ku (ku (ku a 51 ((a 51).set ((i 3200)).toNatClampNeg x)) 52 ((a 52).set ((i 3200)).toNatClampNeg y)) 53 ((a 53).set ((i 3200)).toNatClampNeg z)) 54 ((a 54).set ((i 3200)).toNatClampNeg 0)) q r)) (by rfl) ?_
    refine ko_steps mi_in25 5 _ (61, [(0, .ref 50), (1, .int x), (2, .int y), (3, .int z)], [.int 0, .int (i 3200), .ref 55], (0, 0), ks i (ku (ku (ku (ku a 51 ((a 51).set ((i 3200)).toNatClampNeg x)) 52 ((a 52).set ((i 3200)).toNatClampNeg y)) 53 ((a 53).set ((i 3200)).toNatClampNeg z)) 54 ((a 54).set ((i 3200)).toNatClampNeg 0)) q r) (by rfl) ?_
    have l55 : (a 55).length = 8 := hI.2.1 55
    refine ko_iast mi_in25 (l := a 55) (ax := (0, 0, 0, 0, 0)) (by rfl) (by rfl) (by rfl) (by omega) (by first | omega | (simp only [List.length_set]; omega)) ?_
    have hJ6 := kG_a hJ5 55 rfl ((i 3200)).toNatClampNeg (v := 0) (kd_bd _)
    refine ko_eq (x1 := (62, [(0, .ref 50), (1, .int x), (2, .int y), (3, .int z)], [], (0, 0), ks i (ku (ku (ku (ku (ku a 51 ((a 51).set ((i 3200)).toNatClampNeg x)) 52 ((a 52).set ((i 3200)).toNatClampNeg y)) 53 ((a 53).set ((i 3200)).toNatClampNeg z)) 54 ((a 54).set ((i 3200)).toNatClampNeg 0)) 55 ((a 55).set ((i 3200)).toNatClampNeg 0)) q r)) (by rfl) ?_
    try have s7 := kd_add (x := (i 3200)) (y := 1) (by omega) (by omega)
    have hJ8 := kG_i hJ6 3200 rfl (v := (((i 3200) + 1))) ⟨show (0 : Int) ≤ _ by omega, show _ ≤ (8 : Int) by omega⟩
    try have s9 := kd_sub (x := (((i 3200) + 1))) (y := 1) (by omega) (by omega)
    refine ko_steps mi_in25 10 _ (78, [(0, .ref 50), (1, .int x), (2, .int y), (3, .int z)], [.int (((((i 3200) + 1)) - 1))], (0, 0), ks (ku i 3200 ((((i 3200) + 1)))) (ku (ku (ku (ku (ku a 51 ((a 51).set ((i 3200)).toNatClampNeg x)) 52 ((a 52).set ((i 3200)).toNatClampNeg y)) 53 ((a 53).set ((i 3200)).toNatClampNeg z)) 54 ((a 54).set ((i 3200)).toNatClampNeg 0)) 55 ((a 55).set ((i 3200)).toNatClampNeg 0)) q r) (by rfl) ?_
    exact ko_ret mi_in25 (by rfl) ⟨_, _, _, rfl, hJ8, ⟨_, rfl⟩⟩
  ·
    have c10 := kd_ltF c
    clear c
    refine ko_steps mi_in25 1 _ (11, [(0, .ref 50), (1, .int x), (2, .int y), (3, .int z)], [.int (-3)], (0, 0), ks i a q r) (by rfl) ?_
    exact ko_ret mi_in25 (by rfl) ⟨_, _, _, rfl, hG, ⟨_, rfl⟩⟩
set_option maxRecDepth 100000 in
theorem kc42_98 {i : Nat → Int32} {a : Nat → List Int32} {q : Nat → List Int64} {r : Nat → Nat} (hI : kI i a q) (x : Int32) : km 1 42 [.ref 98, .int x] (ks i a q r) (kV [6273] [99] [] i a q r (fun rv _ _ _ => ∃ v : Int32, rv = some (.int v))) := by
  have n1 : (1 : Int32).toInt = 1 := by decide
  have n120 : (120 : Int32).toInt = 120 := by decide
  have hG : kG [6273] [99] [] i a q i a q := kG_self hI
  refine km_of (q := (mi_h42, mi_c42)) rfl (by decide) (Nat.le_of_ble_eq_true rfl) ?_
  have f6273 : (0 : Int) ≤ (i 6273).toInt ∧ (i 6273).toInt ≤ 120 := hI.1 6273
  refine ko_steps mi_in42 3 _ (6, [(0, .ref 98), (1, .int x)], [.int 120, .int (i 6273)], (0, 0), ks i a q r) (by rfl) ?_
  refine ko_if mi_in42 (decide (120 ≤ (i 6273))) 29 9 ([(0, .ref 98), (1, .int x)], [], (0, 0), ks i a q r) (by rfl) (fun c => ?_) (fun c => ?_)
  ·
    have c1 := kd_le c
    clear c
    refine ko_steps mi_in42 2 _ (33, [(0, .ref 98), (1, .int x)], [.int (i 6273)], (0, 0), ks i a q r) (by rfl) ?_
    exact ko_ret mi_in42 (by rfl) ⟨_, _, _, rfl, hG, ⟨_, rfl⟩⟩
  ·
    have c2 := kd_leF c
    clear c
    refine ko_steps mi_in42 5 _ (18, [(0, .ref 98), (1, .int x)], [.int x, .int (i 6273), .ref 99], (0, 0), ks i a q r) (by rfl) ?_
    have l99 : (a 99).length = 120 := hI.2.1 99
    refine ko_iast mi_in42 (l := a 99) (ax := (0, 0, 0, 0, 0)) (by rfl) (by rfl) (by rfl) (by omega) (by first | omega | (simp only [List.length_set]; omega)) ?_
    have hJ3 := kG_a hG 99 rfl ((i 6273)).toNatClampNeg (v := x) (kd_bd _)
    refine ko_eq (x1 := (19, [(0, .ref 98), (1, .int x)], [], (0, 0), ks i (ku a 99 ((a 99).set ((i 6273)).toNatClampNeg x)) q r)) (by rfl) ?_
    try have s4 := kd_add (x := (i 6273)) (y := 1) (by omega) (by omega)
    have hJ5 := kG_i hJ3 6273 rfl (v := (((i 6273) + 1))) ⟨show (0 : Int) ≤ _ by omega, show _ ≤ (120 : Int) by omega⟩
    refine ko_steps mi_in42 8 _ (33, [(0, .ref 98), (1, .int x)], [.int (((i 6273) + 1))], (0, 0), ks (ku i 6273 ((((i 6273) + 1)))) (ku a 99 ((a 99).set ((i 6273)).toNatClampNeg x)) q r) (by rfl) ?_
    exact ko_ret mi_in42 (by rfl) ⟨_, _, _, rfl, hJ5, ⟨_, rfl⟩⟩
set_option maxRecDepth 100000 in
theorem kc9_94 {i : Nat → Int32} {a : Nat → List Int32} {q : Nat → List Int64} {r : Nat → Nat} (hI : kI i a q) (x : Int32) (hx : 0 ≤ x.toInt ∧ x.toInt ≤ 7) : km 1 9 [.ref 94, .int x] (ks i a q r) (kV [6017] [95] [] i a q r (fun rv _ _ _ => ∃ v : Int32, rv = some (.int v))) := by
  have nm3 : ((-3) : Int32).toInt = -3 := by decide
  have n1 : (1 : Int32).toInt = 1 := by decide
  have n50 : (50 : Int32).toInt = 50 := by decide
  have hG : kG [6017] [95] [] i a q i a q := kG_self hI
  refine km_of (q := (mi_h9, mi_c9)) rfl (by decide) (Nat.le_of_ble_eq_true rfl) ?_
  have f6017 : (0 : Int) ≤ (i 6017).toInt ∧ (i 6017).toInt ≤ 50 := hI.1 6017
  refine ko_steps mi_in9 3 _ (6, [(0, .ref 94), (1, .int x)], [.int 50, .int (i 6017)], (0, 0), ks i a q r) (by rfl) ?_
  refine ko_if mi_in9 (decide ((i 6017) < 50)) 12 9 ([(0, .ref 94), (1, .int x)], [], (0, 0), ks i a q r) (by rfl) (fun c => ?_) (fun c => ?_)
  ·
    have c1 := kd_lt c
    clear c
    refine ko_steps mi_in9 5 _ (21, [(0, .ref 94), (1, .int x)], [.int x, .int (i 6017), .ref 95], (0, 0), ks i a q r) (by rfl) ?_
    have l95 : (a 95).length = 50 := hI.2.1 95
    refine ko_iast mi_in9 (l := a 95) (ax := (0, 0, 0, 0, 0)) (by rfl) (by rfl) (by rfl) (by omega) (by first | omega | (simp only [List.length_set]; omega)) ?_
    have hJ2 := kG_a hG 95 rfl ((i 6017)).toNatClampNeg (v := x) ⟨show (0 : Int) ≤ _ by omega, show _ ≤ (7 : Int) by omega⟩
    refine ko_eq (x1 := (22, [(0, .ref 94), (1, .int x)], [], (0, 0), ks i (ku a 95 ((a 95).set ((i 6017)).toNatClampNeg x)) q r)) (by rfl) ?_
    try have s3 := kd_add (x := (i 6017)) (y := 1) (by omega) (by omega)
    have hJ4 := kG_i hJ2 6017 rfl (v := (((i 6017) + 1))) ⟨show (0 : Int) ≤ _ by omega, show _ ≤ (50 : Int) by omega⟩
    try have s5 := kd_sub (x := (((i 6017) + 1))) (y := 1) (by omega) (by omega)
    refine ko_steps mi_in9 10 _ (38, [(0, .ref 94), (1, .int x)], [.int (((((i 6017) + 1)) - 1))], (0, 0), ks (ku i 6017 ((((i 6017) + 1)))) (ku a 95 ((a 95).set ((i 6017)).toNatClampNeg x)) q r) (by rfl) ?_
    exact ko_ret mi_in9 (by rfl) ⟨_, _, _, rfl, hJ4, ⟨_, rfl⟩⟩
  ·
    have c6 := kd_ltF c
    clear c
    refine ko_steps mi_in9 1 _ (11, [(0, .ref 94), (1, .int x)], [.int (-3)], (0, 0), ks i a q r) (by rfl) ?_
    exact ko_ret mi_in9 (by rfl) ⟨_, _, _, rfl, hG, ⟨_, rfl⟩⟩
