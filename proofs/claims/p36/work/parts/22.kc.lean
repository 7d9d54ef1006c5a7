/-! CONTRACTS OF METHODS: nothing is thrown, they end, and what callers need of it -/
def kB (c : Prop) (h : mi_H) (rv : Option Value) (h1 : mi_H) : Prop := h1 = h ∧ ∃ r : Int32, rv = some (.int r) ∧ ((r = 1 ∧ c) ∨ (r = 0 ∧ ¬ c))
set_option maxRecDepth 100000 in
theorem kc120 (h : mi_H) (v lo hi : Int32) : km 1 120 [.int v, .int lo, .int hi] h (kB (lo.toInt ≤ v.toInt ∧ v.toInt ≤ hi.toInt) h) := by
  refine km_of (q := (mi_h120, mi_c120)) rfl (by decide) (Nat.le_of_ble_eq_true rfl) ?_
  refine ko_steps mi_in120 2 _ (2, [(0, .int v), (1, .int lo), (2, .int hi)], [.int lo, .int v], (0, 0), h) (by rfl) ?_
  refine ko_if mi_in120 (decide (v < lo)) 14 5 ([(0, .int v), (1, .int lo), (2, .int hi)], [], (0, 0), h) (by rfl) (fun c => ?_) (fun c => ?_)
  · have c1 := kd_lt c
    refine ko_steps mi_in120 1 _ (15, [(0, .int v), (1, .int lo), (2, .int hi)], [.int 0], (0, 0), h) (by rfl) ?_
    exact ko_ret mi_in120 (by rfl) ⟨rfl, 0, rfl, Or.inr ⟨rfl, by omega⟩⟩
  · have c1 := kd_ltF c
    refine ko_steps mi_in120 2 _ (7, [(0, .int v), (1, .int lo), (2, .int hi)], [.int hi, .int v], (0, 0), h) (by rfl) ?_
    refine ko_if mi_in120 (decide (hi < v)) 14 10 ([(0, .int v), (1, .int lo), (2, .int hi)], [], (0, 0), h) (by rfl) (fun c => ?_) (fun c => ?_)
    · have c2 := kd_lt c
      refine ko_steps mi_in120 1 _ (15, [(0, .int v), (1, .int lo), (2, .int hi)], [.int 0], (0, 0), h) (by rfl) ?_
      exact ko_ret mi_in120 (by rfl) ⟨rfl, 0, rfl, Or.inr ⟨rfl, by omega⟩⟩
    · have c2 := kd_ltF c
      refine ko_steps mi_in120 2 _ (15, [(0, .int v), (1, .int lo), (2, .int hi)], [.int 1], (0, 0), h) (by rfl) ?_
      exact ko_ret mi_in120 (by rfl) ⟨rfl, 1, rfl, Or.inl ⟨rfl, by omega⟩⟩
/-- the invariant behind: some contents that keep it -/
def kK (r : Nat → Nat) (rv : Option Value) (h1 : mi_H) : Prop := rv = none ∧ ∃ i a q, h1 = ks i a q r ∧ kI i a q
set_option maxRecDepth 100000 in
theorem kc1_7 {i : Nat → Int32} {a : Nat → List Int32} {q : Nat → List Int64} {r : Nat → Nat} (hI : kI i a q) (x y : Int32) : km 1 1 [.ref 7, .int x, .int y] (ks i a q r) (kK r) := by
  have f0 : 0 ≤ (i 450).toInt ∧ (i 450).toInt ≤ 5 := hI.1 450
  have l8 : (a 8).length = 5 := hI.2.1 8
  have l9 : (a 9).length = 5 := hI.2.1 9
  have n5 : (5 : Int32).toInt = 5 := by decide
  have n1 : (1 : Int32).toInt = 1 := by decide
  refine km_of (q := (mi_h1, mi_c1)) rfl (by decide) (Nat.le_of_ble_eq_true rfl) ?_
  refine ko_steps mi_in1 3 _ (5, [(0, .ref 7), (1, .int x), (2, .int y)], [.int 5, .int (i 450)], (0, 0), ks i a q r) (by rfl) ?_
  refine ko_if mi_in1 (decide (5 ≤ i 450)) 38 8 ([(0, .ref 7), (1, .int x), (2, .int y)], [], (0, 0), ks i a q r) (by rfl) (fun c => ?_) (fun c => ?_)
  · exact ko_ret mi_in1 (by rfl) ⟨rfl, i, a, q, rfl, hI⟩
  · have c1 := kd_leF c
    refine ko_steps mi_in1 5 _ (17, [(0, .ref 7), (1, .int x), (2, .int y)], [.int x, .int (i 450), .ref 8], (0, 0), ks i a q r) (by rfl) ?_
    refine ko_iast mi_in1 (l := a 8) (ax := (0, 0, 0, 0, 0)) (by rfl) (by rfl) (by rfl) (by omega) (by omega) ?_
    have hI1 := kI_a hI 8 (i 450).toNatClampNeg (v := x) (kd_bd x)
    refine ko_eq (x1 := (18, [(0, .ref 7), (1, .int x), (2, .int y)], [], (0, 0), ks i (ku a 8 ((a 8).set (i 450).toNatClampNeg x)) q r)) (by rfl) ?_
    refine ko_steps mi_in1 5 _ (27, [(0, .ref 7), (1, .int x), (2, .int y)], [.int y, .int (i 450), .ref 9], (0, 0), ks i (ku a 8 ((a 8).set (i 450).toNatClampNeg x)) q r) (by rfl) ?_
    refine ko_iast mi_in1 (l := a 9) (ax := (0, 0, 0, 0, 0)) (by rfl) (by rfl) (by rfl) (by omega) (by omega) ?_
    have hI2 := kI_a hI1 9 (i 450).toNatClampNeg (v := y) (kd_bd y)
    refine ko_eq (x1 := (28, [(0, .ref 7), (1, .int x), (2, .int y)], [], (0, 0), ks i (ku (ku a 8 ((a 8).set (i 450).toNatClampNeg x)) 9 ((a 9).set (i 450).toNatClampNeg y)) q r)) (by rfl) ?_
    have s1 := kd_add (x := i 450) (y := 1) (by omega) (by omega)
    refine ko_steps mi_in1 6 _ (38, [(0, .ref 7), (1, .int x), (2, .int y)], [], (0, 0), ks (ku i 450 (i 450 + 1)) (ku (ku a 8 ((a 8).set (i 450).toNatClampNeg x)) 9 ((a 9).set (i 450).toNatClampNeg y)) q r) (by rfl) ?_
    have hI3 := kI_i hI2 450 (v := i 450 + 1) ⟨show (0 : Int) ≤ _ by omega, show _ ≤ (5 : Int) by omega⟩
    exact ko_ret mi_in1 (by rfl) ⟨rfl, _, _, _, rfl, hI3⟩
