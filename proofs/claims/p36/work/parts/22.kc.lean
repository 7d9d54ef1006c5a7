/-! CONTRACTS OF METHODS: nothing is thrown, they end, and what callers need of it -/
def kB (c : Prop) (h : mi_H) (rv : Option Value) (h1 : mi_H) : Prop := h1 = h ∧ ∃ r : Int32, rv = some (.int r) ∧ ((r = 1 ∧ c) ∨ (r = 0 ∧ ¬ c))
set_option maxRecDepth 100000 in
theorem kc120 (h : mi_H) (v lo hi : Int32) : km 1 120 [.int v, .int lo, .int hi] h (kB (lo.toInt ≤ v.toInt ∧ v.toInt ≤ hi.toInt) h) := by
  refine km_of (q := (mi_h120, mi_c120)) rfl (by decide) (Nat.le_of_ble_eq_true rfl) ?_
  refine ko_steps mi_in120 2 _ (2, [(0, .int v), (1, .int lo), (2, .int hi)], [.int lo, .int v], (0, 0), h) (by rfl) ?_
  refine ko_if mi_in120 (decide (v < lo)) 14 5 ([(0, .int v), (1, .int lo), (2, .int hi)], [], (0, 0), h) (by rfl) (fun c => ?_) (fun c => ?_)
  · have c1 := kd_lt c
    refine ko_steps mi_in120 1 _ (15, [(0, .int v), (1, .int lo), (2, .int hi)], [.int 0], (0, 0), h) (by rfl) ?_
    exact ko_ret mi_in120 (by rfl) ⟨rfl, 0, rfl, Or.inr ⟨rfl, by omega⟩⟩
  · have c1 := kd_ltF c
    refine ko_steps mi_in120 2 _ (7, [(0, .int v), (1, .int lo), (2, .int hi)], [.int hi, .int v], (0, 0), h) (by rfl) ?_
    refine ko_if mi_in120 (decide (hi < v)) 14 10 ([(0, .int v), (1, .int lo), (2, .int hi)], [], (0, 0), h) (by rfl) (fun c => ?_) (fun c => ?_)
    · have c2 := kd_lt c
      refine ko_steps mi_in120 1 _ (15, [(0, .int v), (1, .int lo), (2, .int hi)], [.int 0], (0, 0), h) (by rfl) ?_
      exact ko_ret mi_in120 (by rfl) ⟨rfl, 0, rfl, Or.inr ⟨rfl, by omega⟩⟩
    · have c2 := kd_ltF c
      refine ko_steps mi_in120 2 _ (15, [(0, .int v), (1, .int lo), (2, .int hi)], [.int 1], (0, 0), h) (by rfl) ?_
      exact ko_ret mi_in120 (by rfl) ⟨rfl, 1, rfl, Or.inl ⟨rfl, by omega⟩⟩
