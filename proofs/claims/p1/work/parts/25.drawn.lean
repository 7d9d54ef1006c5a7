theorem mi_addk {c i : Int32} (k : Int) (hc : c.toInt = k) (h0 : 0 ≤ k) (h1 : k ≤ 1000) (g0 : 0 ≤ i.toInt) (g1 : i.toInt ≤ 1000) : (c + i).toInt = k + i.toInt := by
  rw [Int32.toInt_add, hc]
  show (k + i.toInt).bmod _ = _
  apply Int.bmod_eq_of_le <;> omega
theorem mi_rem100 {a : Int32} (h : 0 ≤ a.toInt) : 0 ≤ (a - a / 100 * 100).toInt := by
  obtain ⟨j, hj, rfl⟩ := nI_of (x := a) (fun z => by
    have := Int32.lt_iff_toInt_lt.mp z
    rw [Int32.toInt_zero] at this
    omega)
  have e : nI j - nI j / 100 * 100 = nI (j % 100) := pk_rem (d := 100) hj (by decide) (by decide)
  rw [e, nI_toInt (by omega)]
  omega
def mi_HB : mi_H := (mi_G.set 50 (.inl (4, [.int 0, .ref 51, .ref 52, .ref 53, .ref 54, .ref 55, .int 3, .int 1, .int 0, .int 0, .ref 56, .ref 10, .ref 63, .ref 64, .int 8, .int 0, .int 0, .ref 73])))
set_option maxRecDepth 100000 in
set_option maxHeartbeats 4000000 in
theorem md_it0 (a1 a2 t u v i : Int32) (hu : 1 ≤ u.toInt ∧ u.toInt ≤ 60) (hi : i.toInt < t.toInt) {rv : Option Value} {hh : mi_H} (k : mi_Sem mi_N0 5 (mi_h101, mi_c101) rv hh (85, [(0, .ref 0), (1, .int a1), (2, .int a2), (3, .int (-1)), (4, .int t), (5, .int u), (6, .int v), (7, .int 0), (8, .int a1), (9, .int ((i + 1)))], [], (0, 0), mi_HB)) : mi_Sem mi_N0 5 (mi_h101, mi_c101) rv hh (85, [(0, .ref 0), (1, .int a1), (2, .int a2), (3, .int (-1)), (4, .int t), (5, .int u), (6, .int v), (7, .int 0), (8, .int a1), (9, .int i)], [], (0, 0), mi_G) := by
  refine mi_sem_steps mi_in101 (mi_calok_none _ _) 2 _ (89, [(0, .ref 0), (1, .int a1), (2, .int a2), (3, .int (-1)), (4, .int t), (5, .int u), (6, .int v), (7, .int 0), (8, .int a1), (9, .int i)], [.int t, .int i], (0, 0), mi_G) (by rfl) ?_
  refine mi_sem_b mi_in101 (decide (t ≤ i)) false (decide_eq_false (fun z => by have := Int32.le_iff_toInt_le.mp z; omega)) 130 92 ([(0, .ref 0), (1, .int a1), (2, .int a2), (3, .int (-1)), (4, .int t), (5, .int u), (6, .int v), (7, .int 0), (8, .int a1), (9, .int i)], [], (0, 0), mi_G) (by rfl) ?_
  refine mi_sem_steps mi_in101 (mi_calok_none _ _) 7 _ (106, [(0, .ref 0), (1, .int a1), (2, .int a2), (3, .int (-1)), (4, .int t), (5, .int u), (6, .int v), (7, .int 0), (8, .int a1), (9, .int i)], [.int v, .int u, .int a1, .ref 1, .ref 49], (0, 0), mi_G) (by rfl) ?_
  have hM2 : mi_Met mi_N0 4 mi_h78 [.ref 49, .ref 1, .int a1, .int u, .int v] mi_G (some (.int a1)) (mi_G.set 50 (.inl (4, [.int 0, .ref 51, .ref 52, .ref 53, .ref 54, .ref 55, .int 3, .int 1, .int 0, .int 0, .ref 56, .ref 10, .ref 63, .ref 64, .int 8, .int 0, .int 0, .ref 73]))) := by
    refine mi_met_of (y := 78) (q := (mi_h78, mi_c78)) rfl (by decide) (Nat.le_of_ble_eq_true rfl) ?_
    refine mi_sem_steps mi_in78 (mi_calok_none _ _) 3 _ (5, [(0, .ref 49), (1, .ref 1), (2, .int a1), (3, .int u), (4, .int v)], [.ref 1, .ref 50], (0, 0), mi_G) (by rfl) ?_
    have hM1 : mi_Met mi_N0 3 mi_h34 [.ref 50, .ref 1] mi_G none (mi_G.set 50 (.inl (4, [.int 0, .ref 51, .ref 52, .ref 53, .ref 54, .ref 55, .int 3, .int 1, .int 0, .int 0, .ref 56, .ref 10, .ref 63, .ref 64, .int 8, .int 0, .int 0, .ref 73]))) := mi_fun_ok mi_N0 3 34 (mi_h34, mi_c34) _ _ _ _ rfl (mi_eR_ok (by decide +kernel))
    refine mi_sem_call mi_in78 (i := (.invokevirtual 56, 3, 34, 0, 9, 0, 212)) (by rfl) (by rfl) hM1 (by decide) ⟨Nat.le_of_ble_eq_true rfl, Nat.le_of_ble_eq_true rfl⟩ ?_
    refine mi_sem_steps mi_in78 (mi_calok_none _ _) 6 _ (17, [(6, .int 0), (5, .int a1), (0, .ref 49), (1, .ref 1), (2, .int a1), (3, .int u), (4, .int v)], [.int u, .int 0], (0, 0), (mi_G.set 50 (.inl (4, [.int 0, .ref 51, .ref 52, .ref 53, .ref 54, .ref 55, .int 3, .int 1, .int 0, .int 0, .ref 56, .ref 10, .ref 63, .ref 64, .int 8, .int 0, .int 0, .ref 73])))) (by rfl) ?_
    refine mi_sem_b mi_in78 (decide (u ≤ 0)) false (mi_leF (0) (by decide) (by omega)) 82 20 ([(6, .int 0), (5, .int a1), (0, .ref 49), (1, .ref 1), (2, .int a1), (3, .int u), (4, .int v)], [], (0, 0), (mi_G.set 50 (.inl (4, [.int 0, .ref 51, .ref 52, .ref 53, .ref 54, .ref 55, .int 3, .int 1, .int 0, .int 0, .ref 56, .ref 10, .ref 63, .ref 64, .int 8, .int 0, .int 0, .ref 73])))) (by rfl) ?_
    refine mi_sem_steps mi_in78 (mi_calok_none _ _) 4 _ (84, [(6, .int 0), (5, .int a1), (0, .ref 49), (1, .ref 1), (2, .int a1), (3, .int u), (4, .int v)], [.int a1], (0, 0), (mi_G.set 50 (.inl (4, [.int 0, .ref 51, .ref 52, .ref 53, .ref 54, .ref 55, .int 3, .int 1, .int 0, .int 0, .ref 56, .ref 10, .ref 63, .ref 64, .int 8, .int 0, .int 0, .ref 73])))) (by rfl) ?_
    exact mi_sem_ret (cal := fun _ _ _ => none) mi_in78 (by rfl)
  refine mi_sem_call mi_in101 (i := (.invokevirtual 251, 3, 78, 0, 9, 0, 278)) (by rfl) (by rfl) hM2 (by decide) ⟨Nat.le_of_ble_eq_true rfl, Nat.le_of_ble_eq_true rfl⟩ ?_
  refine mi_sem_steps mi_in101 (mi_calok_none _ _) 5 _ (118, [(8, .int a1), (0, .ref 0), (1, .int a1), (2, .int a2), (3, .int (-1)), (4, .int t), (5, .int u), (6, .int v), (7, .int 0), (9, .int i)], [.int (-1), .ref 49, .int 0], (0, 0), (mi_G.set 50 (.inl (4, [.int 0, .ref 51, .ref 52, .ref 53, .ref 54, .ref 55, .int 3, .int 1, .int 0, .int 0, .ref 56, .ref 10, .ref 63, .ref 64, .int 8, .int 0, .int 0, .ref 73])))) (by rfl) ?_
  have hM3 : mi_Met mi_N0 2 mi_h62 [.ref 49, .int (-1)] (mi_G.set 50 (.inl (4, [.int 0, .ref 51, .ref 52, .ref 53, .ref 54, .ref 55, .int 3, .int 1, .int 0, .int 0, .ref 56, .ref 10, .ref 63, .ref 64, .int 8, .int 0, .int 0, .ref 73]))) (some (.int 0)) (mi_G.set 50 (.inl (4, [.int 0, .ref 51, .ref 52, .ref 53, .ref 54, .ref 55, .int 3, .int 1, .int 0, .int 0, .ref 56, .ref 10, .ref 63, .ref 64, .int 8, .int 0, .int 0, .ref 73]))) := mi_fun_ok mi_N0 2 62 (mi_h62, mi_c62) _ _ _ _ rfl (mi_eR_ok (by decide +kernel))
  refine mi_sem_call mi_in101 (i := (.invokevirtual 171, 3, 62, 0, 9, 0, 233)) (by rfl) (by rfl) hM3 (by decide) ⟨Nat.le_of_ble_eq_true rfl, Nat.le_of_ble_eq_true rfl⟩ ?_
  refine mi_sem_steps mi_in101 (mi_calok_none _ _) 4 _ (85, [(9, .int ((i + 1))), (7, .int 0), (8, .int a1), (0, .ref 0), (1, .int a1), (2, .int a2), (3, .int (-1)), (4, .int t), (5, .int u), (6, .int v)], [], (0, 0), (mi_G.set 50 (.inl (4, [.int 0, .ref 51, .ref 52, .ref 53, .ref 54, .ref 55, .int 3, .int 1, .int 0, .int 0, .ref 56, .ref 10, .ref 63, .ref 64, .int 8, .int 0, .int 0, .ref 73])))) (by rfl) ?_
  refine mi_sem_perm [(0, .ref 0), (1, .int a1), (2, .int a2), (3, .int (-1)), (4, .int t), (5, .int u), (6, .int v), (7, .int 0), (8, .int a1), (9, .int ((i + 1)))] (by simp) ?_
  exact k

set_option maxRecDepth 100000 in
set_option maxHeartbeats 4000000 in
theorem md_it1 (a1 a2 t u v i : Int32) (hu : 1 ≤ u.toInt ∧ u.toInt ≤ 60) (hi : i.toInt < t.toInt) {rv : Option Value} {hh : mi_H} (k : mi_Sem mi_N0 5 (mi_h101, mi_c101) rv hh (85, [(0, .ref 0), (1, .int a1), (2, .int a2), (3, .int (-1)), (4, .int t), (5, .int u), (6, .int v), (7, .int 0), (8, .int a1), (9, .int ((i + 1)))], [], (0, 0), mi_HB)) : mi_Sem mi_N0 5 (mi_h101, mi_c101) rv hh (85, [(0, .ref 0), (1, .int a1), (2, .int a2), (3, .int (-1)), (4, .int t), (5, .int u), (6, .int v), (7, .int 0), (8, .int a1), (9, .int i)], [], (0, 0), mi_HB) := by
  refine mi_sem_steps mi_in101 (mi_calok_none _ _) 2 _ (89, [(0, .ref 0), (1, .int a1), (2, .int a2), (3, .int (-1)), (4, .int t), (5, .int u), (6, .int v), (7, .int 0), (8, .int a1), (9, .int i)], [.int t, .int i], (0, 0), mi_HB) (by rfl) ?_
  refine mi_sem_b mi_in101 (decide (t ≤ i)) false (decide_eq_false (fun z => by have := Int32.le_iff_toInt_le.mp z; omega)) 130 92 ([(0, .ref 0), (1, .int a1), (2, .int a2), (3, .int (-1)), (4, .int t), (5, .int u), (6, .int v), (7, .int 0), (8, .int a1), (9, .int i)], [], (0, 0), mi_HB) (by rfl) ?_
  refine mi_sem_steps mi_in101 (mi_calok_none _ _) 7 _ (106, [(0, .ref 0), (1, .int a1), (2, .int a2), (3, .int (-1)), (4, .int t), (5, .int u), (6, .int v), (7, .int 0), (8, .int a1), (9, .int i)], [.int v, .int u, .int a1, .ref 1, .ref 49], (0, 0), mi_HB) (by rfl) ?_
  have hM5 : mi_Met mi_N0 4 mi_h78 [.ref 49, .ref 1, .int a1, .int u, .int v] mi_HB (some (.int a1)) mi_HB := by
    refine mi_met_of (y := 78) (q := (mi_h78, mi_c78)) rfl (by decide) (Nat.le_of_ble_eq_true rfl) ?_
    refine mi_sem_steps mi_in78 (mi_calok_none _ _) 3 _ (5, [(0, .ref 49), (1, .ref 1), (2, .int a1), (3, .int u), (4, .int v)], [.ref 1, .ref 50], (0, 0), mi_HB) (by rfl) ?_
    have hM4 : mi_Met mi_N0 3 mi_h34 [.ref 50, .ref 1] mi_HB none mi_HB := mi_fun_ok mi_N0 3 34 (mi_h34, mi_c34) _ _ _ _ rfl (mi_eR_ok (by decide +kernel))
    refine mi_sem_call mi_in78 (i := (.invokevirtual 56, 3, 34, 0, 9, 0, 212)) (by rfl) (by rfl) hM4 (by decide) ⟨Nat.le_of_ble_eq_true rfl, Nat.le_of_ble_eq_true rfl⟩ ?_
    refine mi_sem_steps mi_in78 (mi_calok_none _ _) 6 _ (17, [(6, .int 0), (5, .int a1), (0, .ref 49), (1, .ref 1), (2, .int a1), (3, .int u), (4, .int v)], [.int u, .int 0], (0, 0), mi_HB) (by rfl) ?_
    refine mi_sem_b mi_in78 (decide (u ≤ 0)) false (mi_leF (0) (by decide) (by omega)) 82 20 ([(6, .int 0), (5, .int a1), (0, .ref 49), (1, .ref 1), (2, .int a1), (3, .int u), (4, .int v)], [], (0, 0), mi_HB) (by rfl) ?_
    refine mi_sem_steps mi_in78 (mi_calok_none _ _) 4 _ (84, [(6, .int 0), (5, .int a1), (0, .ref 49), (1, .ref 1), (2, .int a1), (3, .int u), (4, .int v)], [.int a1], (0, 0), mi_HB) (by rfl) ?_
    exact mi_sem_ret (cal := fun _ _ _ => none) mi_in78 (by rfl)
  refine mi_sem_call mi_in101 (i := (.invokevirtual 251, 3, 78, 0, 9, 0, 278)) (by rfl) (by rfl) hM5 (by decide) ⟨Nat.le_of_ble_eq_true rfl, Nat.le_of_ble_eq_true rfl⟩ ?_
  refine mi_sem_steps mi_in101 (mi_calok_none _ _) 5 _ (118, [(8, .int a1), (0, .ref 0), (1, .int a1), (2, .int a2), (3, .int (-1)), (4, .int t), (5, .int u), (6, .int v), (7, .int 0), (9, .int i)], [.int (-1), .ref 49, .int 0], (0, 0), mi_HB) (by rfl) ?_
  have hM6 : mi_Met mi_N0 2 mi_h62 [.ref 49, .int (-1)] mi_HB (some (.int 0)) mi_HB := mi_fun_ok mi_N0 2 62 (mi_h62, mi_c62) _ _ _ _ rfl (mi_eR_ok (by decide +kernel))
  refine mi_sem_call mi_in101 (i := (.invokevirtual 171, 3, 62, 0, 9, 0, 233)) (by rfl) (by rfl) hM6 (by decide) ⟨Nat.le_of_ble_eq_true rfl, Nat.le_of_ble_eq_true rfl⟩ ?_
  refine mi_sem_steps mi_in101 (mi_calok_none _ _) 4 _ (85, [(9, .int ((i + 1))), (7, .int 0), (8, .int a1), (0, .ref 0), (1, .int a1), (2, .int a2), (3, .int (-1)), (4, .int t), (5, .int u), (6, .int v)], [], (0, 0), mi_HB) (by rfl) ?_
  refine mi_sem_perm [(0, .ref 0), (1, .int a1), (2, .int a2), (3, .int (-1)), (4, .int t), (5, .int u), (6, .int v), (7, .int 0), (8, .int a1), (9, .int ((i + 1)))] (by simp) ?_
  exact k

set_option maxRecDepth 100000 in
theorem md_loop (a1 a2 t u v : Int32) (ht : 1 ≤ t.toInt ∧ t.toInt ≤ 30) (hu : 1 ≤ u.toInt ∧ u.toInt ≤ 60) : mi_Sem mi_N0 5 (mi_h101, mi_c101) (some (.int 0)) mi_HB (85, [(0, .ref 0), (1, .int a1), (2, .int a2), (3, .int (-1)), (4, .int t), (5, .int u), (6, .int v), (7, .int 0), (8, .int a1), (9, .int 0)], [], (0, 0), mi_G) := by
  have z0 : (0 : Int32).toInt = 0 := by decide
  have z1 : (0 + 1 : Int32).toInt = 1 := by decide
  refine md_it0 a1 a2 t u v 0 hu (by rw [z0]; omega) ?_
  refine mi_up (fun i => mi_Sem mi_N0 5 (mi_h101, mi_c101) (some (.int 0)) mi_HB (85, [(0, .ref 0), (1, .int a1), (2, .int a2), (3, .int (-1)), (4, .int t), (5, .int u), (6, .int v), (7, .int 0), (8, .int a1), (9, .int i)], [], (0, 0), mi_HB)) t.toInt (by omega) (fun i he => ?_) (fun i g0 g1 k => md_it1 a1 a2 t u v i hu g1 k) (0 + 1) (by decide) (by rw [z1]; omega)
  refine mi_sem_steps mi_in101 (mi_calok_none _ _) 2 _ (89, [(0, .ref 0), (1, .int a1), (2, .int a2), (3, .int (-1)), (4, .int t), (5, .int u), (6, .int v), (7, .int 0), (8, .int a1), (9, .int i)], [.int t, .int i], (0, 0), mi_HB) (by rfl) ?_
  refine mi_sem_b mi_in101 (decide (t ≤ i)) true (decide_eq_true (Int32.le_iff_toInt_le.mpr (by omega))) 130 92 ([(0, .ref 0), (1, .int a1), (2, .int a2), (3, .int (-1)), (4, .int t), (5, .int u), (6, .int v), (7, .int 0), (8, .int a1), (9, .int i)], [], (0, 0), mi_HB) (by rfl) ?_
  refine mi_sem_steps mi_in101 (mi_calok_none _ _) 1 _ (132, [(0, .ref 0), (1, .int a1), (2, .int a2), (3, .int (-1)), (4, .int t), (5, .int u), (6, .int v), (7, .int 0), (8, .int a1), (9, .int i)], [.int 0], (0, 0), mi_HB) (by rfl) ?_
  exact mi_sem_ret (cal := fun _ _ _ => none) mi_in101 (by rfl)
set_option maxRecDepth 100000 in
set_option maxHeartbeats 4000000 in
theorem mp_drawnA_0 (a1 : Int32) (a2 : Int32) (a3 : Int32) (r0 : (-2147483648) ≤ (a2).toInt ∧ (a2).toInt ≤ (-1)) : mi_P 101 201 [.int a1, .int a2, .int a3] := by
  have bx := Int32.toInt_lt a2
  have cx := Int32.le_toInt a2
  have by_ := Int32.toInt_lt (a2 - a2 / 100 * 100)
  refine ⟨.int (-1), mi_G, mi_G, (mi_h101, mi_c101), (mi_h201, mi_c201), 1, 1, rfl, rfl, rfl, by decide, by decide, ?_, ?_⟩
  · refine mi_met_of (y := 101) (q := (mi_h101, mi_c101)) rfl (by decide) (Nat.le_of_ble_eq_true rfl) ?_
    refine mi_sem_steps mi_in101 (mi_calok_none _ _) 15 _ (23, [(6, .int ((a2 - a2 / 100 * 100))), (5, .int ((((a2 / 100)) - ((a2 / 100)) / 100 * 100))), (4, .int ((a2 / 10000))), (0, .ref 0), (1, .int a1), (2, .int a2), (3, .int a3)], [.int a2], (0, 0), mi_G) (by rfl) ?_
    refine mi_sem_b mi_in101 (decide (a2 < 0)) true (mi_ltT (0) (by decide) (by omega)) 59 26 ([(6, .int ((a2 - a2 / 100 * 100))), (5, .int ((((a2 / 100)) - ((a2 / 100)) / 100 * 100))), (4, .int ((a2 / 10000))), (0, .ref 0), (1, .int a1), (2, .int a2), (3, .int a3)], [], (0, 0), mi_G) (by rfl) ?_
    refine mi_sem_steps mi_in101 (mi_calok_none _ _) 1 _ (60, [(6, .int ((a2 - a2 / 100 * 100))), (5, .int ((((a2 / 100)) - ((a2 / 100)) / 100 * 100))), (4, .int ((a2 / 10000))), (0, .ref 0), (1, .int a1), (2, .int a2), (3, .int a3)], [.int (-1)], (0, 0), mi_G) (by rfl) ?_
    exact mi_sem_ret (cal := fun _ _ _ => none) mi_in101 (by rfl)
  · refine mi_met_of (y := 201) (q := (mi_h201, mi_c201)) rfl (by decide) (Nat.le_of_ble_eq_true rfl) ?_
    refine mi_sem_steps mi_in201 (mi_calok_none _ _) 1 _ (1, [(0, .ref 116), (1, .int a1), (2, .int a2), (3, .int a3)], [.int a2], (0, 0), mi_G) (by rfl) ?_
    refine mi_sem_b mi_in201 (decide (a2 < 0)) true (mi_ltT (0) (by decide) (by omega)) 56 4 ([(0, .ref 116), (1, .int a1), (2, .int a2), (3, .int a3)], [], (0, 0), mi_G) (by rfl) ?_
    refine mi_sem_steps mi_in201 (mi_calok_none _ _) 1 _ (57, [(0, .ref 116), (1, .int a1), (2, .int a2), (3, .int a3)], [.int (-1)], (0, 0), mi_G) (by rfl) ?_
    exact mi_sem_ret (cal := fun _ _ _ => none) mi_in201 (by rfl)

set_option maxRecDepth 100000 in
set_option maxHeartbeats 4000000 in
theorem mp_drawnA (a1 : Int32) (a2 : Int32) (a3 : Int32) (pre2 : a2.toInt ≤ -1) : mi_P 101 201 [.int a1, .int a2, .int a3] := by
  have bx := Int32.toInt_lt a2
  have cx := Int32.le_toInt a2
  have by_ := Int32.toInt_lt (a2 - a2 / 100 * 100)
  exact mp_drawnA_0 a1 a2 a3 ⟨by omega, by omega⟩

set_option maxRecDepth 100000 in
set_option maxHeartbeats 4000000 in
theorem mp_drawnB_0 (a1 : Int32) (a2 : Int32) (a3 : Int32) (r0 : 0 ≤ (a2).toInt ∧ (a2).toInt ≤ 2147483647) (r1 : 0 ≤ ((a2 - a2 / 100 * 100)).toInt ∧ ((a2 - a2 / 100 * 100)).toInt ≤ 2147483647) (r2 : (-2147483648) ≤ ((a2 / 10000)).toInt ∧ ((a2 / 10000)).toInt ≤ 0) : mi_P 101 201 [.int a1, .int a2, .int a3] := by
  have bx := Int32.toInt_lt a2
  have cx := Int32.le_toInt a2
  have by_ := Int32.toInt_lt (a2 - a2 / 100 * 100)
  refine ⟨.int (-1), mi_G, mi_G, (mi_h101, mi_c101), (mi_h201, mi_c201), 2, 2, rfl, rfl, rfl, by decide, by decide, ?_, ?_⟩
  · refine mi_met_of (y := 101) (q := (mi_h101, mi_c101)) rfl (by decide) (Nat.le_of_ble_eq_true rfl) ?_
    refine mi_sem_steps mi_in101 (mi_calok_none _ _) 15 _ (23, [(6, .int ((a2 - a2 / 100 * 100))), (5, .int ((((a2 / 100)) - ((a2 / 100)) / 100 * 100))), (4, .int ((a2 / 10000))), (0, .ref 0), (1, .int a1), (2, .int a2), (3, .int a3)], [.int a2], (0, 0), mi_G) (by rfl) ?_
    refine mi_sem_b mi_in101 (decide (a2 < 0)) false (mi_ltF (0) (by decide) (by omega)) 59 26 ([(6, .int ((a2 - a2 / 100 * 100))), (5, .int ((((a2 / 100)) - ((a2 / 100)) / 100 * 100))), (4, .int ((a2 / 10000))), (0, .ref 0), (1, .int a1), (2, .int a2), (3, .int a3)], [], (0, 0), mi_G) (by rfl) ?_
    refine mi_sem_steps mi_in101 (mi_calok_none _ _) 3 _ (31, [(6, .int ((a2 - a2 / 100 * 100))), (5, .int ((((a2 / 100)) - ((a2 / 100)) / 100 * 100))), (4, .int ((a2 / 10000))), (0, .ref 0), (1, .int a1), (2, .int a2), (3, .int a3)], [.int 30, .int 1, .int ((a2 / 10000))], (0, 0), mi_G) (by rfl) ?_
    have hM7 : mi_Met mi_N0 1 mi_h120 [.int ((a2 / 10000)), .int 1, .int 30] mi_G (some (.int 0)) mi_G := by
      refine mi_met_of (y := 120) (q := (mi_h120, mi_c120)) rfl (by decide) (Nat.le_of_ble_eq_true rfl) ?_
      refine mi_sem_steps mi_in120 (mi_calok_none _ _) 2 _ (2, [(0, .int ((a2 / 10000))), (1, .int 1), (2, .int 30)], [.int 1, .int ((a2 / 10000))], (0, 0), mi_G) (by rfl) ?_
      refine mi_sem_b mi_in120 (decide (((a2 / 10000)) < 1)) true (mi_ltT (1) (by decide) (by omega)) 14 5 ([(0, .int ((a2 / 10000))), (1, .int 1), (2, .int 30)], [], (0, 0), mi_G) (by rfl) ?_
      refine mi_sem_steps mi_in120 (mi_calok_none _ _) 1 _ (15, [(0, .int ((a2 / 10000))), (1, .int 1), (2, .int 30)], [.int 0], (0, 0), mi_G) (by rfl) ?_
      exact mi_sem_ret (cal := fun _ _ _ => none) mi_in120 (by rfl)
    refine mi_sem_call mi_in101 (i := (.invokestatic 74, 3, 120, 0, 9, 0, 152)) (by rfl) (by rfl) hM7 (by decide) ⟨Nat.le_of_ble_eq_true rfl, Nat.le_of_ble_eq_true rfl⟩ ?_
    refine mi_sem_steps mi_in101 (mi_calok_none _ _) 2 _ (60, [(6, .int ((a2 - a2 / 100 * 100))), (5, .int ((((a2 / 100)) - ((a2 / 100)) / 100 * 100))), (4, .int ((a2 / 10000))), (0, .ref 0), (1, .int a1), (2, .int a2), (3, .int a3)], [.int (-1)], (0, 0), mi_G) (by rfl) ?_
    exact mi_sem_ret (cal := fun _ _ _ => none) mi_in101 (by rfl)
  · refine mi_met_of (y := 201) (q := (mi_h201, mi_c201)) rfl (by decide) (Nat.le_of_ble_eq_true rfl) ?_
    refine mi_sem_steps mi_in201 (mi_calok_none _ _) 1 _ (1, [(0, .ref 116), (1, .int a1), (2, .int a2), (3, .int a3)], [.int a2], (0, 0), mi_G) (by rfl) ?_
    refine mi_sem_b mi_in201 (decide (a2 < 0)) false (mi_ltF (0) (by decide) (by omega)) 56 4 ([(0, .ref 116), (1, .int a1), (2, .int a2), (3, .int a3)], [], (0, 0), mi_G) (by rfl) ?_
    refine mi_sem_steps mi_in201 (mi_calok_none _ _) 5 _ (12, [(0, .ref 116), (1, .int a1), (2, .int a2), (3, .int a3)], [.int 30, .int 1, .int ((a2 / 10000))], (0, 0), mi_G) (by rfl) ?_
    have hM8 : mi_Met mi_N0 1 mi_h131 [.int ((a2 / 10000)), .int 1, .int 30] mi_G (some (.int 0)) mi_G := by
      refine mi_met_of (y := 131) (q := (mi_h131, mi_c131)) rfl (by decide) (Nat.le_of_ble_eq_true rfl) ?_
      refine mi_sem_steps mi_in131 (mi_calok_none _ _) 2 _ (2, [(0, .int ((a2 / 10000))), (1, .int 1), (2, .int 30)], [.int 1, .int ((a2 / 10000))], (0, 0), mi_G) (by rfl) ?_
      refine mi_sem_b mi_in131 (decide (((a2 / 10000)) < 1)) true (mi_ltT (1) (by decide) (by omega)) 14 5 ([(0, .int ((a2 / 10000))), (1, .int 1), (2, .int 30)], [], (0, 0), mi_G) (by rfl) ?_
      refine mi_sem_steps mi_in131 (mi_calok_none _ _) 1 _ (15, [(0, .int ((a2 / 10000))), (1, .int 1), (2, .int 30)], [.int 0], (0, 0), mi_G) (by rfl) ?_
      exact mi_sem_ret (cal := fun _ _ _ => none) mi_in131 (by rfl)
    refine mi_sem_call mi_in201 (i := (.invokestatic 119, 3, 131, 0, 9, 0, 379)) (by rfl) (by rfl) hM8 (by decide) ⟨Nat.le_of_ble_eq_true rfl, Nat.le_of_ble_eq_true rfl⟩ ?_
    refine mi_sem_steps mi_in201 (mi_calok_none _ _) 2 _ (57, [(0, .ref 116), (1, .int a1), (2, .int a2), (3, .int a3)], [.int (-1)], (0, 0), mi_G) (by rfl) ?_
    exact mi_sem_ret (cal := fun _ _ _ => none) mi_in201 (by rfl)

set_option maxRecDepth 100000 in
set_option maxHeartbeats 4000000 in
theorem mp_drawnB_1 (a1 : Int32) (a2 : Int32) (a3 : Int32) (r0 : 0 ≤ (a2).toInt ∧ (a2).toInt ≤ 2147483647) (r1 : 0 ≤ ((a2 - a2 / 100 * 100)).toInt ∧ ((a2 - a2 / 100 * 100)).toInt ≤ 2147483647) (r2 : 1 ≤ ((a2 / 10000)).toInt ∧ ((a2 / 10000)).toInt ≤ 30) (r3 : (-2147483648) ≤ ((((a2 / 100)) - ((a2 / 100)) / 100 * 100)).toInt ∧ ((((a2 / 100)) - ((a2 / 100)) / 100 * 100)).toInt ≤ 0) : mi_P 101 201 [.int a1, .int a2, .int a3] := by
  have bx := Int32.toInt_lt a2
  have cx := Int32.le_toInt a2
  have by_ := Int32.toInt_lt (a2 - a2 / 100 * 100)
  refine ⟨.int (-1), mi_G, mi_G, (mi_h101, mi_c101), (mi_h201, mi_c201), 2, 2, rfl, rfl, rfl, by decide, by decide, ?_, ?_⟩
  · refine mi_met_of (y := 101) (q := (mi_h101, mi_c101)) rfl (by decide) (Nat.le_of_ble_eq_true rfl) ?_
    refine mi_sem_steps mi_in101 (mi_calok_none _ _) 15 _ (23, [(6, .int ((a2 - a2 / 100 * 100))), (5, .int ((((a2 / 100)) - ((a2 / 100)) / 100 * 100))), (4, .int ((a2 / 10000))), (0, .ref 0), (1, .int a1), (2, .int a2), (3, .int a3)], [.int a2], (0, 0), mi_G) (by rfl) ?_
    refine mi_sem_b mi_in101 (decide (a2 < 0)) false (mi_ltF (0) (by decide) (by omega)) 59 26 ([(6, .int ((a2 - a2 / 100 * 100))), (5, .int ((((a2 / 100)) - ((a2 / 100)) / 100 * 100))), (4, .int ((a2 / 10000))), (0, .ref 0), (1, .int a1), (2, .int a2), (3, .int a3)], [], (0, 0), mi_G) (by rfl) ?_
    refine mi_sem_steps mi_in101 (mi_calok_none _ _) 3 _ (31, [(6, .int ((a2 - a2 / 100 * 100))), (5, .int ((((a2 / 100)) - ((a2 / 100)) / 100 * 100))), (4, .int ((a2 / 10000))), (0, .ref 0), (1, .int a1), (2, .int a2), (3, .int a3)], [.int 30, .int 1, .int ((a2 / 10000))], (0, 0), mi_G) (by rfl) ?_
    have hM10 : mi_Met mi_N0 1 mi_h120 [.int ((a2 / 10000)), .int 1, .int 30] mi_G (some (.int 1)) mi_G := by
      refine mi_met_of (y := 120) (q := (mi_h120, mi_c120)) rfl (by decide) (Nat.le_of_ble_eq_true rfl) ?_
      refine mi_sem_steps mi_in120 (mi_calok_none _ _) 2 _ (2, [(0, .int ((a2 / 10000))), (1, .int 1), (2, .int 30)], [.int 1, .int ((a2 / 10000))], (0, 0), mi_G) (by rfl) ?_
      refine mi_sem_b mi_in120 (decide (((a2 / 10000)) < 1)) false (mi_ltF (1) (by decide) (by omega)) 14 5 ([(0, .int ((a2 / 10000))), (1, .int 1), (2, .int 30)], [], (0, 0), mi_G) (by rfl) ?_
      refine mi_sem_steps mi_in120 (mi_calok_none _ _) 2 _ (7, [(0, .int ((a2 / 10000))), (1, .int 1), (2, .int 30)], [.int 30, .int ((a2 / 10000))], (0, 0), mi_G) (by rfl) ?_
      refine mi_sem_b mi_in120 (decide (30 < ((a2 / 10000)))) false (mi_ltF2 (30) (by decide) (by omega)) 14 10 ([(0, .int ((a2 / 10000))), (1, .int 1), (2, .int 30)], [], (0, 0), mi_G) (by rfl) ?_
      refine mi_sem_steps mi_in120 (mi_calok_none _ _) 2 _ (15, [(0, .int ((a2 / 10000))), (1, .int 1), (2, .int 30)], [.int 1], (0, 0), mi_G) (by rfl) ?_
      exact mi_sem_ret (cal := fun _ _ _ => none) mi_in120 (by rfl)
    refine mi_sem_call mi_in101 (i := (.invokestatic 74, 3, 120, 0, 9, 0, 152)) (by rfl) (by rfl) hM10 (by decide) ⟨Nat.le_of_ble_eq_true rfl, Nat.le_of_ble_eq_true rfl⟩ ?_
    refine mi_sem_steps mi_in101 (mi_calok_none _ _) 4 _ (42, [(6, .int ((a2 - a2 / 100 * 100))), (5, .int ((((a2 / 100)) - ((a2 / 100)) / 100 * 100))), (4, .int ((a2 / 10000))), (0, .ref 0), (1, .int a1), (2, .int a2), (3, .int a3)], [.int 60, .int 1, .int ((((a2 / 100)) - ((a2 / 100)) / 100 * 100))], (0, 0), mi_G) (by rfl) ?_
    have hM11 : mi_Met mi_N0 1 mi_h120 [.int ((((a2 / 100)) - ((a2 / 100)) / 100 * 100)), .int 1, .int 60] mi_G (some (.int 0)) mi_G := by
      refine mi_met_of (y := 120) (q := (mi_h120, mi_c120)) rfl (by decide) (Nat.le_of_ble_eq_true rfl) ?_
      refine mi_sem_steps mi_in120 (mi_calok_none _ _) 2 _ (2, [(0, .int ((((a2 / 100)) - ((a2 / 100)) / 100 * 100))), (1, .int 1), (2, .int 60)], [.int 1, .int ((((a2 / 100)) - ((a2 / 100)) / 100 * 100))], (0, 0), mi_G) (by rfl) ?_
      refine mi_sem_b mi_in120 (decide (((((a2 / 100)) - ((a2 / 100)) / 100 * 100)) < 1)) true (mi_ltT (1) (by decide) (by omega)) 14 5 ([(0, .int ((((a2 / 100)) - ((a2 / 100)) / 100 * 100))), (1, .int 1), (2, .int 60)], [], (0, 0), mi_G) (by rfl) ?_
      refine mi_sem_steps mi_in120 (mi_calok_none _ _) 1 _ (15, [(0, .int ((((a2 / 100)) - ((a2 / 100)) / 100 * 100))), (1, .int 1), (2, .int 60)], [.int 0], (0, 0), mi_G) (by rfl) ?_
      exact mi_sem_ret (cal := fun _ _ _ => none) mi_in120 (by rfl)
    refine mi_sem_call mi_in101 (i := (.invokestatic 74, 3, 120, 0, 9, 0, 152)) (by rfl) (by rfl) hM11 (by decide) ⟨Nat.le_of_ble_eq_true rfl, Nat.le_of_ble_eq_true rfl⟩ ?_
    refine mi_sem_steps mi_in101 (mi_calok_none _ _) 2 _ (60, [(6, .int ((a2 - a2 / 100 * 100))), (5, .int ((((a2 / 100)) - ((a2 / 100)) / 100 * 100))), (4, .int ((a2 / 10000))), (0, .ref 0), (1, .int a1), (2, .int a2), (3, .int a3)], [.int (-1)], (0, 0), mi_G) (by rfl) ?_
    exact mi_sem_ret (cal := fun _ _ _ => none) mi_in101 (by rfl)
  · refine mi_met_of (y := 201) (q := (mi_h201, mi_c201)) rfl (by decide) (Nat.le_of_ble_eq_true rfl) ?_
    refine mi_sem_steps mi_in201 (mi_calok_none _ _) 1 _ (1, [(0, .ref 116), (1, .int a1), (2, .int a2), (3, .int a3)], [.int a2], (0, 0), mi_G) (by rfl) ?_
    refine mi_sem_b mi_in201 (decide (a2 < 0)) false (mi_ltF (0) (by decide) (by omega)) 56 4 ([(0, .ref 116), (1, .int a1), (2, .int a2), (3, .int a3)], [], (0, 0), mi_G) (by rfl) ?_
    refine mi_sem_steps mi_in201 (mi_calok_none _ _) 5 _ (12, [(0, .ref 116), (1, .int a1), (2, .int a2), (3, .int a3)], [.int 30, .int 1, .int ((a2 / 10000))], (0, 0), mi_G) (by rfl) ?_
    have hM12 : mi_Met mi_N0 1 mi_h131 [.int ((a2 / 10000)), .int 1, .int 30] mi_G (some (.int 1)) mi_G := by
      refine mi_met_of (y := 131) (q := (mi_h131, mi_c131)) rfl (by decide) (Nat.le_of_ble_eq_true rfl) ?_
      refine mi_sem_steps mi_in131 (mi_calok_none _ _) 2 _ (2, [(0, .int ((a2 / 10000))), (1, .int 1), (2, .int 30)], [.int 1, .int ((a2 / 10000))], (0, 0), mi_G) (by rfl) ?_
      refine mi_sem_b mi_in131 (decide (((a2 / 10000)) < 1)) false (mi_ltF (1) (by decide) (by omega)) 14 5 ([(0, .int ((a2 / 10000))), (1, .int 1), (2, .int 30)], [], (0, 0), mi_G) (by rfl) ?_
      refine mi_sem_steps mi_in131 (mi_calok_none _ _) 2 _ (7, [(0, .int ((a2 / 10000))), (1, .int 1), (2, .int 30)], [.int 30, .int ((a2 / 10000))], (0, 0), mi_G) (by rfl) ?_
      refine mi_sem_b mi_in131 (decide (30 < ((a2 / 10000)))) false (mi_ltF2 (30) (by decide) (by omega)) 14 10 ([(0, .int ((a2 / 10000))), (1, .int 1), (2, .int 30)], [], (0, 0), mi_G) (by rfl) ?_
      refine mi_sem_steps mi_in131 (mi_calok_none _ _) 2 _ (15, [(0, .int ((a2 / 10000))), (1, .int 1), (2, .int 30)], [.int 1], (0, 0), mi_G) (by rfl) ?_
      exact mi_sem_ret (cal := fun _ _ _ => none) mi_in131 (by rfl)
    refine mi_sem_call mi_in201 (i := (.invokestatic 119, 3, 131, 0, 9, 0, 379)) (by rfl) (by rfl) hM12 (by decide) ⟨Nat.le_of_ble_eq_true rfl, Nat.le_of_ble_eq_true rfl⟩ ?_
    refine mi_sem_steps mi_in201 (mi_calok_none _ _) 8 _ (28, [(0, .ref 116), (1, .int a1), (2, .int a2), (3, .int a3)], [.int 60, .int 1, .int ((((a2 / 100)) - ((a2 / 100)) / 100 * 100))], (0, 0), mi_G) (by rfl) ?_
    have hM13 : mi_Met mi_N0 1 mi_h131 [.int ((((a2 / 100)) - ((a2 / 100)) / 100 * 100)), .int 1, .int 60] mi_G (some (.int 0)) mi_G := by
      refine mi_met_of (y := 131) (q := (mi_h131, mi_c131)) rfl (by decide) (Nat.le_of_ble_eq_true rfl) ?_
      refine mi_sem_steps mi_in131 (mi_calok_none _ _) 2 _ (2, [(0, .int ((((a2 / 100)) - ((a2 / 100)) / 100 * 100))), (1, .int 1), (2, .int 60)], [.int 1, .int ((((a2 / 100)) - ((a2 / 100)) / 100 * 100))], (0, 0), mi_G) (by rfl) ?_
      refine mi_sem_b mi_in131 (decide (((((a2 / 100)) - ((a2 / 100)) / 100 * 100)) < 1)) true (mi_ltT (1) (by decide) (by omega)) 14 5 ([(0, .int ((((a2 / 100)) - ((a2 / 100)) / 100 * 100))), (1, .int 1), (2, .int 60)], [], (0, 0), mi_G) (by rfl) ?_
      refine mi_sem_steps mi_in131 (mi_calok_none _ _) 1 _ (15, [(0, .int ((((a2 / 100)) - ((a2 / 100)) / 100 * 100))), (1, .int 1), (2, .int 60)], [.int 0], (0, 0), mi_G) (by rfl) ?_
      exact mi_sem_ret (cal := fun _ _ _ => none) mi_in131 (by rfl)
    refine mi_sem_call mi_in201 (i := (.invokestatic 119, 3, 131, 0, 9, 0, 379)) (by rfl) (by rfl) hM13 (by decide) ⟨Nat.le_of_ble_eq_true rfl, Nat.le_of_ble_eq_true rfl⟩ ?_
    refine mi_sem_steps mi_in201 (mi_calok_none _ _) 2 _ (57, [(0, .ref 116), (1, .int a1), (2, .int a2), (3, .int a3)], [.int (-1)], (0, 0), mi_G) (by rfl) ?_
    exact mi_sem_ret (cal := fun _ _ _ => none) mi_in201 (by rfl)

set_option maxRecDepth 100000 in
set_option maxHeartbeats 4000000 in
theorem mp_drawnB_2 (a1 : Int32) (a2 : Int32) (a3 : Int32) (r0 : 0 ≤ (a2).toInt ∧ (a2).toInt ≤ 2147483647) (r1 : 0 ≤ ((a2 - a2 / 100 * 100)).toInt ∧ ((a2 - a2 / 100 * 100)).toInt ≤ 12) (r2 : 1 ≤ ((a2 / 10000)).toInt ∧ ((a2 / 10000)).toInt ≤ 30) (r3 : 1 ≤ ((((a2 / 100)) - ((a2 / 100)) / 100 * 100)).toInt ∧ ((((a2 / 100)) - ((a2 / 100)) / 100 * 100)).toInt ≤ 60) (r4 : (-2147483648) ≤ (a3).toInt ∧ (a3).toInt ≤ (-2)) : mi_P 101 201 [.int a1, .int a2, .int a3] := by
  have bx := Int32.toInt_lt a2
  have cx := Int32.le_toInt a2
  have by_ := Int32.toInt_lt (a2 - a2 / 100 * 100)
  refine ⟨.int (-1), mi_G, mi_G, (mi_h101, mi_c101), (mi_h201, mi_c201), 3, 3, rfl, rfl, rfl, by decide, by decide, ?_, ?_⟩
  · refine mi_met_of (y := 101) (q := (mi_h101, mi_c101)) rfl (by decide) (Nat.le_of_ble_eq_true rfl) ?_
    refine mi_sem_steps mi_in101 (mi_calok_none _ _) 15 _ (23, [(6, .int ((a2 - a2 / 100 * 100))), (5, .int ((((a2 / 100)) - ((a2 / 100)) / 100 * 100))), (4, .int ((a2 / 10000))), (0, .ref 0), (1, .int a1), (2, .int a2), (3, .int a3)], [.int a2], (0, 0), mi_G) (by rfl) ?_
    refine mi_sem_b mi_in101 (decide (a2 < 0)) false (mi_ltF (0) (by decide) (by omega)) 59 26 ([(6, .int ((a2 - a2 / 100 * 100))), (5, .int ((((a2 / 100)) - ((a2 / 100)) / 100 * 100))), (4, .int ((a2 / 10000))), (0, .ref 0), (1, .int a1), (2, .int a2), (3, .int a3)], [], (0, 0), mi_G) (by rfl) ?_
    refine mi_sem_steps mi_in101 (mi_calok_none _ _) 3 _ (31, [(6, .int ((a2 - a2 / 100 * 100))), (5, .int ((((a2 / 100)) - ((a2 / 100)) / 100 * 100))), (4, .int ((a2 / 10000))), (0, .ref 0), (1, .int a1), (2, .int a2), (3, .int a3)], [.int 30, .int 1, .int ((a2 / 10000))], (0, 0), mi_G) (by rfl) ?_
    have hM20 : mi_Met mi_N0 1 mi_h120 [.int ((a2 / 10000)), .int 1, .int 30] mi_G (some (.int 1)) mi_G := by
      refine mi_met_of (y := 120) (q := (mi_h120, mi_c120)) rfl (by decide) (Nat.le_of_ble_eq_true rfl) ?_
      refine mi_sem_steps mi_in120 (mi_calok_none _ _) 2 _ (2, [(0, .int ((a2 / 10000))), (1, .int 1), (2, .int 30)], [.int 1, .int ((a2 / 10000))], (0, 0), mi_G) (by rfl) ?_
      refine mi_sem_b mi_in120 (decide (((a2 / 10000)) < 1)) false (mi_ltF (1) (by decide) (by omega)) 14 5 ([(0, .int ((a2 / 10000))), (1, .int 1), (2, .int 30)], [], (0, 0), mi_G) (by rfl) ?_
      refine mi_sem_steps mi_in120 (mi_calok_none _ _) 2 _ (7, [(0, .int ((a2 / 10000))), (1, .int 1), (2, .int 30)], [.int 30, .int ((a2 / 10000))], (0, 0), mi_G) (by rfl) ?_
      refine mi_sem_b mi_in120 (decide (30 < ((a2 / 10000)))) false (mi_ltF2 (30) (by decide) (by omega)) 14 10 ([(0, .int ((a2 / 10000))), (1, .int 1), (2, .int 30)], [], (0, 0), mi_G) (by rfl) ?_
      refine mi_sem_steps mi_in120 (mi_calok_none _ _) 2 _ (15, [(0, .int ((a2 / 10000))), (1, .int 1), (2, .int 30)], [.int 1], (0, 0), mi_G) (by rfl) ?_
      exact mi_sem_ret (cal := fun _ _ _ => none) mi_in120 (by rfl)
    refine mi_sem_call mi_in101 (i := (.invokestatic 74, 3, 120, 0, 9, 0, 152)) (by rfl) (by rfl) hM20 (by decide) ⟨Nat.le_of_ble_eq_true rfl, Nat.le_of_ble_eq_true rfl⟩ ?_
    refine mi_sem_steps mi_in101 (mi_calok_none _ _) 4 _ (42, [(6, .int ((a2 - a2 / 100 * 100))), (5, .int ((((a2 / 100)) - ((a2 / 100)) / 100 * 100))), (4, .int ((a2 / 10000))), (0, .ref 0), (1, .int a1), (2, .int a2), (3, .int a3)], [.int 60, .int 1, .int ((((a2 / 100)) - ((a2 / 100)) / 100 * 100))], (0, 0), mi_G) (by rfl) ?_
    have hM21 : mi_Met mi_N0 1 mi_h120 [.int ((((a2 / 100)) - ((a2 / 100)) / 100 * 100)), .int 1, .int 60] mi_G (some (.int 1)) mi_G := by
      refine mi_met_of (y := 120) (q := (mi_h120, mi_c120)) rfl (by decide) (Nat.le_of_ble_eq_true rfl) ?_
      refine mi_sem_steps mi_in120 (mi_calok_none _ _) 2 _ (2, [(0, .int ((((a2 / 100)) - ((a2 / 100)) / 100 * 100))), (1, .int 1), (2, .int 60)], [.int 1, .int ((((a2 / 100)) - ((a2 / 100)) / 100 * 100))], (0, 0), mi_G) (by rfl) ?_
      refine mi_sem_b mi_in120 (decide (((((a2 / 100)) - ((a2 / 100)) / 100 * 100)) < 1)) false (mi_ltF (1) (by decide) (by omega)) 14 5 ([(0, .int ((((a2 / 100)) - ((a2 / 100)) / 100 * 100))), (1, .int 1), (2, .int 60)], [], (0, 0), mi_G) (by rfl) ?_
      refine mi_sem_steps mi_in120 (mi_calok_none _ _) 2 _ (7, [(0, .int ((((a2 / 100)) - ((a2 / 100)) / 100 * 100))), (1, .int 1), (2, .int 60)], [.int 60, .int ((((a2 / 100)) - ((a2 / 100)) / 100 * 100))], (0, 0), mi_G) (by rfl) ?_
      refine mi_sem_b mi_in120 (decide (60 < ((((a2 / 100)) - ((a2 / 100)) / 100 * 100)))) false (mi_ltF2 (60) (by decide) (by omega)) 14 10 ([(0, .int ((((a2 / 100)) - ((a2 / 100)) / 100 * 100))), (1, .int 1), (2, .int 60)], [], (0, 0), mi_G) (by rfl) ?_
      refine mi_sem_steps mi_in120 (mi_calok_none _ _) 2 _ (15, [(0, .int ((((a2 / 100)) - ((a2 / 100)) / 100 * 100))), (1, .int 1), (2, .int 60)], [.int 1], (0, 0), mi_G) (by rfl) ?_
      exact mi_sem_ret (cal := fun _ _ _ => none) mi_in120 (by rfl)
    refine mi_sem_call mi_in101 (i := (.invokestatic 74, 3, 120, 0, 9, 0, 152)) (by rfl) (by rfl) hM21 (by decide) ⟨Nat.le_of_ble_eq_true rfl, Nat.le_of_ble_eq_true rfl⟩ ?_
    refine mi_sem_steps mi_in101 (mi_calok_none _ _) 4 _ (53, [(6, .int ((a2 - a2 / 100 * 100))), (5, .int ((((a2 / 100)) - ((a2 / 100)) / 100 * 100))), (4, .int ((a2 / 10000))), (0, .ref 0), (1, .int a1), (2, .int a2), (3, .int a3)], [.int 12, .int 0, .int ((a2 - a2 / 100 * 100))], (0, 0), mi_G) (by rfl) ?_
    have hM22 : mi_Met mi_N0 1 mi_h120 [.int ((a2 - a2 / 100 * 100)), .int 0, .int 12] mi_G (some (.int 1)) mi_G := by
      refine mi_met_of (y := 120) (q := (mi_h120, mi_c120)) rfl (by decide) (Nat.le_of_ble_eq_true rfl) ?_
      refine mi_sem_steps mi_in120 (mi_calok_none _ _) 2 _ (2, [(0, .int ((a2 - a2 / 100 * 100))), (1, .int 0), (2, .int 12)], [.int 0, .int ((a2 - a2 / 100 * 100))], (0, 0), mi_G) (by rfl) ?_
      refine mi_sem_b mi_in120 (decide (((a2 - a2 / 100 * 100)) < 0)) false (mi_ltF (0) (by decide) (by omega)) 14 5 ([(0, .int ((a2 - a2 / 100 * 100))), (1, .int 0), (2, .int 12)], [], (0, 0), mi_G) (by rfl) ?_
      refine mi_sem_steps mi_in120 (mi_calok_none _ _) 2 _ (7, [(0, .int ((a2 - a2 / 100 * 100))), (1, .int 0), (2, .int 12)], [.int 12, .int ((a2 - a2 / 100 * 100))], (0, 0), mi_G) (by rfl) ?_
      refine mi_sem_b mi_in120 (decide (12 < ((a2 - a2 / 100 * 100)))) false (mi_ltF2 (12) (by decide) (by omega)) 14 10 ([(0, .int ((a2 - a2 / 100 * 100))), (1, .int 0), (2, .int 12)], [], (0, 0), mi_G) (by rfl) ?_
      refine mi_sem_steps mi_in120 (mi_calok_none _ _) 2 _ (15, [(0, .int ((a2 - a2 / 100 * 100))), (1, .int 0), (2, .int 12)], [.int 1], (0, 0), mi_G) (by rfl) ?_
      exact mi_sem_ret (cal := fun _ _ _ => none) mi_in120 (by rfl)
    refine mi_sem_call mi_in101 (i := (.invokestatic 74, 3, 120, 0, 9, 0, 152)) (by rfl) (by rfl) hM22 (by decide) ⟨Nat.le_of_ble_eq_true rfl, Nat.le_of_ble_eq_true rfl⟩ ?_
    refine mi_sem_steps mi_in101 (mi_calok_none _ _) 3 _ (63, [(6, .int ((a2 - a2 / 100 * 100))), (5, .int ((((a2 / 100)) - ((a2 / 100)) / 100 * 100))), (4, .int ((a2 / 10000))), (0, .ref 0), (1, .int a1), (2, .int a2), (3, .int a3)], [.int (-1), .int a3], (0, 0), mi_G) (by rfl) ?_
    refine mi_sem_b mi_in101 ((a3 == (-1))) false (mi_eqF (-1) (by decide) (by omega)) 76 66 ([(6, .int ((a2 - a2 / 100 * 100))), (5, .int ((((a2 / 100)) - ((a2 / 100)) / 100 * 100))), (4, .int ((a2 / 10000))), (0, .ref 0), (1, .int a1), (2, .int a2), (3, .int a3)], [], (0, 0), mi_G) (by rfl) ?_
    refine mi_sem_steps mi_in101 (mi_calok_none _ _) 2 _ (68, [(6, .int ((a2 - a2 / 100 * 100))), (5, .int ((((a2 / 100)) - ((a2 / 100)) / 100 * 100))), (4, .int ((a2 / 10000))), (0, .ref 0), (1, .int a1), (2, .int a2), (3, .int a3)], [.int a3, .ref 0], (0, 0), mi_G) (by rfl) ?_
    have hM24 : mi_Met mi_N0 2 mi_h123 [.ref 0, .int a3] mi_G (some (.int 0)) mi_G := by
      refine mi_met_of (y := 123) (q := (mi_h123, mi_c123)) rfl (by decide) (Nat.le_of_ble_eq_true rfl) ?_
      refine mi_sem_steps mi_in123 (mi_calok_none _ _) 3 _ (5, [(0, .ref 0), (1, .int a3)], [.int a3, .ref 1], (0, 0), mi_G) (by rfl) ?_
      have hM23 : mi_Met mi_N0 1 mi_h24 [.ref 1, .int a3] mi_G (some (.int 0)) mi_G := by
        refine mi_met_of (y := 24) (q := (mi_h24, mi_c24)) rfl (by decide) (Nat.le_of_ble_eq_true rfl) ?_
        refine mi_sem_steps mi_in24 (mi_calok_none _ _) 1 _ (1, [(0, .ref 1), (1, .int a3)], [.int a3], (0, 0), mi_G) (by rfl) ?_
        refine mi_sem_b mi_in24 (decide (a3 < 0)) true (mi_ltT (0) (by decide) (by omega)) 22 4 ([(0, .ref 1), (1, .int a3)], [], (0, 0), mi_G) (by rfl) ?_
        refine mi_sem_steps mi_in24 (mi_calok_none _ _) 1 _ (23, [(0, .ref 1), (1, .int a3)], [.int 0], (0, 0), mi_G) (by rfl) ?_
        exact mi_sem_ret (cal := fun _ _ _ => none) mi_in24 (by rfl)
      refine mi_sem_call mi_in123 (i := (.invokevirtual 342, 3, 24, 0, 9, 0, 163)) (by rfl) (by rfl) hM23 (by decide) ⟨Nat.le_of_ble_eq_true rfl, Nat.le_of_ble_eq_true rfl⟩ ?_
      exact mi_sem_ret (cal := fun _ _ _ => none) mi_in123 (by rfl)
    refine mi_sem_call mi_in101 (i := (.invokevirtual 141, 3, 123, 0, 9, 0, 162)) (by rfl) (by rfl) hM24 (by decide) ⟨Nat.le_of_ble_eq_true rfl, Nat.le_of_ble_eq_true rfl⟩ ?_
    refine mi_sem_steps mi_in101 (mi_calok_none _ _) 2 _ (75, [(6, .int ((a2 - a2 / 100 * 100))), (5, .int ((((a2 / 100)) - ((a2 / 100)) / 100 * 100))), (4, .int ((a2 / 10000))), (0, .ref 0), (1, .int a1), (2, .int a2), (3, .int a3)], [.int (-1)], (0, 0), mi_G) (by rfl) ?_
    exact mi_sem_ret (cal := fun _ _ _ => none) mi_in101 (by rfl)
  · refine mi_met_of (y := 201) (q := (mi_h201, mi_c201)) rfl (by decide) (Nat.le_of_ble_eq_true rfl) ?_
    refine mi_sem_steps mi_in201 (mi_calok_none _ _) 1 _ (1, [(0, .ref 116), (1, .int a1), (2, .int a2), (3, .int a3)], [.int a2], (0, 0), mi_G) (by rfl) ?_
    refine mi_sem_b mi_in201 (decide (a2 < 0)) false (mi_ltF (0) (by decide) (by omega)) 56 4 ([(0, .ref 116), (1, .int a1), (2, .int a2), (3, .int a3)], [], (0, 0), mi_G) (by rfl) ?_
    refine mi_sem_steps mi_in201 (mi_calok_none _ _) 5 _ (12, [(0, .ref 116), (1, .int a1), (2, .int a2), (3, .int a3)], [.int 30, .int 1, .int ((a2 / 10000))], (0, 0), mi_G) (by rfl) ?_
    have hM25 : mi_Met mi_N0 1 mi_h131 [.int ((a2 / 10000)), .int 1, .int 30] mi_G (some (.int 1)) mi_G := by
      refine mi_met_of (y := 131) (q := (mi_h131, mi_c131)) rfl (by decide) (Nat.le_of_ble_eq_true rfl) ?_
      refine mi_sem_steps mi_in131 (mi_calok_none _ _) 2 _ (2, [(0, .int ((a2 / 10000))), (1, .int 1), (2, .int 30)], [.int 1, .int ((a2 / 10000))], (0, 0), mi_G) (by rfl) ?_
      refine mi_sem_b mi_in131 (decide (((a2 / 10000)) < 1)) false (mi_ltF (1) (by decide) (by omega)) 14 5 ([(0, .int ((a2 / 10000))), (1, .int 1), (2, .int 30)], [], (0, 0), mi_G) (by rfl) ?_
      refine mi_sem_steps mi_in131 (mi_calok_none _ _) 2 _ (7, [(0, .int ((a2 / 10000))), (1, .int 1), (2, .int 30)], [.int 30, .int ((a2 / 10000))], (0, 0), mi_G) (by rfl) ?_
      refine mi_sem_b mi_in131 (decide (30 < ((a2 / 10000)))) false (mi_ltF2 (30) (by decide) (by omega)) 14 10 ([(0, .int ((a2 / 10000))), (1, .int 1), (2, .int 30)], [], (0, 0), mi_G) (by rfl) ?_
      refine mi_sem_steps mi_in131 (mi_calok_none _ _) 2 _ (15, [(0, .int ((a2 / 10000))), (1, .int 1), (2, .int 30)], [.int 1], (0, 0), mi_G) (by rfl) ?_
      exact mi_sem_ret (cal := fun _ _ _ => none) mi_in131 (by rfl)
    refine mi_sem_call mi_in201 (i := (.invokestatic 119, 3, 131, 0, 9, 0, 379)) (by rfl) (by rfl) hM25 (by decide) ⟨Nat.le_of_ble_eq_true rfl, Nat.le_of_ble_eq_true rfl⟩ ?_
    refine mi_sem_steps mi_in201 (mi_calok_none _ _) 8 _ (28, [(0, .ref 116), (1, .int a1), (2, .int a2), (3, .int a3)], [.int 60, .int 1, .int ((((a2 / 100)) - ((a2 / 100)) / 100 * 100))], (0, 0), mi_G) (by rfl) ?_
    have hM26 : mi_Met mi_N0 1 mi_h131 [.int ((((a2 / 100)) - ((a2 / 100)) / 100 * 100)), .int 1, .int 60] mi_G (some (.int 1)) mi_G := by
      refine mi_met_of (y := 131) (q := (mi_h131, mi_c131)) rfl (by decide) (Nat.le_of_ble_eq_true rfl) ?_
      refine mi_sem_steps mi_in131 (mi_calok_none _ _) 2 _ (2, [(0, .int ((((a2 / 100)) - ((a2 / 100)) / 100 * 100))), (1, .int 1), (2, .int 60)], [.int 1, .int ((((a2 / 100)) - ((a2 / 100)) / 100 * 100))], (0, 0), mi_G) (by rfl) ?_
      refine mi_sem_b mi_in131 (decide (((((a2 / 100)) - ((a2 / 100)) / 100 * 100)) < 1)) false (mi_ltF (1) (by decide) (by omega)) 14 5 ([(0, .int ((((a2 / 100)) - ((a2 / 100)) / 100 * 100))), (1, .int 1), (2, .int 60)], [], (0, 0), mi_G) (by rfl) ?_
      refine mi_sem_steps mi_in131 (mi_calok_none _ _) 2 _ (7, [(0, .int ((((a2 / 100)) - ((a2 / 100)) / 100 * 100))), (1, .int 1), (2, .int 60)], [.int 60, .int ((((a2 / 100)) - ((a2 / 100)) / 100 * 100))], (0, 0), mi_G) (by rfl) ?_
      refine mi_sem_b mi_in131 (decide (60 < ((((a2 / 100)) - ((a2 / 100)) / 100 * 100)))) false (mi_ltF2 (60) (by decide) (by omega)) 14 10 ([(0, .int ((((a2 / 100)) - ((a2 / 100)) / 100 * 100))), (1, .int 1), (2, .int 60)], [], (0, 0), mi_G) (by rfl) ?_
      refine mi_sem_steps mi_in131 (mi_calok_none _ _) 2 _ (15, [(0, .int ((((a2 / 100)) - ((a2 / 100)) / 100 * 100))), (1, .int 1), (2, .int 60)], [.int 1], (0, 0), mi_G) (by rfl) ?_
      exact mi_sem_ret (cal := fun _ _ _ => none) mi_in131 (by rfl)
    refine mi_sem_call mi_in201 (i := (.invokestatic 119, 3, 131, 0, 9, 0, 379)) (by rfl) (by rfl) hM26 (by decide) ⟨Nat.le_of_ble_eq_true rfl, Nat.le_of_ble_eq_true rfl⟩ ?_
    refine mi_sem_steps mi_in201 (mi_calok_none _ _) 5 _ (40, [(0, .ref 116), (1, .int a1), (2, .int a2), (3, .int a3)], [.int 12, .int ((a2 - a2 / 100 * 100))], (0, 0), mi_G) (by rfl) ?_
    refine mi_sem_b mi_in201 (decide (12 < ((a2 - a2 / 100 * 100)))) false (mi_ltF2 (12) (by decide) (by omega)) 56 43 ([(0, .ref 116), (1, .int a1), (2, .int a2), (3, .int a3)], [], (0, 0), mi_G) (by rfl) ?_
    refine mi_sem_steps mi_in201 (mi_calok_none _ _) 2 _ (45, [(0, .ref 116), (1, .int a1), (2, .int a2), (3, .int a3)], [.int (-1), .int a3], (0, 0), mi_G) (by rfl) ?_
    refine mi_sem_b mi_in201 ((a3 == (-1))) false (mi_eqF (-1) (by decide) (by omega)) 58 48 ([(0, .ref 116), (1, .int a1), (2, .int a2), (3, .int a3)], [], (0, 0), mi_G) (by rfl) ?_
    refine mi_sem_steps mi_in201 (mi_calok_none _ _) 2 _ (50, [(0, .ref 116), (1, .int a1), (2, .int a2), (3, .int a3)], [.int a3, .ref 116], (0, 0), mi_G) (by rfl) ?_
    have hM28 : mi_Met mi_N0 2 mi_h132 [.ref 116, .int a3] mi_G (some (.int 0)) mi_G := by
      refine mi_met_of (y := 132) (q := (mi_h132, mi_c132)) rfl (by decide) (Nat.le_of_ble_eq_true rfl) ?_
      refine mi_sem_steps mi_in132 (mi_calok_none _ _) 6 _ (8, [(0, .ref 116), (1, .int a3)], [.int (-1), .int 0, .int a3], (0, 0), mi_G) (by rfl) ?_
      have hM27 : mi_Met mi_N0 1 mi_h131 [.int a3, .int 0, .int (-1)] mi_G (some (.int 0)) mi_G := by
        refine mi_met_of (y := 131) (q := (mi_h131, mi_c131)) rfl (by decide) (Nat.le_of_ble_eq_true rfl) ?_
        refine mi_sem_steps mi_in131 (mi_calok_none _ _) 2 _ (2, [(0, .int a3), (1, .int 0), (2, .int (-1))], [.int 0, .int a3], (0, 0), mi_G) (by rfl) ?_
        refine mi_sem_b mi_in131 (decide (a3 < 0)) true (mi_ltT (0) (by decide) (by omega)) 14 5 ([(0, .int a3), (1, .int 0), (2, .int (-1))], [], (0, 0), mi_G) (by rfl) ?_
        refine mi_sem_steps mi_in131 (mi_calok_none _ _) 1 _ (15, [(0, .int a3), (1, .int 0), (2, .int (-1))], [.int 0], (0, 0), mi_G) (by rfl) ?_
        exact mi_sem_ret (cal := fun _ _ _ => none) mi_in131 (by rfl)
      refine mi_sem_call mi_in132 (i := (.invokestatic 119, 3, 131, 0, 9, 0, 379)) (by rfl) (by rfl) hM27 (by decide) ⟨Nat.le_of_ble_eq_true rfl, Nat.le_of_ble_eq_true rfl⟩ ?_
      exact mi_sem_ret (cal := fun _ _ _ => none) mi_in132 (by rfl)
    refine mi_sem_call mi_in201 (i := (.invokevirtual 137, 3, 132, 0, 9, 0, 387)) (by rfl) (by rfl) hM28 (by decide) ⟨Nat.le_of_ble_eq_true rfl, Nat.le_of_ble_eq_true rfl⟩ ?_
    refine mi_sem_steps mi_in201 (mi_calok_none _ _) 2 _ (57, [(0, .ref 116), (1, .int a1), (2, .int a2), (3, .int a3)], [.int (-1)], (0, 0), mi_G) (by rfl) ?_
    exact mi_sem_ret (cal := fun _ _ _ => none) mi_in201 (by rfl)

set_option maxRecDepth 100000 in
set_option maxHeartbeats 4000000 in
theorem mp_drawnB_3 (a1 : Int32) (a2 : Int32) (r0 : 0 ≤ (a2).toInt ∧ (a2).toInt ≤ 2147483647) (r1 : 0 ≤ ((a2 - a2 / 100 * 100)).toInt ∧ ((a2 - a2 / 100 * 100)).toInt ≤ 12) (r2 : 1 ≤ ((a2 / 10000)).toInt ∧ ((a2 / 10000)).toInt ≤ 30) (r3 : 1 ≤ ((((a2 / 100)) - ((a2 / 100)) / 100 * 100)).toInt ∧ ((((a2 / 100)) - ((a2 / 100)) / 100 * 100)).toInt ≤ 60) : mi_P 101 201 [.int a1, .int a2, .int (-1)] := by
  refine ⟨.int 0, mi_HB, mi_HB, (mi_h101, mi_c101), (mi_h201, mi_c201), 5, 3, rfl, rfl, rfl, by decide, by decide, ?_, ?_⟩
  · refine mi_met_of (y := 101) (q := (mi_h101, mi_c101)) rfl (by decide) (Nat.le_of_ble_eq_true rfl) ?_
    refine mi_sem_steps mi_in101 (mi_calok_none _ _) 15 _ (23, [(6, .int ((a2 - a2 / 100 * 100))), (5, .int ((((a2 / 100)) - ((a2 / 100)) / 100 * 100))), (4, .int ((a2 / 10000))), (0, .ref 0), (1, .int a1), (2, .int a2), (3, .int (-1))], [.int a2], (0, 0), mi_G) (by rfl) ?_
    refine mi_sem_b mi_in101 (decide (a2 < 0)) false (mi_ltF (0) (by decide) (by omega)) 59 26 ([(6, .int ((a2 - a2 / 100 * 100))), (5, .int ((((a2 / 100)) - ((a2 / 100)) / 100 * 100))), (4, .int ((a2 / 10000))), (0, .ref 0), (1, .int a1), (2, .int a2), (3, .int (-1))], [], (0, 0), mi_G) (by rfl) ?_
    refine mi_sem_steps mi_in101 (mi_calok_none _ _) 3 _ (31, [(6, .int ((a2 - a2 / 100 * 100))), (5, .int ((((a2 / 100)) - ((a2 / 100)) / 100 * 100))), (4, .int ((a2 / 10000))), (0, .ref 0), (1, .int a1), (2, .int a2), (3, .int (-1))], [.int 30, .int 1, .int ((a2 / 10000))], (0, 0), mi_G) (by rfl) ?_
    have hM32 : mi_Met mi_N0 1 mi_h120 [.int ((a2 / 10000)), .int 1, .int 30] mi_G (some (.int 1)) mi_G := by
      refine mi_met_of (y := 120) (q := (mi_h120, mi_c120)) rfl (by decide) (Nat.le_of_ble_eq_true rfl) ?_
      refine mi_sem_steps mi_in120 (mi_calok_none _ _) 2 _ (2, [(0, .int ((a2 / 10000))), (1, .int 1), (2, .int 30)], [.int 1, .int ((a2 / 10000))], (0, 0), mi_G) (by rfl) ?_
      refine mi_sem_b mi_in120 (decide (((a2 / 10000)) < 1)) false (mi_ltF (1) (by decide) (by omega)) 14 5 ([(0, .int ((a2 / 10000))), (1, .int 1), (2, .int 30)], [], (0, 0), mi_G) (by rfl) ?_
      refine mi_sem_steps mi_in120 (mi_calok_none _ _) 2 _ (7, [(0, .int ((a2 / 10000))), (1, .int 1), (2, .int 30)], [.int 30, .int ((a2 / 10000))], (0, 0), mi_G) (by rfl) ?_
      refine mi_sem_b mi_in120 (decide (30 < ((a2 / 10000)))) false (mi_ltF2 (30) (by decide) (by omega)) 14 10 ([(0, .int ((a2 / 10000))), (1, .int 1), (2, .int 30)], [], (0, 0), mi_G) (by rfl) ?_
      refine mi_sem_steps mi_in120 (mi_calok_none _ _) 2 _ (15, [(0, .int ((a2 / 10000))), (1, .int 1), (2, .int 30)], [.int 1], (0, 0), mi_G) (by rfl) ?_
      exact mi_sem_ret (cal := fun _ _ _ => none) mi_in120 (by rfl)
    refine mi_sem_call mi_in101 (i := (.invokestatic 74, 3, 120, 0, 9, 0, 152)) (by rfl) (by rfl) hM32 (by decide) ⟨Nat.le_of_ble_eq_true rfl, Nat.le_of_ble_eq_true rfl⟩ ?_
    refine mi_sem_steps mi_in101 (mi_calok_none _ _) 4 _ (42, [(6, .int ((a2 - a2 / 100 * 100))), (5, .int ((((a2 / 100)) - ((a2 / 100)) / 100 * 100))), (4, .int ((a2 / 10000))), (0, .ref 0), (1, .int a1), (2, .int a2), (3, .int (-1))], [.int 60, .int 1, .int ((((a2 / 100)) - ((a2 / 100)) / 100 * 100))], (0, 0), mi_G) (by rfl) ?_
    have hM33 : mi_Met mi_N0 1 mi_h120 [.int ((((a2 / 100)) - ((a2 / 100)) / 100 * 100)), .int 1, .int 60] mi_G (some (.int 1)) mi_G := by
      refine mi_met_of (y := 120) (q := (mi_h120, mi_c120)) rfl (by decide) (Nat.le_of_ble_eq_true rfl) ?_
      refine mi_sem_steps mi_in120 (mi_calok_none _ _) 2 _ (2, [(0, .int ((((a2 / 100)) - ((a2 / 100)) / 100 * 100))), (1, .int 1), (2, .int 60)], [.int 1, .int ((((a2 / 100)) - ((a2 / 100)) / 100 * 100))], (0, 0), mi_G) (by rfl) ?_
      refine mi_sem_b mi_in120 (decide (((((a2 / 100)) - ((a2 / 100)) / 100 * 100)) < 1)) false (mi_ltF (1) (by decide) (by omega)) 14 5 ([(0, .int ((((a2 / 100)) - ((a2 / 100)) / 100 * 100))), (1, .int 1), (2, .int 60)], [], (0, 0), mi_G) (by rfl) ?_
      refine mi_sem_steps mi_in120 (mi_calok_none _ _) 2 _ (7, [(0, .int ((((a2 / 100)) - ((a2 / 100)) / 100 * 100))), (1, .int 1), (2, .int 60)], [.int 60, .int ((((a2 / 100)) - ((a2 / 100)) / 100 * 100))], (0, 0), mi_G) (by rfl) ?_
      refine mi_sem_b mi_in120 (decide (60 < ((((a2 / 100)) - ((a2 / 100)) / 100 * 100)))) false (mi_ltF2 (60) (by decide) (by omega)) 14 10 ([(0, .int ((((a2 / 100)) - ((a2 / 100)) / 100 * 100))), (1, .int 1), (2, .int 60)], [], (0, 0), mi_G) (by rfl) ?_
      refine mi_sem_steps mi_in120 (mi_calok_none _ _) 2 _ (15, [(0, .int ((((a2 / 100)) - ((a2 / 100)) / 100 * 100))), (1, .int 1), (2, .int 60)], [.int 1], (0, 0), mi_G) (by rfl) ?_
      exact mi_sem_ret (cal := fun _ _ _ => none) mi_in120 (by rfl)
    refine mi_sem_call mi_in101 (i := (.invokestatic 74, 3, 120, 0, 9, 0, 152)) (by rfl) (by rfl) hM33 (by decide) ⟨Nat.le_of_ble_eq_true rfl, Nat.le_of_ble_eq_true rfl⟩ ?_
    refine mi_sem_steps mi_in101 (mi_calok_none _ _) 4 _ (53, [(6, .int ((a2 - a2 / 100 * 100))), (5, .int ((((a2 / 100)) - ((a2 / 100)) / 100 * 100))), (4, .int ((a2 / 10000))), (0, .ref 0), (1, .int a1), (2, .int a2), (3, .int (-1))], [.int 12, .int 0, .int ((a2 - a2 / 100 * 100))], (0, 0), mi_G) (by rfl) ?_
    have hM34 : mi_Met mi_N0 1 mi_h120 [.int ((a2 - a2 / 100 * 100)), .int 0, .int 12] mi_G (some (.int 1)) mi_G := by
      refine mi_met_of (y := 120) (q := (mi_h120, mi_c120)) rfl (by decide) (Nat.le_of_ble_eq_true rfl) ?_
      refine mi_sem_steps mi_in120 (mi_calok_none _ _) 2 _ (2, [(0, .int ((a2 - a2 / 100 * 100))), (1, .int 0), (2, .int 12)], [.int 0, .int ((a2 - a2 / 100 * 100))], (0, 0), mi_G) (by rfl) ?_
      refine mi_sem_b mi_in120 (decide (((a2 - a2 / 100 * 100)) < 0)) false (mi_ltF (0) (by decide) (by omega)) 14 5 ([(0, .int ((a2 - a2 / 100 * 100))), (1, .int 0), (2, .int 12)], [], (0, 0), mi_G) (by rfl) ?_
      refine mi_sem_steps mi_in120 (mi_calok_none _ _) 2 _ (7, [(0, .int ((a2 - a2 / 100 * 100))), (1, .int 0), (2, .int 12)], [.int 12, .int ((a2 - a2 / 100 * 100))], (0, 0), mi_G) (by rfl) ?_
      refine mi_sem_b mi_in120 (decide (12 < ((a2 - a2 / 100 * 100)))) false (mi_ltF2 (12) (by decide) (by omega)) 14 10 ([(0, .int ((a2 - a2 / 100 * 100))), (1, .int 0), (2, .int 12)], [], (0, 0), mi_G) (by rfl) ?_
      refine mi_sem_steps mi_in120 (mi_calok_none _ _) 2 _ (15, [(0, .int ((a2 - a2 / 100 * 100))), (1, .int 0), (2, .int 12)], [.int 1], (0, 0), mi_G) (by rfl) ?_
      exact mi_sem_ret (cal := fun _ _ _ => none) mi_in120 (by rfl)
    refine mi_sem_call mi_in101 (i := (.invokestatic 74, 3, 120, 0, 9, 0, 152)) (by rfl) (by rfl) hM34 (by decide) ⟨Nat.le_of_ble_eq_true rfl, Nat.le_of_ble_eq_true rfl⟩ ?_
    refine mi_sem_steps mi_in101 (mi_calok_none _ _) 10 _ (85, [(9, .int 0), (8, .int a1), (7, .int 0), (6, .int ((a2 - a2 / 100 * 100))), (5, .int ((((a2 / 100)) - ((a2 / 100)) / 100 * 100))), (4, .int ((a2 / 10000))), (0, .ref 0), (1, .int a1), (2, .int a2), (3, .int (-1))], [], (0, 0), mi_G) (by rfl) ?_
    refine mi_sem_perm [(0, .ref 0), (1, .int a1), (2, .int a2), (3, .int (-1)), (4, .int ((a2 / 10000))), (5, .int ((((a2 / 100)) - ((a2 / 100)) / 100 * 100))), (6, .int ((a2 - a2 / 100 * 100))), (7, .int 0), (8, .int a1), (9, .int 0)] (by simp) ?_
    exact md_loop a1 a2 ((a2 / 10000)) ((((a2 / 100)) - ((a2 / 100)) / 100 * 100)) ((a2 - a2 / 100 * 100)) ⟨by omega, by omega⟩ ⟨by omega, by omega⟩
  · refine mi_met_of (y := 201) (q := (mi_h201, mi_c201)) rfl (by decide) (Nat.le_of_ble_eq_true rfl) ?_
    refine mi_sem_steps mi_in201 (mi_calok_none _ _) 1 _ (1, [(0, .ref 116), (1, .int a1), (2, .int a2), (3, .int (-1))], [.int a2], (0, 0), mi_HB) (by rfl) ?_
    refine mi_sem_b mi_in201 (decide (a2 < 0)) false (mi_ltF (0) (by decide) (by omega)) 56 4 ([(0, .ref 116), (1, .int a1), (2, .int a2), (3, .int (-1))], [], (0, 0), mi_HB) (by rfl) ?_
    refine mi_sem_steps mi_in201 (mi_calok_none _ _) 5 _ (12, [(0, .ref 116), (1, .int a1), (2, .int a2), (3, .int (-1))], [.int 30, .int 1, .int ((a2 / 10000))], (0, 0), mi_HB) (by rfl) ?_
    have hM35 : mi_Met mi_N0 1 mi_h131 [.int ((a2 / 10000)), .int 1, .int 30] mi_HB (some (.int 1)) mi_HB := by
      refine mi_met_of (y := 131) (q := (mi_h131, mi_c131)) rfl (by decide) (Nat.le_of_ble_eq_true rfl) ?_
      refine mi_sem_steps mi_in131 (mi_calok_none _ _) 2 _ (2, [(0, .int ((a2 / 10000))), (1, .int 1), (2, .int 30)], [.int 1, .int ((a2 / 10000))], (0, 0), mi_HB) (by rfl) ?_
      refine mi_sem_b mi_in131 (decide (((a2 / 10000)) < 1)) false (mi_ltF (1) (by decide) (by omega)) 14 5 ([(0, .int ((a2 / 10000))), (1, .int 1), (2, .int 30)], [], (0, 0), mi_HB) (by rfl) ?_
      refine mi_sem_steps mi_in131 (mi_calok_none _ _) 2 _ (7, [(0, .int ((a2 / 10000))), (1, .int 1), (2, .int 30)], [.int 30, .int ((a2 / 10000))], (0, 0), mi_HB) (by rfl) ?_
      refine mi_sem_b mi_in131 (decide (30 < ((a2 / 10000)))) false (mi_ltF2 (30) (by decide) (by omega)) 14 10 ([(0, .int ((a2 / 10000))), (1, .int 1), (2, .int 30)], [], (0, 0), mi_HB) (by rfl) ?_
      refine mi_sem_steps mi_in131 (mi_calok_none _ _) 2 _ (15, [(0, .int ((a2 / 10000))), (1, .int 1), (2, .int 30)], [.int 1], (0, 0), mi_HB) (by rfl) ?_
      exact mi_sem_ret (cal := fun _ _ _ => none) mi_in131 (by rfl)
    refine mi_sem_call mi_in201 (i := (.invokestatic 119, 3, 131, 0, 9, 0, 379)) (by rfl) (by rfl) hM35 (by decide) ⟨Nat.le_of_ble_eq_true rfl, Nat.le_of_ble_eq_true rfl⟩ ?_
    refine mi_sem_steps mi_in201 (mi_calok_none _ _) 8 _ (28, [(0, .ref 116), (1, .int a1), (2, .int a2), (3, .int (-1))], [.int 60, .int 1, .int ((((a2 / 100)) - ((a2 / 100)) / 100 * 100))], (0, 0), mi_HB) (by rfl) ?_
    have hM36 : mi_Met mi_N0 1 mi_h131 [.int ((((a2 / 100)) - ((a2 / 100)) / 100 * 100)), .int 1, .int 60] mi_HB (some (.int 1)) mi_HB := by
      refine mi_met_of (y := 131) (q := (mi_h131, mi_c131)) rfl (by decide) (Nat.le_of_ble_eq_true rfl) ?_
      refine mi_sem_steps mi_in131 (mi_calok_none _ _) 2 _ (2, [(0, .int ((((a2 / 100)) - ((a2 / 100)) / 100 * 100))), (1, .int 1), (2, .int 60)], [.int 1, .int ((((a2 / 100)) - ((a2 / 100)) / 100 * 100))], (0, 0), mi_HB) (by rfl) ?_
      refine mi_sem_b mi_in131 (decide (((((a2 / 100)) - ((a2 / 100)) / 100 * 100)) < 1)) false (mi_ltF (1) (by decide) (by omega)) 14 5 ([(0, .int ((((a2 / 100)) - ((a2 / 100)) / 100 * 100))), (1, .int 1), (2, .int 60)], [], (0, 0), mi_HB) (by rfl) ?_
      refine mi_sem_steps mi_in131 (mi_calok_none _ _) 2 _ (7, [(0, .int ((((a2 / 100)) - ((a2 / 100)) / 100 * 100))), (1, .int 1), (2, .int 60)], [.int 60, .int ((((a2 / 100)) - ((a2 / 100)) / 100 * 100))], (0, 0), mi_HB) (by rfl) ?_
      refine mi_sem_b mi_in131 (decide (60 < ((((a2 / 100)) - ((a2 / 100)) / 100 * 100)))) false (mi_ltF2 (60) (by decide) (by omega)) 14 10 ([(0, .int ((((a2 / 100)) - ((a2 / 100)) / 100 * 100))), (1, .int 1), (2, .int 60)], [], (0, 0), mi_HB) (by rfl) ?_
      refine mi_sem_steps mi_in131 (mi_calok_none _ _) 2 _ (15, [(0, .int ((((a2 / 100)) - ((a2 / 100)) / 100 * 100))), (1, .int 1), (2, .int 60)], [.int 1], (0, 0), mi_HB) (by rfl) ?_
      exact mi_sem_ret (cal := fun _ _ _ => none) mi_in131 (by rfl)
    refine mi_sem_call mi_in201 (i := (.invokestatic 119, 3, 131, 0, 9, 0, 379)) (by rfl) (by rfl) hM36 (by decide) ⟨Nat.le_of_ble_eq_true rfl, Nat.le_of_ble_eq_true rfl⟩ ?_
    refine mi_sem_steps mi_in201 (mi_calok_none _ _) 5 _ (40, [(0, .ref 116), (1, .int a1), (2, .int a2), (3, .int (-1))], [.int 12, .int ((a2 - a2 / 100 * 100))], (0, 0), mi_HB) (by rfl) ?_
    refine mi_sem_b mi_in201 (decide (12 < ((a2 - a2 / 100 * 100)))) false (mi_ltF2 (12) (by decide) (by omega)) 56 43 ([(0, .ref 116), (1, .int a1), (2, .int a2), (3, .int (-1))], [], (0, 0), mi_HB) (by rfl) ?_
    refine mi_sem_steps mi_in201 (mi_calok_none _ _) 4 _ (59, [(0, .ref 116), (1, .int a1), (2, .int a2), (3, .int (-1))], [.ref 116], (0, 0), mi_HB) (by rfl) ?_
    have hM37 : mi_Met mi_N0 2 mi_h171 [.ref 116] mi_HB none mi_HB := mi_fun_ok mi_N0 2 171 (mi_h171, mi_c171) _ _ _ _ rfl (mi_eR_ok (by decide +kernel))
    refine mi_sem_call mi_in201 (i := (.invokevirtual 267, 3, 171, 0, 9, 0, 412)) (by rfl) (by rfl) hM37 (by decide) ⟨Nat.le_of_ble_eq_true rfl, Nat.le_of_ble_eq_true rfl⟩ ?_
    refine mi_sem_steps mi_in201 (mi_calok_none _ _) 10 _ (78, [(6, .int 0), (5, .int 0), (4, .int a1), (0, .ref 116), (1, .int a1), (2, .int a2), (3, .int (-1))], [.int ((a2 / 10000)), .int 0], (0, 0), mi_HB) (by rfl) ?_
    refine mi_sem_b mi_in201 (decide (((a2 / 10000)) ≤ 0)) false (mi_leF (0) (by decide) (by omega)) 186 81 ([(6, .int 0), (5, .int 0), (4, .int a1), (0, .ref 116), (1, .int a1), (2, .int a2), (3, .int (-1))], [], (0, 0), mi_HB) (by rfl) ?_
    refine mi_sem_steps mi_in201 (mi_calok_none _ _) 9 _ (200, [(6, .int 0), (5, .int 0), (4, .int a1), (0, .ref 116), (1, .int a1), (2, .int a2), (3, .int (-1))], [.int 0], (0, 0), mi_HB) (by rfl) ?_
    exact mi_sem_ret (cal := fun _ _ _ => none) mi_in201 (by rfl)

set_option maxRecDepth 100000 in
set_option maxHeartbeats 4000000 in
theorem mp_drawnB_4 (a1 : Int32) (a2 : Int32) (a3 : Int32) (r0 : 0 ≤ (a2).toInt ∧ (a2).toInt ≤ 2147483647) (r1 : 0 ≤ ((a2 - a2 / 100 * 100)).toInt ∧ ((a2 - a2 / 100 * 100)).toInt ≤ 12) (r2 : 1 ≤ ((a2 / 10000)).toInt ∧ ((a2 / 10000)).toInt ≤ 30) (r3 : 1 ≤ ((((a2 / 100)) - ((a2 / 100)) / 100 * 100)).toInt ∧ ((((a2 / 100)) - ((a2 / 100)) / 100 * 100)).toInt ≤ 60) (r4 : 0 ≤ (a3).toInt ∧ (a3).toInt ≤ 2147483647) : mi_P 101 201 [.int a1, .int a2, .int a3] := by
  have bx := Int32.toInt_lt a2
  have cx := Int32.le_toInt a2
  have by_ := Int32.toInt_lt (a2 - a2 / 100 * 100)
  refine ⟨.int (-1), mi_G, mi_G, (mi_h101, mi_c101), (mi_h201, mi_c201), 3, 3, rfl, rfl, rfl, by decide, by decide, ?_, ?_⟩
  · refine mi_met_of (y := 101) (q := (mi_h101, mi_c101)) rfl (by decide) (Nat.le_of_ble_eq_true rfl) ?_
    refine mi_sem_steps mi_in101 (mi_calok_none _ _) 15 _ (23, [(6, .int ((a2 - a2 / 100 * 100))), (5, .int ((((a2 / 100)) - ((a2 / 100)) / 100 * 100))), (4, .int ((a2 / 10000))), (0, .ref 0), (1, .int a1), (2, .int a2), (3, .int a3)], [.int a2], (0, 0), mi_G) (by rfl) ?_
    refine mi_sem_b mi_in101 (decide (a2 < 0)) false (mi_ltF (0) (by decide) (by omega)) 59 26 ([(6, .int ((a2 - a2 / 100 * 100))), (5, .int ((((a2 / 100)) - ((a2 / 100)) / 100 * 100))), (4, .int ((a2 / 10000))), (0, .ref 0), (1, .int a1), (2, .int a2), (3, .int a3)], [], (0, 0), mi_G) (by rfl) ?_
    refine mi_sem_steps mi_in101 (mi_calok_none _ _) 3 _ (31, [(6, .int ((a2 - a2 / 100 * 100))), (5, .int ((((a2 / 100)) - ((a2 / 100)) / 100 * 100))), (4, .int ((a2 / 10000))), (0, .ref 0), (1, .int a1), (2, .int a2), (3, .int a3)], [.int 30, .int 1, .int ((a2 / 10000))], (0, 0), mi_G) (by rfl) ?_
    have hM38 : mi_Met mi_N0 1 mi_h120 [.int ((a2 / 10000)), .int 1, .int 30] mi_G (some (.int 1)) mi_G := by
      refine mi_met_of (y := 120) (q := (mi_h120, mi_c120)) rfl (by decide) (Nat.le_of_ble_eq_true rfl) ?_
      refine mi_sem_steps mi_in120 (mi_calok_none _ _) 2 _ (2, [(0, .int ((a2 / 10000))), (1, .int 1), (2, .int 30)], [.int 1, .int ((a2 / 10000))], (0, 0), mi_G) (by rfl) ?_
      refine mi_sem_b mi_in120 (decide (((a2 / 10000)) < 1)) false (mi_ltF (1) (by decide) (by omega)) 14 5 ([(0, .int ((a2 / 10000))), (1, .int 1), (2, .int 30)], [], (0, 0), mi_G) (by rfl) ?_
      refine mi_sem_steps mi_in120 (mi_calok_none _ _) 2 _ (7, [(0, .int ((a2 / 10000))), (1, .int 1), (2, .int 30)], [.int 30, .int ((a2 / 10000))], (0, 0), mi_G) (by rfl) ?_
      refine mi_sem_b mi_in120 (decide (30 < ((a2 / 10000)))) false (mi_ltF2 (30) (by decide) (by omega)) 14 10 ([(0, .int ((a2 / 10000))), (1, .int 1), (2, .int 30)], [], (0, 0), mi_G) (by rfl) ?_
      refine mi_sem_steps mi_in120 (mi_calok_none _ _) 2 _ (15, [(0, .int ((a2 / 10000))), (1, .int 1), (2, .int 30)], [.int 1], (0, 0), mi_G) (by rfl) ?_
      exact mi_sem_ret (cal := fun _ _ _ => none) mi_in120 (by rfl)
    refine mi_sem_call mi_in101 (i := (.invokestatic 74, 3, 120, 0, 9, 0, 152)) (by rfl) (by rfl) hM38 (by decide) ⟨Nat.le_of_ble_eq_true rfl, Nat.le_of_ble_eq_true rfl⟩ ?_
    refine mi_sem_steps mi_in101 (mi_calok_none _ _) 4 _ (42, [(6, .int ((a2 - a2 / 100 * 100))), (5, .int ((((a2 / 100)) - ((a2 / 100)) / 100 * 100))), (4, .int ((a2 / 10000))), (0, .ref 0), (1, .int a1), (2, .int a2), (3, .int a3)], [.int 60, .int 1, .int ((((a2 / 100)) - ((a2 / 100)) / 100 * 100))], (0, 0), mi_G) (by rfl) ?_
    have hM39 : mi_Met mi_N0 1 mi_h120 [.int ((((a2 / 100)) - ((a2 / 100)) / 100 * 100)), .int 1, .int 60] mi_G (some (.int 1)) mi_G := by
      refine mi_met_of (y := 120) (q := (mi_h120, mi_c120)) rfl (by decide) (Nat.le_of_ble_eq_true rfl) ?_
      refine mi_sem_steps mi_in120 (mi_calok_none _ _) 2 _ (2, [(0, .int ((((a2 / 100)) - ((a2 / 100)) / 100 * 100))), (1, .int 1), (2, .int 60)], [.int 1, .int ((((a2 / 100)) - ((a2 / 100)) / 100 * 100))], (0, 0), mi_G) (by rfl) ?_
      refine mi_sem_b mi_in120 (decide (((((a2 / 100)) - ((a2 / 100)) / 100 * 100)) < 1)) false (mi_ltF (1) (by decide) (by omega)) 14 5 ([(0, .int ((((a2 / 100)) - ((a2 / 100)) / 100 * 100))), (1, .int 1), (2, .int 60)], [], (0, 0), mi_G) (by rfl) ?_
      refine mi_sem_steps mi_in120 (mi_calok_none _ _) 2 _ (7, [(0, .int ((((a2 / 100)) - ((a2 / 100)) / 100 * 100))), (1, .int 1), (2, .int 60)], [.int 60, .int ((((a2 / 100)) - ((a2 / 100)) / 100 * 100))], (0, 0), mi_G) (by rfl) ?_
      refine mi_sem_b mi_in120 (decide (60 < ((((a2 / 100)) - ((a2 / 100)) / 100 * 100)))) false (mi_ltF2 (60) (by decide) (by omega)) 14 10 ([(0, .int ((((a2 / 100)) - ((a2 / 100)) / 100 * 100))), (1, .int 1), (2, .int 60)], [], (0, 0), mi_G) (by rfl) ?_
      refine mi_sem_steps mi_in120 (mi_calok_none _ _) 2 _ (15, [(0, .int ((((a2 / 100)) - ((a2 / 100)) / 100 * 100))), (1, .int 1), (2, .int 60)], [.int 1], (0, 0), mi_G) (by rfl) ?_
      exact mi_sem_ret (cal := fun _ _ _ => none) mi_in120 (by rfl)
    refine mi_sem_call mi_in101 (i := (.invokestatic 74, 3, 120, 0, 9, 0, 152)) (by rfl) (by rfl) hM39 (by decide) ⟨Nat.le_of_ble_eq_true rfl, Nat.le_of_ble_eq_true rfl⟩ ?_
    refine mi_sem_steps mi_in101 (mi_calok_none _ _) 4 _ (53, [(6, .int ((a2 - a2 / 100 * 100))), (5, .int ((((a2 / 100)) - ((a2 / 100)) / 100 * 100))), (4, .int ((a2 / 10000))), (0, .ref 0), (1, .int a1), (2, .int a2), (3, .int a3)], [.int 12, .int 0, .int ((a2 - a2 / 100 * 100))], (0, 0), mi_G) (by rfl) ?_
    have hM40 : mi_Met mi_N0 1 mi_h120 [.int ((a2 - a2 / 100 * 100)), .int 0, .int 12] mi_G (some (.int 1)) mi_G := by
      refine mi_met_of (y := 120) (q := (mi_h120, mi_c120)) rfl (by decide) (Nat.le_of_ble_eq_true rfl) ?_
      refine mi_sem_steps mi_in120 (mi_calok_none _ _) 2 _ (2, [(0, .int ((a2 - a2 / 100 * 100))), (1, .int 0), (2, .int 12)], [.int 0, .int ((a2 - a2 / 100 * 100))], (0, 0), mi_G) (by rfl) ?_
      refine mi_sem_b mi_in120 (decide (((a2 - a2 / 100 * 100)) < 0)) false (mi_ltF (0) (by decide) (by omega)) 14 5 ([(0, .int ((a2 - a2 / 100 * 100))), (1, .int 0), (2, .int 12)], [], (0, 0), mi_G) (by rfl) ?_
      refine mi_sem_steps mi_in120 (mi_calok_none _ _) 2 _ (7, [(0, .int ((a2 - a2 / 100 * 100))), (1, .int 0), (2, .int 12)], [.int 12, .int ((a2 - a2 / 100 * 100))], (0, 0), mi_G) (by rfl) ?_
      refine mi_sem_b mi_in120 (decide (12 < ((a2 - a2 / 100 * 100)))) false (mi_ltF2 (12) (by decide) (by omega)) 14 10 ([(0, .int ((a2 - a2 / 100 * 100))), (1, .int 0), (2, .int 12)], [], (0, 0), mi_G) (by rfl) ?_
      refine mi_sem_steps mi_in120 (mi_calok_none _ _) 2 _ (15, [(0, .int ((a2 - a2 / 100 * 100))), (1, .int 0), (2, .int 12)], [.int 1], (0, 0), mi_G) (by rfl) ?_
      exact mi_sem_ret (cal := fun _ _ _ => none) mi_in120 (by rfl)
    refine mi_sem_call mi_in101 (i := (.invokestatic 74, 3, 120, 0, 9, 0, 152)) (by rfl) (by rfl) hM40 (by decide) ⟨Nat.le_of_ble_eq_true rfl, Nat.le_of_ble_eq_true rfl⟩ ?_
    refine mi_sem_steps mi_in101 (mi_calok_none _ _) 3 _ (63, [(6, .int ((a2 - a2 / 100 * 100))), (5, .int ((((a2 / 100)) - ((a2 / 100)) / 100 * 100))), (4, .int ((a2 / 10000))), (0, .ref 0), (1, .int a1), (2, .int a2), (3, .int a3)], [.int (-1), .int a3], (0, 0), mi_G) (by rfl) ?_
    refine mi_sem_b mi_in101 ((a3 == (-1))) false (mi_eqF (-1) (by decide) (by omega)) 76 66 ([(6, .int ((a2 - a2 / 100 * 100))), (5, .int ((((a2 / 100)) - ((a2 / 100)) / 100 * 100))), (4, .int ((a2 / 10000))), (0, .ref 0), (1, .int a1), (2, .int a2), (3, .int a3)], [], (0, 0), mi_G) (by rfl) ?_
    refine mi_sem_steps mi_in101 (mi_calok_none _ _) 2 _ (68, [(6, .int ((a2 - a2 / 100 * 100))), (5, .int ((((a2 / 100)) - ((a2 / 100)) / 100 * 100))), (4, .int ((a2 / 10000))), (0, .ref 0), (1, .int a1), (2, .int a2), (3, .int a3)], [.int a3, .ref 0], (0, 0), mi_G) (by rfl) ?_
    have hM42 : mi_Met mi_N0 2 mi_h123 [.ref 0, .int a3] mi_G (some (.int 0)) mi_G := by
      refine mi_met_of (y := 123) (q := (mi_h123, mi_c123)) rfl (by decide) (Nat.le_of_ble_eq_true rfl) ?_
      refine mi_sem_steps mi_in123 (mi_calok_none _ _) 3 _ (5, [(0, .ref 0), (1, .int a3)], [.int a3, .ref 1], (0, 0), mi_G) (by rfl) ?_
      have hM41 : mi_Met mi_N0 1 mi_h24 [.ref 1, .int a3] mi_G (some (.int 0)) mi_G := by
        refine mi_met_of (y := 24) (q := (mi_h24, mi_c24)) rfl (by decide) (Nat.le_of_ble_eq_true rfl) ?_
        refine mi_sem_steps mi_in24 (mi_calok_none _ _) 1 _ (1, [(0, .ref 1), (1, .int a3)], [.int a3], (0, 0), mi_G) (by rfl) ?_
        refine mi_sem_b mi_in24 (decide (a3 < 0)) false (mi_ltF (0) (by decide) (by omega)) 22 4 ([(0, .ref 1), (1, .int a3)], [], (0, 0), mi_G) (by rfl) ?_
        refine mi_sem_steps mi_in24 (mi_calok_none _ _) 3 _ (9, [(0, .ref 1), (1, .int a3)], [.int 0, .int a3], (0, 0), mi_G) (by rfl) ?_
        refine mi_sem_b mi_in24 (decide (0 ≤ a3)) true (mi_leT2 (0) (by decide) (by omega)) 22 12 ([(0, .ref 1), (1, .int a3)], [], (0, 0), mi_G) (by rfl) ?_
        refine mi_sem_steps mi_in24 (mi_calok_none _ _) 1 _ (23, [(0, .ref 1), (1, .int a3)], [.int 0], (0, 0), mi_G) (by rfl) ?_
        exact mi_sem_ret (cal := fun _ _ _ => none) mi_in24 (by rfl)
      refine mi_sem_call mi_in123 (i := (.invokevirtual 342, 3, 24, 0, 9, 0, 163)) (by rfl) (by rfl) hM41 (by decide) ⟨Nat.le_of_ble_eq_true rfl, Nat.le_of_ble_eq_true rfl⟩ ?_
      exact mi_sem_ret (cal := fun _ _ _ => none) mi_in123 (by rfl)
    refine mi_sem_call mi_in101 (i := (.invokevirtual 141, 3, 123, 0, 9, 0, 162)) (by rfl) (by rfl) hM42 (by decide) ⟨Nat.le_of_ble_eq_true rfl, Nat.le_of_ble_eq_true rfl⟩ ?_
    refine mi_sem_steps mi_in101 (mi_calok_none _ _) 2 _ (75, [(6, .int ((a2 - a2 / 100 * 100))), (5, .int ((((a2 / 100)) - ((a2 / 100)) / 100 * 100))), (4, .int ((a2 / 10000))), (0, .ref 0), (1, .int a1), (2, .int a2), (3, .int a3)], [.int (-1)], (0, 0), mi_G) (by rfl) ?_
    exact mi_sem_ret (cal := fun _ _ _ => none) mi_in101 (by rfl)
  · refine mi_met_of (y := 201) (q := (mi_h201, mi_c201)) rfl (by decide) (Nat.le_of_ble_eq_true rfl) ?_
    refine mi_sem_steps mi_in201 (mi_calok_none _ _) 1 _ (1, [(0, .ref 116), (1, .int a1), (2, .int a2), (3, .int a3)], [.int a2], (0, 0), mi_G) (by rfl) ?_
    refine mi_sem_b mi_in201 (decide (a2 < 0)) false (mi_ltF (0) (by decide) (by omega)) 56 4 ([(0, .ref 116), (1, .int a1), (2, .int a2), (3, .int a3)], [], (0, 0), mi_G) (by rfl) ?_
    refine mi_sem_steps mi_in201 (mi_calok_none _ _) 5 _ (12, [(0, .ref 116), (1, .int a1), (2, .int a2), (3, .int a3)], [.int 30, .int 1, .int ((a2 / 10000))], (0, 0), mi_G) (by rfl) ?_
    have hM43 : mi_Met mi_N0 1 mi_h131 [.int ((a2 / 10000)), .int 1, .int 30] mi_G (some (.int 1)) mi_G := by
      refine mi_met_of (y := 131) (q := (mi_h131, mi_c131)) rfl (by decide) (Nat.le_of_ble_eq_true rfl) ?_
      refine mi_sem_steps mi_in131 (mi_calok_none _ _) 2 _ (2, [(0, .int ((a2 / 10000))), (1, .int 1), (2, .int 30)], [.int 1, .int ((a2 / 10000))], (0, 0), mi_G) (by rfl) ?_
      refine mi_sem_b mi_in131 (decide (((a2 / 10000)) < 1)) false (mi_ltF (1) (by decide) (by omega)) 14 5 ([(0, .int ((a2 / 10000))), (1, .int 1), (2, .int 30)], [], (0, 0), mi_G) (by rfl) ?_
      refine mi_sem_steps mi_in131 (mi_calok_none _ _) 2 _ (7, [(0, .int ((a2 / 10000))), (1, .int 1), (2, .int 30)], [.int 30, .int ((a2 / 10000))], (0, 0), mi_G) (by rfl) ?_
      refine mi_sem_b mi_in131 (decide (30 < ((a2 / 10000)))) false (mi_ltF2 (30) (by decide) (by omega)) 14 10 ([(0, .int ((a2 / 10000))), (1, .int 1), (2, .int 30)], [], (0, 0), mi_G) (by rfl) ?_
      refine mi_sem_steps mi_in131 (mi_calok_none _ _) 2 _ (15, [(0, .int ((a2 / 10000))), (1, .int 1), (2, .int 30)], [.int 1], (0, 0), mi_G) (by rfl) ?_
      exact mi_sem_ret (cal := fun _ _ _ => none) mi_in131 (by rfl)
    refine mi_sem_call mi_in201 (i := (.invokestatic 119, 3, 131, 0, 9, 0, 379)) (by rfl) (by rfl) hM43 (by decide) ⟨Nat.le_of_ble_eq_true rfl, Nat.le_of_ble_eq_true rfl⟩ ?_
    refine mi_sem_steps mi_in201 (mi_calok_none _ _) 8 _ (28, [(0, .ref 116), (1, .int a1), (2, .int a2), (3, .int a3)], [.int 60, .int 1, .int ((((a2 / 100)) - ((a2 / 100)) / 100 * 100))], (0, 0), mi_G) (by rfl) ?_
    have hM44 : mi_Met mi_N0 1 mi_h131 [.int ((((a2 / 100)) - ((a2 / 100)) / 100 * 100)), .int 1, .int 60] mi_G (some (.int 1)) mi_G := by
      refine mi_met_of (y := 131) (q := (mi_h131, mi_c131)) rfl (by decide) (Nat.le_of_ble_eq_true rfl) ?_
      refine mi_sem_steps mi_in131 (mi_calok_none _ _) 2 _ (2, [(0, .int ((((a2 / 100)) - ((a2 / 100)) / 100 * 100))), (1, .int 1), (2, .int 60)], [.int 1, .int ((((a2 / 100)) - ((a2 / 100)) / 100 * 100))], (0, 0), mi_G) (by rfl) ?_
      refine mi_sem_b mi_in131 (decide (((((a2 / 100)) - ((a2 / 100)) / 100 * 100)) < 1)) false (mi_ltF (1) (by decide) (by omega)) 14 5 ([(0, .int ((((a2 / 100)) - ((a2 / 100)) / 100 * 100))), (1, .int 1), (2, .int 60)], [], (0, 0), mi_G) (by rfl) ?_
      refine mi_sem_steps mi_in131 (mi_calok_none _ _) 2 _ (7, [(0, .int ((((a2 / 100)) - ((a2 / 100)) / 100 * 100))), (1, .int 1), (2, .int 60)], [.int 60, .int ((((a2 / 100)) - ((a2 / 100)) / 100 * 100))], (0, 0), mi_G) (by rfl) ?_
      refine mi_sem_b mi_in131 (decide (60 < ((((a2 / 100)) - ((a2 / 100)) / 100 * 100)))) false (mi_ltF2 (60) (by decide) (by omega)) 14 10 ([(0, .int ((((a2 / 100)) - ((a2 / 100)) / 100 * 100))), (1, .int 1), (2, .int 60)], [], (0, 0), mi_G) (by rfl) ?_
      refine mi_sem_steps mi_in131 (mi_calok_none _ _) 2 _ (15, [(0, .int ((((a2 / 100)) - ((a2 / 100)) / 100 * 100))), (1, .int 1), (2, .int 60)], [.int 1], (0, 0), mi_G) (by rfl) ?_
      exact mi_sem_ret (cal := fun _ _ _ => none) mi_in131 (by rfl)
    refine mi_sem_call mi_in201 (i := (.invokestatic 119, 3, 131, 0, 9, 0, 379)) (by rfl) (by rfl) hM44 (by decide) ⟨Nat.le_of_ble_eq_true rfl, Nat.le_of_ble_eq_true rfl⟩ ?_
    refine mi_sem_steps mi_in201 (mi_calok_none _ _) 5 _ (40, [(0, .ref 116), (1, .int a1), (2, .int a2), (3, .int a3)], [.int 12, .int ((a2 - a2 / 100 * 100))], (0, 0), mi_G) (by rfl) ?_
    refine mi_sem_b mi_in201 (decide (12 < ((a2 - a2 / 100 * 100)))) false (mi_ltF2 (12) (by decide) (by omega)) 56 43 ([(0, .ref 116), (1, .int a1), (2, .int a2), (3, .int a3)], [], (0, 0), mi_G) (by rfl) ?_
    refine mi_sem_steps mi_in201 (mi_calok_none _ _) 2 _ (45, [(0, .ref 116), (1, .int a1), (2, .int a2), (3, .int a3)], [.int (-1), .int a3], (0, 0), mi_G) (by rfl) ?_
    refine mi_sem_b mi_in201 ((a3 == (-1))) false (mi_eqF (-1) (by decide) (by omega)) 58 48 ([(0, .ref 116), (1, .int a1), (2, .int a2), (3, .int a3)], [], (0, 0), mi_G) (by rfl) ?_
    refine mi_sem_steps mi_in201 (mi_calok_none _ _) 2 _ (50, [(0, .ref 116), (1, .int a1), (2, .int a2), (3, .int a3)], [.int a3, .ref 116], (0, 0), mi_G) (by rfl) ?_
    have hM46 : mi_Met mi_N0 2 mi_h132 [.ref 116, .int a3] mi_G (some (.int 0)) mi_G := by
      refine mi_met_of (y := 132) (q := (mi_h132, mi_c132)) rfl (by decide) (Nat.le_of_ble_eq_true rfl) ?_
      refine mi_sem_steps mi_in132 (mi_calok_none _ _) 6 _ (8, [(0, .ref 116), (1, .int a3)], [.int (-1), .int 0, .int a3], (0, 0), mi_G) (by rfl) ?_
      have hM45 : mi_Met mi_N0 1 mi_h131 [.int a3, .int 0, .int (-1)] mi_G (some (.int 0)) mi_G := by
        refine mi_met_of (y := 131) (q := (mi_h131, mi_c131)) rfl (by decide) (Nat.le_of_ble_eq_true rfl) ?_
        refine mi_sem_steps mi_in131 (mi_calok_none _ _) 2 _ (2, [(0, .int a3), (1, .int 0), (2, .int (-1))], [.int 0, .int a3], (0, 0), mi_G) (by rfl) ?_
        refine mi_sem_b mi_in131 (decide (a3 < 0)) false (mi_ltF (0) (by decide) (by omega)) 14 5 ([(0, .int a3), (1, .int 0), (2, .int (-1))], [], (0, 0), mi_G) (by rfl) ?_
        refine mi_sem_steps mi_in131 (mi_calok_none _ _) 2 _ (7, [(0, .int a3), (1, .int 0), (2, .int (-1))], [.int (-1), .int a3], (0, 0), mi_G) (by rfl) ?_
        refine mi_sem_b mi_in131 (decide ((-1) < a3)) true (mi_ltT2 (-1) (by decide) (by omega)) 14 10 ([(0, .int a3), (1, .int 0), (2, .int (-1))], [], (0, 0), mi_G) (by rfl) ?_
        refine mi_sem_steps mi_in131 (mi_calok_none _ _) 1 _ (15, [(0, .int a3), (1, .int 0), (2, .int (-1))], [.int 0], (0, 0), mi_G) (by rfl) ?_
        exact mi_sem_ret (cal := fun _ _ _ => none) mi_in131 (by rfl)
      refine mi_sem_call mi_in132 (i := (.invokestatic 119, 3, 131, 0, 9, 0, 379)) (by rfl) (by rfl) hM45 (by decide) ⟨Nat.le_of_ble_eq_true rfl, Nat.le_of_ble_eq_true rfl⟩ ?_
      exact mi_sem_ret (cal := fun _ _ _ => none) mi_in132 (by rfl)
    refine mi_sem_call mi_in201 (i := (.invokevirtual 137, 3, 132, 0, 9, 0, 387)) (by rfl) (by rfl) hM46 (by decide) ⟨Nat.le_of_ble_eq_true rfl, Nat.le_of_ble_eq_true rfl⟩ ?_
    refine mi_sem_steps mi_in201 (mi_calok_none _ _) 2 _ (57, [(0, .ref 116), (1, .int a1), (2, .int a2), (3, .int a3)], [.int (-1)], (0, 0), mi_G) (by rfl) ?_
    exact mi_sem_ret (cal := fun _ _ _ => none) mi_in201 (by rfl)

set_option maxRecDepth 100000 in
set_option maxHeartbeats 4000000 in
theorem mp_drawnB_5 (a1 : Int32) (a2 : Int32) (a3 : Int32) (r0 : 0 ≤ (a2).toInt ∧ (a2).toInt ≤ 2147483647) (r1 : 13 ≤ ((a2 - a2 / 100 * 100)).toInt ∧ ((a2 - a2 / 100 * 100)).toInt ≤ 2147483647) (r2 : 1 ≤ ((a2 / 10000)).toInt ∧ ((a2 / 10000)).toInt ≤ 30) (r3 : 1 ≤ ((((a2 / 100)) - ((a2 / 100)) / 100 * 100)).toInt ∧ ((((a2 / 100)) - ((a2 / 100)) / 100 * 100)).toInt ≤ 60) : mi_P 101 201 [.int a1, .int a2, .int a3] := by
  have bx := Int32.toInt_lt a2
  have cx := Int32.le_toInt a2
  have by_ := Int32.toInt_lt (a2 - a2 / 100 * 100)
  refine ⟨.int (-1), mi_G, mi_G, (mi_h101, mi_c101), (mi_h201, mi_c201), 2, 2, rfl, rfl, rfl, by decide, by decide, ?_, ?_⟩
  · refine mi_met_of (y := 101) (q := (mi_h101, mi_c101)) rfl (by decide) (Nat.le_of_ble_eq_true rfl) ?_
    refine mi_sem_steps mi_in101 (mi_calok_none _ _) 15 _ (23, [(6, .int ((a2 - a2 / 100 * 100))), (5, .int ((((a2 / 100)) - ((a2 / 100)) / 100 * 100))), (4, .int ((a2 / 10000))), (0, .ref 0), (1, .int a1), (2, .int a2), (3, .int a3)], [.int a2], (0, 0), mi_G) (by rfl) ?_
    refine mi_sem_b mi_in101 (decide (a2 < 0)) false (mi_ltF (0) (by decide) (by omega)) 59 26 ([(6, .int ((a2 - a2 / 100 * 100))), (5, .int ((((a2 / 100)) - ((a2 / 100)) / 100 * 100))), (4, .int ((a2 / 10000))), (0, .ref 0), (1, .int a1), (2, .int a2), (3, .int a3)], [], (0, 0), mi_G) (by rfl) ?_
    refine mi_sem_steps mi_in101 (mi_calok_none _ _) 3 _ (31, [(6, .int ((a2 - a2 / 100 * 100))), (5, .int ((((a2 / 100)) - ((a2 / 100)) / 100 * 100))), (4, .int ((a2 / 10000))), (0, .ref 0), (1, .int a1), (2, .int a2), (3, .int a3)], [.int 30, .int 1, .int ((a2 / 10000))], (0, 0), mi_G) (by rfl) ?_
    have hM47 : mi_Met mi_N0 1 mi_h120 [.int ((a2 / 10000)), .int 1, .int 30] mi_G (some (.int 1)) mi_G := by
      refine mi_met_of (y := 120) (q := (mi_h120, mi_c120)) rfl (by decide) (Nat.le_of_ble_eq_true rfl) ?_
      refine mi_sem_steps mi_in120 (mi_calok_none _ _) 2 _ (2, [(0, .int ((a2 / 10000))), (1, .int 1), (2, .int 30)], [.int 1, .int ((a2 / 10000))], (0, 0), mi_G) (by rfl) ?_
      refine mi_sem_b mi_in120 (decide (((a2 / 10000)) < 1)) false (mi_ltF (1) (by decide) (by omega)) 14 5 ([(0, .int ((a2 / 10000))), (1, .int 1), (2, .int 30)], [], (0, 0), mi_G) (by rfl) ?_
      refine mi_sem_steps mi_in120 (mi_calok_none _ _) 2 _ (7, [(0, .int ((a2 / 10000))), (1, .int 1), (2, .int 30)], [.int 30, .int ((a2 / 10000))], (0, 0), mi_G) (by rfl) ?_
      refine mi_sem_b mi_in120 (decide (30 < ((a2 / 10000)))) false (mi_ltF2 (30) (by decide) (by omega)) 14 10 ([(0, .int ((a2 / 10000))), (1, .int 1), (2, .int 30)], [], (0, 0), mi_G) (by rfl) ?_
      refine mi_sem_steps mi_in120 (mi_calok_none _ _) 2 _ (15, [(0, .int ((a2 / 10000))), (1, .int 1), (2, .int 30)], [.int 1], (0, 0), mi_G) (by rfl) ?_
      exact mi_sem_ret (cal := fun _ _ _ => none) mi_in120 (by rfl)
    refine mi_sem_call mi_in101 (i := (.invokestatic 74, 3, 120, 0, 9, 0, 152)) (by rfl) (by rfl) hM47 (by decide) ⟨Nat.le_of_ble_eq_true rfl, Nat.le_of_ble_eq_true rfl⟩ ?_
    refine mi_sem_steps mi_in101 (mi_calok_none _ _) 4 _ (42, [(6, .int ((a2 - a2 / 100 * 100))), (5, .int ((((a2 / 100)) - ((a2 / 100)) / 100 * 100))), (4, .int ((a2 / 10000))), (0, .ref 0), (1, .int a1), (2, .int a2), (3, .int a3)], [.int 60, .int 1, .int ((((a2 / 100)) - ((a2 / 100)) / 100 * 100))], (0, 0), mi_G) (by rfl) ?_
    have hM48 : mi_Met mi_N0 1 mi_h120 [.int ((((a2 / 100)) - ((a2 / 100)) / 100 * 100)), .int 1, .int 60] mi_G (some (.int 1)) mi_G := by
      refine mi_met_of (y := 120) (q := (mi_h120, mi_c120)) rfl (by decide) (Nat.le_of_ble_eq_true rfl) ?_
      refine mi_sem_steps mi_in120 (mi_calok_none _ _) 2 _ (2, [(0, .int ((((a2 / 100)) - ((a2 / 100)) / 100 * 100))), (1, .int 1), (2, .int 60)], [.int 1, .int ((((a2 / 100)) - ((a2 / 100)) / 100 * 100))], (0, 0), mi_G) (by rfl) ?_
      refine mi_sem_b mi_in120 (decide (((((a2 / 100)) - ((a2 / 100)) / 100 * 100)) < 1)) false (mi_ltF (1) (by decide) (by omega)) 14 5 ([(0, .int ((((a2 / 100)) - ((a2 / 100)) / 100 * 100))), (1, .int 1), (2, .int 60)], [], (0, 0), mi_G) (by rfl) ?_
      refine mi_sem_steps mi_in120 (mi_calok_none _ _) 2 _ (7, [(0, .int ((((a2 / 100)) - ((a2 / 100)) / 100 * 100))), (1, .int 1), (2, .int 60)], [.int 60, .int ((((a2 / 100)) - ((a2 / 100)) / 100 * 100))], (0, 0), mi_G) (by rfl) ?_
      refine mi_sem_b mi_in120 (decide (60 < ((((a2 / 100)) - ((a2 / 100)) / 100 * 100)))) false (mi_ltF2 (60) (by decide) (by omega)) 14 10 ([(0, .int ((((a2 / 100)) - ((a2 / 100)) / 100 * 100))), (1, .int 1), (2, .int 60)], [], (0, 0), mi_G) (by rfl) ?_
      refine mi_sem_steps mi_in120 (mi_calok_none _ _) 2 _ (15, [(0, .int ((((a2 / 100)) - ((a2 / 100)) / 100 * 100))), (1, .int 1), (2, .int 60)], [.int 1], (0, 0), mi_G) (by rfl) ?_
      exact mi_sem_ret (cal := fun _ _ _ => none) mi_in120 (by rfl)
    refine mi_sem_call mi_in101 (i := (.invokestatic 74, 3, 120, 0, 9, 0, 152)) (by rfl) (by rfl) hM48 (by decide) ⟨Nat.le_of_ble_eq_true rfl, Nat.le_of_ble_eq_true rfl⟩ ?_
    refine mi_sem_steps mi_in101 (mi_calok_none _ _) 4 _ (53, [(6, .int ((a2 - a2 / 100 * 100))), (5, .int ((((a2 / 100)) - ((a2 / 100)) / 100 * 100))), (4, .int ((a2 / 10000))), (0, .ref 0), (1, .int a1), (2, .int a2), (3, .int a3)], [.int 12, .int 0, .int ((a2 - a2 / 100 * 100))], (0, 0), mi_G) (by rfl) ?_
    have hM49 : mi_Met mi_N0 1 mi_h120 [.int ((a2 - a2 / 100 * 100)), .int 0, .int 12] mi_G (some (.int 0)) mi_G := by
      refine mi_met_of (y := 120) (q := (mi_h120, mi_c120)) rfl (by decide) (Nat.le_of_ble_eq_true rfl) ?_
      refine mi_sem_steps mi_in120 (mi_calok_none _ _) 2 _ (2, [(0, .int ((a2 - a2 / 100 * 100))), (1, .int 0), (2, .int 12)], [.int 0, .int ((a2 - a2 / 100 * 100))], (0, 0), mi_G) (by rfl) ?_
      refine mi_sem_b mi_in120 (decide (((a2 - a2 / 100 * 100)) < 0)) false (mi_ltF (0) (by decide) (by omega)) 14 5 ([(0, .int ((a2 - a2 / 100 * 100))), (1, .int 0), (2, .int 12)], [], (0, 0), mi_G) (by rfl) ?_
      refine mi_sem_steps mi_in120 (mi_calok_none _ _) 2 _ (7, [(0, .int ((a2 - a2 / 100 * 100))), (1, .int 0), (2, .int 12)], [.int 12, .int ((a2 - a2 / 100 * 100))], (0, 0), mi_G) (by rfl) ?_
      refine mi_sem_b mi_in120 (decide (12 < ((a2 - a2 / 100 * 100)))) true (mi_ltT2 (12) (by decide) (by omega)) 14 10 ([(0, .int ((a2 - a2 / 100 * 100))), (1, .int 0), (2, .int 12)], [], (0, 0), mi_G) (by rfl) ?_
      refine mi_sem_steps mi_in120 (mi_calok_none _ _) 1 _ (15, [(0, .int ((a2 - a2 / 100 * 100))), (1, .int 0), (2, .int 12)], [.int 0], (0, 0), mi_G) (by rfl) ?_
      exact mi_sem_ret (cal := fun _ _ _ => none) mi_in120 (by rfl)
    refine mi_sem_call mi_in101 (i := (.invokestatic 74, 3, 120, 0, 9, 0, 152)) (by rfl) (by rfl) hM49 (by decide) ⟨Nat.le_of_ble_eq_true rfl, Nat.le_of_ble_eq_true rfl⟩ ?_
    refine mi_sem_steps mi_in101 (mi_calok_none _ _) 2 _ (60, [(6, .int ((a2 - a2 / 100 * 100))), (5, .int ((((a2 / 100)) - ((a2 / 100)) / 100 * 100))), (4, .int ((a2 / 10000))), (0, .ref 0), (1, .int a1), (2, .int a2), (3, .int a3)], [.int (-1)], (0, 0), mi_G) (by rfl) ?_
    exact mi_sem_ret (cal := fun _ _ _ => none) mi_in101 (by rfl)
  · refine mi_met_of (y := 201) (q := (mi_h201, mi_c201)) rfl (by decide) (Nat.le_of_ble_eq_true rfl) ?_
    refine mi_sem_steps mi_in201 (mi_calok_none _ _) 1 _ (1, [(0, .ref 116), (1, .int a1), (2, .int a2), (3, .int a3)], [.int a2], (0, 0), mi_G) (by rfl) ?_
    refine mi_sem_b mi_in201 (decide (a2 < 0)) false (mi_ltF (0) (by decide) (by omega)) 56 4 ([(0, .ref 116), (1, .int a1), (2, .int a2), (3, .int a3)], [], (0, 0), mi_G) (by rfl) ?_
    refine mi_sem_steps mi_in201 (mi_calok_none _ _) 5 _ (12, [(0, .ref 116), (1, .int a1), (2, .int a2), (3, .int a3)], [.int 30, .int 1, .int ((a2 / 10000))], (0, 0), mi_G) (by rfl) ?_
    have hM50 : mi_Met mi_N0 1 mi_h131 [.int ((a2 / 10000)), .int 1, .int 30] mi_G (some (.int 1)) mi_G := by
      refine mi_met_of (y := 131) (q := (mi_h131, mi_c131)) rfl (by decide) (Nat.le_of_ble_eq_true rfl) ?_
      refine mi_sem_steps mi_in131 (mi_calok_none _ _) 2 _ (2, [(0, .int ((a2 / 10000))), (1, .int 1), (2, .int 30)], [.int 1, .int ((a2 / 10000))], (0, 0), mi_G) (by rfl) ?_
      refine mi_sem_b mi_in131 (decide (((a2 / 10000)) < 1)) false (mi_ltF (1) (by decide) (by omega)) 14 5 ([(0, .int ((a2 / 10000))), (1, .int 1), (2, .int 30)], [], (0, 0), mi_G) (by rfl) ?_
      refine mi_sem_steps mi_in131 (mi_calok_none _ _) 2 _ (7, [(0, .int ((a2 / 10000))), (1, .int 1), (2, .int 30)], [.int 30, .int ((a2 / 10000))], (0, 0), mi_G) (by rfl) ?_
      refine mi_sem_b mi_in131 (decide (30 < ((a2 / 10000)))) false (mi_ltF2 (30) (by decide) (by omega)) 14 10 ([(0, .int ((a2 / 10000))), (1, .int 1), (2, .int 30)], [], (0, 0), mi_G) (by rfl) ?_
      refine mi_sem_steps mi_in131 (mi_calok_none _ _) 2 _ (15, [(0, .int ((a2 / 10000))), (1, .int 1), (2, .int 30)], [.int 1], (0, 0), mi_G) (by rfl) ?_
      exact mi_sem_ret (cal := fun _ _ _ => none) mi_in131 (by rfl)
    refine mi_sem_call mi_in201 (i := (.invokestatic 119, 3, 131, 0, 9, 0, 379)) (by rfl) (by rfl) hM50 (by decide) ⟨Nat.le_of_ble_eq_true rfl, Nat.le_of_ble_eq_true rfl⟩ ?_
    refine mi_sem_steps mi_in201 (mi_calok_none _ _) 8 _ (28, [(0, .ref 116), (1, .int a1), (2, .int a2), (3, .int a3)], [.int 60, .int 1, .int ((((a2 / 100)) - ((a2 / 100)) / 100 * 100))], (0, 0), mi_G) (by rfl) ?_
    have hM51 : mi_Met mi_N0 1 mi_h131 [.int ((((a2 / 100)) - ((a2 / 100)) / 100 * 100)), .int 1, .int 60] mi_G (some (.int 1)) mi_G := by
      refine mi_met_of (y := 131) (q := (mi_h131, mi_c131)) rfl (by decide) (Nat.le_of_ble_eq_true rfl) ?_
      refine mi_sem_steps mi_in131 (mi_calok_none _ _) 2 _ (2, [(0, .int ((((a2 / 100)) - ((a2 / 100)) / 100 * 100))), (1, .int 1), (2, .int 60)], [.int 1, .int ((((a2 / 100)) - ((a2 / 100)) / 100 * 100))], (0, 0), mi_G) (by rfl) ?_
      refine mi_sem_b mi_in131 (decide (((((a2 / 100)) - ((a2 / 100)) / 100 * 100)) < 1)) false (mi_ltF (1) (by decide) (by omega)) 14 5 ([(0, .int ((((a2 / 100)) - ((a2 / 100)) / 100 * 100))), (1, .int 1), (2, .int 60)], [], (0, 0), mi_G) (by rfl) ?_
      refine mi_sem_steps mi_in131 (mi_calok_none _ _) 2 _ (7, [(0, .int ((((a2 / 100)) - ((a2 / 100)) / 100 * 100))), (1, .int 1), (2, .int 60)], [.int 60, .int ((((a2 / 100)) - ((a2 / 100)) / 100 * 100))], (0, 0), mi_G) (by rfl) ?_
      refine mi_sem_b mi_in131 (decide (60 < ((((a2 / 100)) - ((a2 / 100)) / 100 * 100)))) false (mi_ltF2 (60) (by decide) (by omega)) 14 10 ([(0, .int ((((a2 / 100)) - ((a2 / 100)) / 100 * 100))), (1, .int 1), (2, .int 60)], [], (0, 0), mi_G) (by rfl) ?_
      refine mi_sem_steps mi_in131 (mi_calok_none _ _) 2 _ (15, [(0, .int ((((a2 / 100)) - ((a2 / 100)) / 100 * 100))), (1, .int 1), (2, .int 60)], [.int 1], (0, 0), mi_G) (by rfl) ?_
      exact mi_sem_ret (cal := fun _ _ _ => none) mi_in131 (by rfl)
    refine mi_sem_call mi_in201 (i := (.invokestatic 119, 3, 131, 0, 9, 0, 379)) (by rfl) (by rfl) hM51 (by decide) ⟨Nat.le_of_ble_eq_true rfl, Nat.le_of_ble_eq_true rfl⟩ ?_
    refine mi_sem_steps mi_in201 (mi_calok_none _ _) 5 _ (40, [(0, .ref 116), (1, .int a1), (2, .int a2), (3, .int a3)], [.int 12, .int ((a2 - a2 / 100 * 100))], (0, 0), mi_G) (by rfl) ?_
    refine mi_sem_b mi_in201 (decide (12 < ((a2 - a2 / 100 * 100)))) true (mi_ltT2 (12) (by decide) (by omega)) 56 43 ([(0, .ref 116), (1, .int a1), (2, .int a2), (3, .int a3)], [], (0, 0), mi_G) (by rfl) ?_
    refine mi_sem_steps mi_in201 (mi_calok_none _ _) 1 _ (57, [(0, .ref 116), (1, .int a1), (2, .int a2), (3, .int a3)], [.int (-1)], (0, 0), mi_G) (by rfl) ?_
    exact mi_sem_ret (cal := fun _ _ _ => none) mi_in201 (by rfl)

set_option maxRecDepth 100000 in
set_option maxHeartbeats 4000000 in
theorem mp_drawnB_6 (a1 : Int32) (a2 : Int32) (a3 : Int32) (r0 : 0 ≤ (a2).toInt ∧ (a2).toInt ≤ 2147483647) (r1 : 0 ≤ ((a2 - a2 / 100 * 100)).toInt ∧ ((a2 - a2 / 100 * 100)).toInt ≤ 2147483647) (r2 : 1 ≤ ((a2 / 10000)).toInt ∧ ((a2 / 10000)).toInt ≤ 30) (r3 : 61 ≤ ((((a2 / 100)) - ((a2 / 100)) / 100 * 100)).toInt ∧ ((((a2 / 100)) - ((a2 / 100)) / 100 * 100)).toInt ≤ 2147483647) : mi_P 101 201 [.int a1, .int a2, .int a3] := by
  have bx := Int32.toInt_lt a2
  have cx := Int32.le_toInt a2
  have by_ := Int32.toInt_lt (a2 - a2 / 100 * 100)
  refine ⟨.int (-1), mi_G, mi_G, (mi_h101, mi_c101), (mi_h201, mi_c201), 2, 2, rfl, rfl, rfl, by decide, by decide, ?_, ?_⟩
  · refine mi_met_of (y := 101) (q := (mi_h101, mi_c101)) rfl (by decide) (Nat.le_of_ble_eq_true rfl) ?_
    refine mi_sem_steps mi_in101 (mi_calok_none _ _) 15 _ (23, [(6, .int ((a2 - a2 / 100 * 100))), (5, .int ((((a2 / 100)) - ((a2 / 100)) / 100 * 100))), (4, .int ((a2 / 10000))), (0, .ref 0), (1, .int a1), (2, .int a2), (3, .int a3)], [.int a2], (0, 0), mi_G) (by rfl) ?_
    refine mi_sem_b mi_in101 (decide (a2 < 0)) false (mi_ltF (0) (by decide) (by omega)) 59 26 ([(6, .int ((a2 - a2 / 100 * 100))), (5, .int ((((a2 / 100)) - ((a2 / 100)) / 100 * 100))), (4, .int ((a2 / 10000))), (0, .ref 0), (1, .int a1), (2, .int a2), (3, .int a3)], [], (0, 0), mi_G) (by rfl) ?_
    refine mi_sem_steps mi_in101 (mi_calok_none _ _) 3 _ (31, [(6, .int ((a2 - a2 / 100 * 100))), (5, .int ((((a2 / 100)) - ((a2 / 100)) / 100 * 100))), (4, .int ((a2 / 10000))), (0, .ref 0), (1, .int a1), (2, .int a2), (3, .int a3)], [.int 30, .int 1, .int ((a2 / 10000))], (0, 0), mi_G) (by rfl) ?_
    have hM52 : mi_Met mi_N0 1 mi_h120 [.int ((a2 / 10000)), .int 1, .int 30] mi_G (some (.int 1)) mi_G := by
      refine mi_met_of (y := 120) (q := (mi_h120, mi_c120)) rfl (by decide) (Nat.le_of_ble_eq_true rfl) ?_
      refine mi_sem_steps mi_in120 (mi_calok_none _ _) 2 _ (2, [(0, .int ((a2 / 10000))), (1, .int 1), (2, .int 30)], [.int 1, .int ((a2 / 10000))], (0, 0), mi_G) (by rfl) ?_
      refine mi_sem_b mi_in120 (decide (((a2 / 10000)) < 1)) false (mi_ltF (1) (by decide) (by omega)) 14 5 ([(0, .int ((a2 / 10000))), (1, .int 1), (2, .int 30)], [], (0, 0), mi_G) (by rfl) ?_
      refine mi_sem_steps mi_in120 (mi_calok_none _ _) 2 _ (7, [(0, .int ((a2 / 10000))), (1, .int 1), (2, .int 30)], [.int 30, .int ((a2 / 10000))], (0, 0), mi_G) (by rfl) ?_
      refine mi_sem_b mi_in120 (decide (30 < ((a2 / 10000)))) false (mi_ltF2 (30) (by decide) (by omega)) 14 10 ([(0, .int ((a2 / 10000))), (1, .int 1), (2, .int 30)], [], (0, 0), mi_G) (by rfl) ?_
      refine mi_sem_steps mi_in120 (mi_calok_none _ _) 2 _ (15, [(0, .int ((a2 / 10000))), (1, .int 1), (2, .int 30)], [.int 1], (0, 0), mi_G) (by rfl) ?_
      exact mi_sem_ret (cal := fun _ _ _ => none) mi_in120 (by rfl)
    refine mi_sem_call mi_in101 (i := (.invokestatic 74, 3, 120, 0, 9, 0, 152)) (by rfl) (by rfl) hM52 (by decide) ⟨Nat.le_of_ble_eq_true rfl, Nat.le_of_ble_eq_true rfl⟩ ?_
    refine mi_sem_steps mi_in101 (mi_calok_none _ _) 4 _ (42, [(6, .int ((a2 - a2 / 100 * 100))), (5, .int ((((a2 / 100)) - ((a2 / 100)) / 100 * 100))), (4, .int ((a2 / 10000))), (0, .ref 0), (1, .int a1), (2, .int a2), (3, .int a3)], [.int 60, .int 1, .int ((((a2 / 100)) - ((a2 / 100)) / 100 * 100))], (0, 0), mi_G) (by rfl) ?_
    have hM53 : mi_Met mi_N0 1 mi_h120 [.int ((((a2 / 100)) - ((a2 / 100)) / 100 * 100)), .int 1, .int 60] mi_G (some (.int 0)) mi_G := by
      refine mi_met_of (y := 120) (q := (mi_h120, mi_c120)) rfl (by decide) (Nat.le_of_ble_eq_true rfl) ?_
      refine mi_sem_steps mi_in120 (mi_calok_none _ _) 2 _ (2, [(0, .int ((((a2 / 100)) - ((a2 / 100)) / 100 * 100))), (1, .int 1), (2, .int 60)], [.int 1, .int ((((a2 / 100)) - ((a2 / 100)) / 100 * 100))], (0, 0), mi_G) (by rfl) ?_
      refine mi_sem_b mi_in120 (decide (((((a2 / 100)) - ((a2 / 100)) / 100 * 100)) < 1)) false (mi_ltF (1) (by decide) (by omega)) 14 5 ([(0, .int ((((a2 / 100)) - ((a2 / 100)) / 100 * 100))), (1, .int 1), (2, .int 60)], [], (0, 0), mi_G) (by rfl) ?_
      refine mi_sem_steps mi_in120 (mi_calok_none _ _) 2 _ (7, [(0, .int ((((a2 / 100)) - ((a2 / 100)) / 100 * 100))), (1, .int 1), (2, .int 60)], [.int 60, .int ((((a2 / 100)) - ((a2 / 100)) / 100 * 100))], (0, 0), mi_G) (by rfl) ?_
      refine mi_sem_b mi_in120 (decide (60 < ((((a2 / 100)) - ((a2 / 100)) / 100 * 100)))) true (mi_ltT2 (60) (by decide) (by omega)) 14 10 ([(0, .int ((((a2 / 100)) - ((a2 / 100)) / 100 * 100))), (1, .int 1), (2, .int 60)], [], (0, 0), mi_G) (by rfl) ?_
      refine mi_sem_steps mi_in120 (mi_calok_none _ _) 1 _ (15, [(0, .int ((((a2 / 100)) - ((a2 / 100)) / 100 * 100))), (1, .int 1), (2, .int 60)], [.int 0], (0, 0), mi_G) (by rfl) ?_
      exact mi_sem_ret (cal := fun _ _ _ => none) mi_in120 (by rfl)
    refine mi_sem_call mi_in101 (i := (.invokestatic 74, 3, 120, 0, 9, 0, 152)) (by rfl) (by rfl) hM53 (by decide) ⟨Nat.le_of_ble_eq_true rfl, Nat.le_of_ble_eq_true rfl⟩ ?_
    refine mi_sem_steps mi_in101 (mi_calok_none _ _) 2 _ (60, [(6, .int ((a2 - a2 / 100 * 100))), (5, .int ((((a2 / 100)) - ((a2 / 100)) / 100 * 100))), (4, .int ((a2 / 10000))), (0, .ref 0), (1, .int a1), (2, .int a2), (3, .int a3)], [.int (-1)], (0, 0), mi_G) (by rfl) ?_
    exact mi_sem_ret (cal := fun _ _ _ => none) mi_in101 (by rfl)
  · refine mi_met_of (y := 201) (q := (mi_h201, mi_c201)) rfl (by decide) (Nat.le_of_ble_eq_true rfl) ?_
    refine mi_sem_steps mi_in201 (mi_calok_none _ _) 1 _ (1, [(0, .ref 116), (1, .int a1), (2, .int a2), (3, .int a3)], [.int a2], (0, 0), mi_G) (by rfl) ?_
    refine mi_sem_b mi_in201 (decide (a2 < 0)) false (mi_ltF (0) (by decide) (by omega)) 56 4 ([(0, .ref 116), (1, .int a1), (2, .int a2), (3, .int a3)], [], (0, 0), mi_G) (by rfl) ?_
    refine mi_sem_steps mi_in201 (mi_calok_none _ _) 5 _ (12, [(0, .ref 116), (1, .int a1), (2, .int a2), (3, .int a3)], [.int 30, .int 1, .int ((a2 / 10000))], (0, 0), mi_G) (by rfl) ?_
    have hM54 : mi_Met mi_N0 1 mi_h131 [.int ((a2 / 10000)), .int 1, .int 30] mi_G (some (.int 1)) mi_G := by
      refine mi_met_of (y := 131) (q := (mi_h131, mi_c131)) rfl (by decide) (Nat.le_of_ble_eq_true rfl) ?_
      refine mi_sem_steps mi_in131 (mi_calok_none _ _) 2 _ (2, [(0, .int ((a2 / 10000))), (1, .int 1), (2, .int 30)], [.int 1, .int ((a2 / 10000))], (0, 0), mi_G) (by rfl) ?_
      refine mi_sem_b mi_in131 (decide (((a2 / 10000)) < 1)) false (mi_ltF (1) (by decide) (by omega)) 14 5 ([(0, .int ((a2 / 10000))), (1, .int 1), (2, .int 30)], [], (0, 0), mi_G) (by rfl) ?_
      refine mi_sem_steps mi_in131 (mi_calok_none _ _) 2 _ (7, [(0, .int ((a2 / 10000))), (1, .int 1), (2, .int 30)], [.int 30, .int ((a2 / 10000))], (0, 0), mi_G) (by rfl) ?_
      refine mi_sem_b mi_in131 (decide (30 < ((a2 / 10000)))) false (mi_ltF2 (30) (by decide) (by omega)) 14 10 ([(0, .int ((a2 / 10000))), (1, .int 1), (2, .int 30)], [], (0, 0), mi_G) (by rfl) ?_
      refine mi_sem_steps mi_in131 (mi_calok_none _ _) 2 _ (15, [(0, .int ((a2 / 10000))), (1, .int 1), (2, .int 30)], [.int 1], (0, 0), mi_G) (by rfl) ?_
      exact mi_sem_ret (cal := fun _ _ _ => none) mi_in131 (by rfl)
    refine mi_sem_call mi_in201 (i := (.invokestatic 119, 3, 131, 0, 9, 0, 379)) (by rfl) (by rfl) hM54 (by decide) ⟨Nat.le_of_ble_eq_true rfl, Nat.le_of_ble_eq_true rfl⟩ ?_
    refine mi_sem_steps mi_in201 (mi_calok_none _ _) 8 _ (28, [(0, .ref 116), (1, .int a1), (2, .int a2), (3, .int a3)], [.int 60, .int 1, .int ((((a2 / 100)) - ((a2 / 100)) / 100 * 100))], (0, 0), mi_G) (by rfl) ?_
    have hM55 : mi_Met mi_N0 1 mi_h131 [.int ((((a2 / 100)) - ((a2 / 100)) / 100 * 100)), .int 1, .int 60] mi_G (some (.int 0)) mi_G := by
      refine mi_met_of (y := 131) (q := (mi_h131, mi_c131)) rfl (by decide) (Nat.le_of_ble_eq_true rfl) ?_
      refine mi_sem_steps mi_in131 (mi_calok_none _ _) 2 _ (2, [(0, .int ((((a2 / 100)) - ((a2 / 100)) / 100 * 100))), (1, .int 1), (2, .int 60)], [.int 1, .int ((((a2 / 100)) - ((a2 / 100)) / 100 * 100))], (0, 0), mi_G) (by rfl) ?_
      refine mi_sem_b mi_in131 (decide (((((a2 / 100)) - ((a2 / 100)) / 100 * 100)) < 1)) false (mi_ltF (1) (by decide) (by omega)) 14 5 ([(0, .int ((((a2 / 100)) - ((a2 / 100)) / 100 * 100))), (1, .int 1), (2, .int 60)], [], (0, 0), mi_G) (by rfl) ?_
      refine mi_sem_steps mi_in131 (mi_calok_none _ _) 2 _ (7, [(0, .int ((((a2 / 100)) - ((a2 / 100)) / 100 * 100))), (1, .int 1), (2, .int 60)], [.int 60, .int ((((a2 / 100)) - ((a2 / 100)) / 100 * 100))], (0, 0), mi_G) (by rfl) ?_
      refine mi_sem_b mi_in131 (decide (60 < ((((a2 / 100)) - ((a2 / 100)) / 100 * 100)))) true (mi_ltT2 (60) (by decide) (by omega)) 14 10 ([(0, .int ((((a2 / 100)) - ((a2 / 100)) / 100 * 100))), (1, .int 1), (2, .int 60)], [], (0, 0), mi_G) (by rfl) ?_
      refine mi_sem_steps mi_in131 (mi_calok_none _ _) 1 _ (15, [(0, .int ((((a2 / 100)) - ((a2 / 100)) / 100 * 100))), (1, .int 1), (2, .int 60)], [.int 0], (0, 0), mi_G) (by rfl) ?_
      exact mi_sem_ret (cal := fun _ _ _ => none) mi_in131 (by rfl)
    refine mi_sem_call mi_in201 (i := (.invokestatic 119, 3, 131, 0, 9, 0, 379)) (by rfl) (by rfl) hM55 (by decide) ⟨Nat.le_of_ble_eq_true rfl, Nat.le_of_ble_eq_true rfl⟩ ?_
    refine mi_sem_steps mi_in201 (mi_calok_none _ _) 2 _ (57, [(0, .ref 116), (1, .int a1), (2, .int a2), (3, .int a3)], [.int (-1)], (0, 0), mi_G) (by rfl) ?_
    exact mi_sem_ret (cal := fun _ _ _ => none) mi_in201 (by rfl)

set_option maxRecDepth 100000 in
set_option maxHeartbeats 4000000 in
theorem mp_drawnB_7 (a1 : Int32) (a2 : Int32) (a3 : Int32) (r0 : 0 ≤ (a2).toInt ∧ (a2).toInt ≤ 2147483647) (r1 : 0 ≤ ((a2 - a2 / 100 * 100)).toInt ∧ ((a2 - a2 / 100 * 100)).toInt ≤ 2147483647) (r2 : 31 ≤ ((a2 / 10000)).toInt ∧ ((a2 / 10000)).toInt ≤ 2147483647) : mi_P 101 201 [.int a1, .int a2, .int a3] := by
  have bx := Int32.toInt_lt a2
  have cx := Int32.le_toInt a2
  have by_ := Int32.toInt_lt (a2 - a2 / 100 * 100)
  refine ⟨.int (-1), mi_G, mi_G, (mi_h101, mi_c101), (mi_h201, mi_c201), 2, 2, rfl, rfl, rfl, by decide, by decide, ?_, ?_⟩
  · refine mi_met_of (y := 101) (q := (mi_h101, mi_c101)) rfl (by decide) (Nat.le_of_ble_eq_true rfl) ?_
    refine mi_sem_steps mi_in101 (mi_calok_none _ _) 15 _ (23, [(6, .int ((a2 - a2 / 100 * 100))), (5, .int ((((a2 / 100)) - ((a2 / 100)) / 100 * 100))), (4, .int ((a2 / 10000))), (0, .ref 0), (1, .int a1), (2, .int a2), (3, .int a3)], [.int a2], (0, 0), mi_G) (by rfl) ?_
    refine mi_sem_b mi_in101 (decide (a2 < 0)) false (mi_ltF (0) (by decide) (by omega)) 59 26 ([(6, .int ((a2 - a2 / 100 * 100))), (5, .int ((((a2 / 100)) - ((a2 / 100)) / 100 * 100))), (4, .int ((a2 / 10000))), (0, .ref 0), (1, .int a1), (2, .int a2), (3, .int a3)], [], (0, 0), mi_G) (by rfl) ?_
    refine mi_sem_steps mi_in101 (mi_calok_none _ _) 3 _ (31, [(6, .int ((a2 - a2 / 100 * 100))), (5, .int ((((a2 / 100)) - ((a2 / 100)) / 100 * 100))), (4, .int ((a2 / 10000))), (0, .ref 0), (1, .int a1), (2, .int a2), (3, .int a3)], [.int 30, .int 1, .int ((a2 / 10000))], (0, 0), mi_G) (by rfl) ?_
    have hM56 : mi_Met mi_N0 1 mi_h120 [.int ((a2 / 10000)), .int 1, .int 30] mi_G (some (.int 0)) mi_G := by
      refine mi_met_of (y := 120) (q := (mi_h120, mi_c120)) rfl (by decide) (Nat.le_of_ble_eq_true rfl) ?_
      refine mi_sem_steps mi_in120 (mi_calok_none _ _) 2 _ (2, [(0, .int ((a2 / 10000))), (1, .int 1), (2, .int 30)], [.int 1, .int ((a2 / 10000))], (0, 0), mi_G) (by rfl) ?_
      refine mi_sem_b mi_in120 (decide (((a2 / 10000)) < 1)) false (mi_ltF (1) (by decide) (by omega)) 14 5 ([(0, .int ((a2 / 10000))), (1, .int 1), (2, .int 30)], [], (0, 0), mi_G) (by rfl) ?_
      refine mi_sem_steps mi_in120 (mi_calok_none _ _) 2 _ (7, [(0, .int ((a2 / 10000))), (1, .int 1), (2, .int 30)], [.int 30, .int ((a2 / 10000))], (0, 0), mi_G) (by rfl) ?_
      refine mi_sem_b mi_in120 (decide (30 < ((a2 / 10000)))) true (mi_ltT2 (30) (by decide) (by omega)) 14 10 ([(0, .int ((a2 / 10000))), (1, .int 1), (2, .int 30)], [], (0, 0), mi_G) (by rfl) ?_
      refine mi_sem_steps mi_in120 (mi_calok_none _ _) 1 _ (15, [(0, .int ((a2 / 10000))), (1, .int 1), (2, .int 30)], [.int 0], (0, 0), mi_G) (by rfl) ?_
      exact mi_sem_ret (cal := fun _ _ _ => none) mi_in120 (by rfl)
    refine mi_sem_call mi_in101 (i := (.invokestatic 74, 3, 120, 0, 9, 0, 152)) (by rfl) (by rfl) hM56 (by decide) ⟨Nat.le_of_ble_eq_true rfl, Nat.le_of_ble_eq_true rfl⟩ ?_
    refine mi_sem_steps mi_in101 (mi_calok_none _ _) 2 _ (60, [(6, .int ((a2 - a2 / 100 * 100))), (5, .int ((((a2 / 100)) - ((a2 / 100)) / 100 * 100))), (4, .int ((a2 / 10000))), (0, .ref 0), (1, .int a1), (2, .int a2), (3, .int a3)], [.int (-1)], (0, 0), mi_G) (by rfl) ?_
    exact mi_sem_ret (cal := fun _ _ _ => none) mi_in101 (by rfl)
  · refine mi_met_of (y := 201) (q := (mi_h201, mi_c201)) rfl (by decide) (Nat.le_of_ble_eq_true rfl) ?_
    refine mi_sem_steps mi_in201 (mi_calok_none _ _) 1 _ (1, [(0, .ref 116), (1, .int a1), (2, .int a2), (3, .int a3)], [.int a2], (0, 0), mi_G) (by rfl) ?_
    refine mi_sem_b mi_in201 (decide (a2 < 0)) false (mi_ltF (0) (by decide) (by omega)) 56 4 ([(0, .ref 116), (1, .int a1), (2, .int a2), (3, .int a3)], [], (0, 0), mi_G) (by rfl) ?_
    refine mi_sem_steps mi_in201 (mi_calok_none _ _) 5 _ (12, [(0, .ref 116), (1, .int a1), (2, .int a2), (3, .int a3)], [.int 30, .int 1, .int ((a2 / 10000))], (0, 0), mi_G) (by rfl) ?_
    have hM57 : mi_Met mi_N0 1 mi_h131 [.int ((a2 / 10000)), .int 1, .int 30] mi_G (some (.int 0)) mi_G := by
      refine mi_met_of (y := 131) (q := (mi_h131, mi_c131)) rfl (by decide) (Nat.le_of_ble_eq_true rfl) ?_
      refine mi_sem_steps mi_in131 (mi_calok_none _ _) 2 _ (2, [(0, .int ((a2 / 10000))), (1, .int 1), (2, .int 30)], [.int 1, .int ((a2 / 10000))], (0, 0), mi_G) (by rfl) ?_
      refine mi_sem_b mi_in131 (decide (((a2 / 10000)) < 1)) false (mi_ltF (1) (by decide) (by omega)) 14 5 ([(0, .int ((a2 / 10000))), (1, .int 1), (2, .int 30)], [], (0, 0), mi_G) (by rfl) ?_
      refine mi_sem_steps mi_in131 (mi_calok_none _ _) 2 _ (7, [(0, .int ((a2 / 10000))), (1, .int 1), (2, .int 30)], [.int 30, .int ((a2 / 10000))], (0, 0), mi_G) (by rfl) ?_
      refine mi_sem_b mi_in131 (decide (30 < ((a2 / 10000)))) true (mi_ltT2 (30) (by decide) (by omega)) 14 10 ([(0, .int ((a2 / 10000))), (1, .int 1), (2, .int 30)], [], (0, 0), mi_G) (by rfl) ?_
      refine mi_sem_steps mi_in131 (mi_calok_none _ _) 1 _ (15, [(0, .int ((a2 / 10000))), (1, .int 1), (2, .int 30)], [.int 0], (0, 0), mi_G) (by rfl) ?_
      exact mi_sem_ret (cal := fun _ _ _ => none) mi_in131 (by rfl)
    refine mi_sem_call mi_in201 (i := (.invokestatic 119, 3, 131, 0, 9, 0, 379)) (by rfl) (by rfl) hM57 (by decide) ⟨Nat.le_of_ble_eq_true rfl, Nat.le_of_ble_eq_true rfl⟩ ?_
    refine mi_sem_steps mi_in201 (mi_calok_none _ _) 2 _ (57, [(0, .ref 116), (1, .int a1), (2, .int a2), (3, .int a3)], [.int (-1)], (0, 0), mi_G) (by rfl) ?_
    exact mi_sem_ret (cal := fun _ _ _ => none) mi_in201 (by rfl)

set_option maxRecDepth 100000 in
set_option maxHeartbeats 4000000 in
theorem mp_drawnB (a1 : Int32) (a2 : Int32) (a3 : Int32) (pre2 : 0 ≤ a2.toInt) (pre3 : 0 ≤ ((a2 - a2 / 100 * 100)).toInt) : mi_P 101 201 [.int a1, .int a2, .int a3] := by
  have bx := Int32.toInt_lt a2
  have cx := Int32.le_toInt a2
  have by_ := Int32.toInt_lt (a2 - a2 / 100 * 100)
  have b0 := Int32.toInt_lt ((((a2 / 100)) - ((a2 / 100)) / 100 * 100))
  have c0 := Int32.le_toInt ((((a2 / 100)) - ((a2 / 100)) / 100 * 100))
  have b1 := Int32.toInt_lt ((a2 - a2 / 100 * 100))
  have c1 := Int32.le_toInt ((a2 - a2 / 100 * 100))
  have b2 := Int32.toInt_lt ((a2 / 10000))
  have c2 := Int32.le_toInt ((a2 / 10000))
  have b3 := Int32.toInt_lt (a3)
  have c3 := Int32.le_toInt (a3)
  rcases Int.lt_or_le ((a2 / 10000)).toInt 1 with _hh | _hh
  ·
    exact mp_drawnB_0 a1 a2 a3 ⟨by omega, by omega⟩ ⟨by omega, by omega⟩ ⟨by omega, by omega⟩
  ·
    rcases Int.lt_or_le ((a2 / 10000)).toInt 31 with _hh | _hh
    ·
      rcases Int.lt_or_le ((((a2 / 100)) - ((a2 / 100)) / 100 * 100)).toInt 1 with _hh | _hh
      ·
        exact mp_drawnB_1 a1 a2 a3 ⟨by omega, by omega⟩ ⟨by omega, by omega⟩ ⟨by omega, by omega⟩ ⟨by omega, by omega⟩
      ·
        rcases Int.lt_or_le ((((a2 / 100)) - ((a2 / 100)) / 100 * 100)).toInt 61 with _hh | _hh
        ·
          rcases Int.lt_or_le ((a2 - a2 / 100 * 100)).toInt 13 with _hh | _hh
          ·
            rcases Int.lt_or_le (a3).toInt (-1) with _hh | _hh
            ·
              exact mp_drawnB_2 a1 a2 a3 ⟨by omega, by omega⟩ ⟨by omega, by omega⟩ ⟨by omega, by omega⟩ ⟨by omega, by omega⟩ ⟨by omega, by omega⟩
            ·
              rcases Int.lt_or_le (a3).toInt 0 with _hh | _hh
              ·
                have e_a3 : a3 = (-1) := Int32.toInt_inj.mp ((by omega : (a3).toInt = -1).trans (by decide))
                subst e_a3
                exact mp_drawnB_3 a1 a2 ⟨by omega, by omega⟩ ⟨by omega, by omega⟩ ⟨by omega, by omega⟩ ⟨by omega, by omega⟩
              ·
                exact mp_drawnB_4 a1 a2 a3 ⟨by omega, by omega⟩ ⟨by omega, by omega⟩ ⟨by omega, by omega⟩ ⟨by omega, by omega⟩ ⟨by omega, by omega⟩
          ·
            exact mp_drawnB_5 a1 a2 a3 ⟨by omega, by omega⟩ ⟨by omega, by omega⟩ ⟨by omega, by omega⟩ ⟨by omega, by omega⟩
        ·
          exact mp_drawnB_6 a1 a2 a3 ⟨by omega, by omega⟩ ⟨by omega, by omega⟩ ⟨by omega, by omega⟩ ⟨by omega, by omega⟩
    ·
      exact mp_drawnB_7 a1 a2 a3 ⟨by omega, by omega⟩ ⟨by omega, by omega⟩ ⟨by omega, by omega⟩

theorem mp_drawn (a1 a2 a3 : Int32) : mi_P 101 201 [.int a1, .int a2, .int a3] := by
  rcases Int.lt_or_le a2.toInt 0 with h | h
  · exact mp_drawnA a1 a2 a3 (by omega)
  · exact mp_drawnB a1 a2 a3 h (mi_rem100 h)
