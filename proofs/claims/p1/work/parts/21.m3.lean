set_option maxRecDepth 100000 in
set_option maxHeartbeats 4000000 in
theorem mp_onceMore_0 (a1 : Int32) (a2 : Int32) (a3 : Int32) (r0 : (-2147483648) ≤ (a2).toInt ∧ (a2).toInt ≤ (-1)) (r1 : (-2147483648) ≤ (a1).toInt ∧ (a1).toInt ≤ (-1)) : mi_P 91 180 [.int a1, .int a2, .int a3] := by
  refine ⟨.int (-1), mi_G, mi_G, (mi_h91, mi_c91), (mi_h180, mi_c180), 3, 3, rfl, rfl, rfl, by decide, by decide, ?_, ?_⟩
  · refine mi_met_of (y := 91) (q := (mi_h91, mi_c91)) rfl (by decide) (Nat.le_of_ble_eq_true rfl) ?_
    refine mi_sem_steps mi_in91 (mi_calok_none _ _) 2 _ (2, [(0, .ref 0), (1, .int a1), (2, .int a2), (3, .int a3)], [.int a2, .ref 0], (0, 0), mi_G) (by rfl) ?_
    have hM693 : mi_Met mi_N0 2 mi_h123 [.ref 0, .int a2] mi_G (some (.int 0)) mi_G := by
      refine mi_met_of (y := 123) (q := (mi_h123, mi_c123)) rfl (by decide) (Nat.le_of_ble_eq_true rfl) ?_
      refine mi_sem_steps mi_in123 (mi_calok_none _ _) 3 _ (5, [(0, .ref 0), (1, .int a2)], [.int a2, .ref 1], (0, 0), mi_G) (by rfl) ?_
      have hM692 : mi_Met mi_N0 1 mi_h24 [.ref 1, .int a2] mi_G (some (.int 0)) mi_G := by
        refine mi_met_of (y := 24) (q := (mi_h24, mi_c24)) rfl (by decide) (Nat.le_of_ble_eq_true rfl) ?_
        refine mi_sem_steps mi_in24 (mi_calok_none _ _) 1 _ (1, [(0, .ref 1), (1, .int a2)], [.int a2], (0, 0), mi_G) (by rfl) ?_
        refine mi_sem_b mi_in24 (decide (a2 < 0)) true (mi_ltT (0) (by decide) (by omega)) 22 4 ([(0, .ref 1), (1, .int a2)], [], (0, 0), mi_G) (by rfl) ?_
        refine mi_sem_steps mi_in24 (mi_calok_none _ _) 1 _ (23, [(0, .ref 1), (1, .int a2)], [.int 0], (0, 0), mi_G) (by rfl) ?_
        exact mi_sem_ret (cal := fun _ _ _ => none) mi_in24 (by rfl)
      refine mi_sem_call mi_in123 (i := (.invokevirtual 342, 3, 24, 0, 9, 0, 163)) (by rfl) (by rfl) hM692 (by decide) ⟨Nat.le_of_ble_eq_true rfl, Nat.le_of_ble_eq_true rfl⟩ ?_
      exact mi_sem_ret (cal := fun _ _ _ => none) mi_in123 (by rfl)
    refine mi_sem_call mi_in91 (i := (.invokevirtual 141, 3, 123, 0, 9, 0, 162)) (by rfl) (by rfl) hM693 (by decide) ⟨Nat.le_of_ble_eq_true rfl, Nat.le_of_ble_eq_true rfl⟩ ?_
    refine mi_sem_steps mi_in91 (mi_calok_none _ _) 2 _ (18, [(0, .ref 0), (1, .int a1), (2, .int a2), (3, .int a3)], [.int (-1)], (0, 0), mi_G) (by rfl) ?_
    exact mi_sem_ret (cal := fun _ _ _ => none) mi_in91 (by rfl)
  · refine mi_met_of (y := 180) (q := (mi_h180, mi_c180)) rfl (by decide) (Nat.le_of_ble_eq_true rfl) ?_
    refine mi_sem_steps mi_in180 (mi_calok_none _ _) 1 _ (1, [(0, .ref 116), (1, .int a1), (2, .int a2), (3, .int a3)], [.int a1], (0, 0), mi_G) (by rfl) ?_
    have hM695 : mi_Met mi_N0 2 mi_h133 [.int a1] mi_G (some (.int 0)) mi_G := by
      refine mi_met_of (y := 133) (q := (mi_h133, mi_c133)) rfl (by decide) (Nat.le_of_ble_eq_true rfl) ?_
      refine mi_sem_steps mi_in133 (mi_calok_none _ _) 3 _ (3, [(0, .int a1)], [.int 5, .int 0, .int a1], (0, 0), mi_G) (by rfl) ?_
      have hM694 : mi_Met mi_N0 1 mi_h131 [.int a1, .int 0, .int 5] mi_G (some (.int 0)) mi_G := by
        refine mi_met_of (y := 131) (q := (mi_h131, mi_c131)) rfl (by decide) (Nat.le_of_ble_eq_true rfl) ?_
        refine mi_sem_steps mi_in131 (mi_calok_none _ _) 2 _ (2, [(0, .int a1), (1, .int 0), (2, .int 5)], [.int 0, .int a1], (0, 0), mi_G) (by rfl) ?_
        refine mi_sem_b mi_in131 (decide (a1 < 0)) true (mi_ltT (0) (by decide) (by omega)) 14 5 ([(0, .int a1), (1, .int 0), (2, .int 5)], [], (0, 0), mi_G) (by rfl) ?_
        refine mi_sem_steps mi_in131 (mi_calok_none _ _) 1 _ (15, [(0, .int a1), (1, .int 0), (2, .int 5)], [.int 0], (0, 0), mi_G) (by rfl) ?_
        exact mi_sem_ret (cal := fun _ _ _ => none) mi_in131 (by rfl)
      refine mi_sem_call mi_in133 (i := (.invokestatic 119, 3, 131, 0, 9, 0, 379)) (by rfl) (by rfl) hM694 (by decide) ⟨Nat.le_of_ble_eq_true rfl, Nat.le_of_ble_eq_true rfl⟩ ?_
      exact mi_sem_ret (cal := fun _ _ _ => none) mi_in133 (by rfl)
    refine mi_sem_call mi_in180 (i := (.invokestatic 127, 3, 133, 0, 9, 0, 382)) (by rfl) (by rfl) hM695 (by decide) ⟨Nat.le_of_ble_eq_true rfl, Nat.le_of_ble_eq_true rfl⟩ ?_
    refine mi_sem_steps mi_in180 (mi_calok_none _ _) 2 _ (25, [(0, .ref 116), (1, .int a1), (2, .int a2), (3, .int a3)], [.int (-1)], (0, 0), mi_G) (by rfl) ?_
    exact mi_sem_ret (cal := fun _ _ _ => none) mi_in180 (by rfl)

set_option maxRecDepth 100000 in
set_option maxHeartbeats 4000000 in
theorem mp_onceMore_1 (a1 : Int32) (a2 : Int32) (a3 : Int32) (r0 : (-2147483648) ≤ (a2).toInt ∧ (a2).toInt ≤ (-1)) (r1 : 0 ≤ (a1).toInt ∧ (a1).toInt ≤ 5) : mi_P 91 180 [.int a1, .int a2, .int a3] := by
  refine ⟨.int (-1), mi_G, mi_G, (mi_h91, mi_c91), (mi_h180, mi_c180), 3, 3, rfl, rfl, rfl, by decide, by decide, ?_, ?_⟩
  · refine mi_met_of (y := 91) (q := (mi_h91, mi_c91)) rfl (by decide) (Nat.le_of_ble_eq_true rfl) ?_
    refine mi_sem_steps mi_in91 (mi_calok_none _ _) 2 _ (2, [(0, .ref 0), (1, .int a1), (2, .int a2), (3, .int a3)], [.int a2, .ref 0], (0, 0), mi_G) (by rfl) ?_
    have hM699 : mi_Met mi_N0 2 mi_h123 [.ref 0, .int a2] mi_G (some (.int 0)) mi_G := by
      refine mi_met_of (y := 123) (q := (mi_h123, mi_c123)) rfl (by decide) (Nat.le_of_ble_eq_true rfl) ?_
      refine mi_sem_steps mi_in123 (mi_calok_none _ _) 3 _ (5, [(0, .ref 0), (1, .int a2)], [.int a2, .ref 1], (0, 0), mi_G) (by rfl) ?_
      have hM698 : mi_Met mi_N0 1 mi_h24 [.ref 1, .int a2] mi_G (some (.int 0)) mi_G := by
        refine mi_met_of (y := 24) (q := (mi_h24, mi_c24)) rfl (by decide) (Nat.le_of_ble_eq_true rfl) ?_
        refine mi_sem_steps mi_in24 (mi_calok_none _ _) 1 _ (1, [(0, .ref 1), (1, .int a2)], [.int a2], (0, 0), mi_G) (by rfl) ?_
        refine mi_sem_b mi_in24 (decide (a2 < 0)) true (mi_ltT (0) (by decide) (by omega)) 22 4 ([(0, .ref 1), (1, .int a2)], [], (0, 0), mi_G) (by rfl) ?_
        refine mi_sem_steps mi_in24 (mi_calok_none _ _) 1 _ (23, [(0, .ref 1), (1, .int a2)], [.int 0], (0, 0), mi_G) (by rfl) ?_
        exact mi_sem_ret (cal := fun _ _ _ => none) mi_in24 (by rfl)
      refine mi_sem_call mi_in123 (i := (.invokevirtual 342, 3, 24, 0, 9, 0, 163)) (by rfl) (by rfl) hM698 (by decide) ⟨Nat.le_of_ble_eq_true rfl, Nat.le_of_ble_eq_true rfl⟩ ?_
      exact mi_sem_ret (cal := fun _ _ _ => none) mi_in123 (by rfl)
    refine mi_sem_call mi_in91 (i := (.invokevirtual 141, 3, 123, 0, 9, 0, 162)) (by rfl) (by rfl) hM699 (by decide) ⟨Nat.le_of_ble_eq_true rfl, Nat.le_of_ble_eq_true rfl⟩ ?_
    refine mi_sem_steps mi_in91 (mi_calok_none _ _) 2 _ (18, [(0, .ref 0), (1, .int a1), (2, .int a2), (3, .int a3)], [.int (-1)], (0, 0), mi_G) (by rfl) ?_
    exact mi_sem_ret (cal := fun _ _ _ => none) mi_in91 (by rfl)
  · refine mi_met_of (y := 180) (q := (mi_h180, mi_c180)) rfl (by decide) (Nat.le_of_ble_eq_true rfl) ?_
    refine mi_sem_steps mi_in180 (mi_calok_none _ _) 1 _ (1, [(0, .ref 116), (1, .int a1), (2, .int a2), (3, .int a3)], [.int a1], (0, 0), mi_G) (by rfl) ?_
    have hM701 : mi_Met mi_N0 2 mi_h133 [.int a1] mi_G (some (.int 1)) mi_G := by
      refine mi_met_of (y := 133) (q := (mi_h133, mi_c133)) rfl (by decide) (Nat.le_of_ble_eq_true rfl) ?_
      refine mi_sem_steps mi_in133 (mi_calok_none _ _) 3 _ (3, [(0, .int a1)], [.int 5, .int 0, .int a1], (0, 0), mi_G) (by rfl) ?_
      have hM700 : mi_Met mi_N0 1 mi_h131 [.int a1, .int 0, .int 5] mi_G (some (.int 1)) mi_G := by
        refine mi_met_of (y := 131) (q := (mi_h131, mi_c131)) rfl (by decide) (Nat.le_of_ble_eq_true rfl) ?_
        refine mi_sem_steps mi_in131 (mi_calok_none _ _) 2 _ (2, [(0, .int a1), (1, .int 0), (2, .int 5)], [.int 0, .int a1], (0, 0), mi_G) (by rfl) ?_
        refine mi_sem_b mi_in131 (decide (a1 < 0)) false (mi_ltF (0) (by decide) (by omega)) 14 5 ([(0, .int a1), (1, .int 0), (2, .int 5)], [], (0, 0), mi_G) (by rfl) ?_
        refine mi_sem_steps mi_in131 (mi_calok_none _ _) 2 _ (7, [(0, .int a1), (1, .int 0), (2, .int 5)], [.int 5, .int a1], (0, 0), mi_G) (by rfl) ?_
        refine mi_sem_b mi_in131 (decide (5 < a1)) false (mi_ltF2 (5) (by decide) (by omega)) 14 10 ([(0, .int a1), (1, .int 0), (2, .int 5)], [], (0, 0), mi_G) (by rfl) ?_
        refine mi_sem_steps mi_in131 (mi_calok_none _ _) 2 _ (15, [(0, .int a1), (1, .int 0), (2, .int 5)], [.int 1], (0, 0), mi_G) (by rfl) ?_
        exact mi_sem_ret (cal := fun _ _ _ => none) mi_in131 (by rfl)
      refine mi_sem_call mi_in133 (i := (.invokestatic 119, 3, 131, 0, 9, 0, 379)) (by rfl) (by rfl) hM700 (by decide) ⟨Nat.le_of_ble_eq_true rfl, Nat.le_of_ble_eq_true rfl⟩ ?_
      exact mi_sem_ret (cal := fun _ _ _ => none) mi_in133 (by rfl)
    refine mi_sem_call mi_in180 (i := (.invokestatic 127, 3, 133, 0, 9, 0, 382)) (by rfl) (by rfl) hM701 (by decide) ⟨Nat.le_of_ble_eq_true rfl, Nat.le_of_ble_eq_true rfl⟩ ?_
    refine mi_sem_steps mi_in180 (mi_calok_none _ _) 3 _ (9, [(0, .ref 116), (1, .int a1), (2, .int a2), (3, .int a3)], [.int a2, .ref 116], (0, 0), mi_G) (by rfl) ?_
    have hM703 : mi_Met mi_N0 2 mi_h132 [.ref 116, .int a2] mi_G (some (.int 0)) mi_G := by
      refine mi_met_of (y := 132) (q := (mi_h132, mi_c132)) rfl (by decide) (Nat.le_of_ble_eq_true rfl) ?_
      refine mi_sem_steps mi_in132 (mi_calok_none _ _) 6 _ (8, [(0, .ref 116), (1, .int a2)], [.int (-1), .int 0, .int a2], (0, 0), mi_G) (by rfl) ?_
      have hM702 : mi_Met mi_N0 1 mi_h131 [.int a2, .int 0, .int (-1)] mi_G (some (.int 0)) mi_G := by
        refine mi_met_of (y := 131) (q := (mi_h131, mi_c131)) rfl (by decide) (Nat.le_of_ble_eq_true rfl) ?_
        refine mi_sem_steps mi_in131 (mi_calok_none _ _) 2 _ (2, [(0, .int a2), (1, .int 0), (2, .int (-1))], [.int 0, .int a2], (0, 0), mi_G) (by rfl) ?_
        refine mi_sem_b mi_in131 (decide (a2 < 0)) true (mi_ltT (0) (by decide) (by omega)) 14 5 ([(0, .int a2), (1, .int 0), (2, .int (-1))], [], (0, 0), mi_G) (by rfl) ?_
        refine mi_sem_steps mi_in131 (mi_calok_none _ _) 1 _ (15, [(0, .int a2), (1, .int 0), (2, .int (-1))], [.int 0], (0, 0), mi_G) (by rfl) ?_
        exact mi_sem_ret (cal := fun _ _ _ => none) mi_in131 (by rfl)
      refine mi_sem_call mi_in132 (i := (.invokestatic 119, 3, 131, 0, 9, 0, 379)) (by rfl) (by rfl) hM702 (by decide) ⟨Nat.le_of_ble_eq_true rfl, Nat.le_of_ble_eq_true rfl⟩ ?_
      exact mi_sem_ret (cal := fun _ _ _ => none) mi_in132 (by rfl)
    refine mi_sem_call mi_in180 (i := (.invokevirtual 137, 3, 132, 0, 9, 0, 387)) (by rfl) (by rfl) hM703 (by decide) ⟨Nat.le_of_ble_eq_true rfl, Nat.le_of_ble_eq_true rfl⟩ ?_
    refine mi_sem_steps mi_in180 (mi_calok_none _ _) 2 _ (25, [(0, .ref 116), (1, .int a1), (2, .int a2), (3, .int a3)], [.int (-1)], (0, 0), mi_G) (by rfl) ?_
    exact mi_sem_ret (cal := fun _ _ _ => none) mi_in180 (by rfl)

set_option maxRecDepth 100000 in
set_option maxHeartbeats 4000000 in
theorem mp_onceMore_2 (a1 : Int32) (a2 : Int32) (a3 : Int32) (r0 : (-2147483648) ≤ (a2).toInt ∧ (a2).toInt ≤ (-1)) (r1 : 6 ≤ (a1).toInt ∧ (a1).toInt ≤ 2147483647) : mi_P 91 180 [.int a1, .int a2, .int a3] := by
  refine ⟨.int (-1), mi_G, mi_G, (mi_h91, mi_c91), (mi_h180, mi_c180), 3, 3, rfl, rfl, rfl, by decide, by decide, ?_, ?_⟩
  · refine mi_met_of (y := 91) (q := (mi_h91, mi_c91)) rfl (by decide) (Nat.le_of_ble_eq_true rfl) ?_
    refine mi_sem_steps mi_in91 (mi_calok_none _ _) 2 _ (2, [(0, .ref 0), (1, .int a1), (2, .int a2), (3, .int a3)], [.int a2, .ref 0], (0, 0), mi_G) (by rfl) ?_
    have hM705 : mi_Met mi_N0 2 mi_h123 [.ref 0, .int a2] mi_G (some (.int 0)) mi_G := by
      refine mi_met_of (y := 123) (q := (mi_h123, mi_c123)) rfl (by decide) (Nat.le_of_ble_eq_true rfl) ?_
      refine mi_sem_steps mi_in123 (mi_calok_none _ _) 3 _ (5, [(0, .ref 0), (1, .int a2)], [.int a2, .ref 1], (0, 0), mi_G) (by rfl) ?_
      have hM704 : mi_Met mi_N0 1 mi_h24 [.ref 1, .int a2] mi_G (some (.int 0)) mi_G := by
        refine mi_met_of (y := 24) (q := (mi_h24, mi_c24)) rfl (by decide) (Nat.le_of_ble_eq_true rfl) ?_
        refine mi_sem_steps mi_in24 (mi_calok_none _ _) 1 _ (1, [(0, .ref 1), (1, .int a2)], [.int a2], (0, 0), mi_G) (by rfl) ?_
        refine mi_sem_b mi_in24 (decide (a2 < 0)) true (mi_ltT (0) (by decide) (by omega)) 22 4 ([(0, .ref 1), (1, .int a2)], [], (0, 0), mi_G) (by rfl) ?_
        refine mi_sem_steps mi_in24 (mi_calok_none _ _) 1 _ (23, [(0, .ref 1), (1, .int a2)], [.int 0], (0, 0), mi_G) (by rfl) ?_
        exact mi_sem_ret (cal := fun _ _ _ => none) mi_in24 (by rfl)
      refine mi_sem_call mi_in123 (i := (.invokevirtual 342, 3, 24, 0, 9, 0, 163)) (by rfl) (by rfl) hM704 (by decide) ⟨Nat.le_of_ble_eq_true rfl, Nat.le_of_ble_eq_true rfl⟩ ?_
      exact mi_sem_ret (cal := fun _ _ _ => none) mi_in123 (by rfl)
    refine mi_sem_call mi_in91 (i := (.invokevirtual 141, 3, 123, 0, 9, 0, 162)) (by rfl) (by rfl) hM705 (by decide) ⟨Nat.le_of_ble_eq_true rfl, Nat.le_of_ble_eq_true rfl⟩ ?_
    refine mi_sem_steps mi_in91 (mi_calok_none _ _) 2 _ (18, [(0, .ref 0), (1, .int a1), (2, .int a2), (3, .int a3)], [.int (-1)], (0, 0), mi_G) (by rfl) ?_
    exact mi_sem_ret (cal := fun _ _ _ => none) mi_in91 (by rfl)
  · refine mi_met_of (y := 180) (q := (mi_h180, mi_c180)) rfl (by decide) (Nat.le_of_ble_eq_true rfl) ?_
    refine mi_sem_steps mi_in180 (mi_calok_none _ _) 1 _ (1, [(0, .ref 116), (1, .int a1), (2, .int a2), (3, .int a3)], [.int a1], (0, 0), mi_G) (by rfl) ?_
    have hM707 : mi_Met mi_N0 2 mi_h133 [.int a1] mi_G (some (.int 0)) mi_G := by
      refine mi_met_of (y := 133) (q := (mi_h133, mi_c133)) rfl (by decide) (Nat.le_of_ble_eq_true rfl) ?_
      refine mi_sem_steps mi_in133 (mi_calok_none _ _) 3 _ (3, [(0, .int a1)], [.int 5, .int 0, .int a1], (0, 0), mi_G) (by rfl) ?_
      have hM706 : mi_Met mi_N0 1 mi_h131 [.int a1, .int 0, .int 5] mi_G (some (.int 0)) mi_G := by
        refine mi_met_of (y := 131) (q := (mi_h131, mi_c131)) rfl (by decide) (Nat.le_of_ble_eq_true rfl) ?_
        refine mi_sem_steps mi_in131 (mi_calok_none _ _) 2 _ (2, [(0, .int a1), (1, .int 0), (2, .int 5)], [.int 0, .int a1], (0, 0), mi_G) (by rfl) ?_
        refine mi_sem_b mi_in131 (decide (a1 < 0)) false (mi_ltF (0) (by decide) (by omega)) 14 5 ([(0, .int a1), (1, .int 0), (2, .int 5)], [], (0, 0), mi_G) (by rfl) ?_
        refine mi_sem_steps mi_in131 (mi_calok_none _ _) 2 _ (7, [(0, .int a1), (1, .int 0), (2, .int 5)], [.int 5, .int a1], (0, 0), mi_G) (by rfl) ?_
        refine mi_sem_b mi_in131 (decide (5 < a1)) true (mi_ltT2 (5) (by decide) (by omega)) 14 10 ([(0, .int a1), (1, .int 0), (2, .int 5)], [], (0, 0), mi_G) (by rfl) ?_
        refine mi_sem_steps mi_in131 (mi_calok_none _ _) 1 _ (15, [(0, .int a1), (1, .int 0), (2, .int 5)], [.int 0], (0, 0), mi_G) (by rfl) ?_
        exact mi_sem_ret (cal := fun _ _ _ => none) mi_in131 (by rfl)
      refine mi_sem_call mi_in133 (i := (.invokestatic 119, 3, 131, 0, 9, 0, 379)) (by rfl) (by rfl) hM706 (by decide) ⟨Nat.le_of_ble_eq_true rfl, Nat.le_of_ble_eq_true rfl⟩ ?_
      exact mi_sem_ret (cal := fun _ _ _ => none) mi_in133 (by rfl)
    refine mi_sem_call mi_in180 (i := (.invokestatic 127, 3, 133, 0, 9, 0, 382)) (by rfl) (by rfl) hM707 (by decide) ⟨Nat.le_of_ble_eq_true rfl, Nat.le_of_ble_eq_true rfl⟩ ?_
    refine mi_sem_steps mi_in180 (mi_calok_none _ _) 2 _ (25, [(0, .ref 116), (1, .int a1), (2, .int a2), (3, .int a3)], [.int (-1)], (0, 0), mi_G) (by rfl) ?_
    exact mi_sem_ret (cal := fun _ _ _ => none) mi_in180 (by rfl)

set_option maxRecDepth 100000 in
set_option maxHeartbeats 4000000 in
theorem mp_onceMore_3 (a1 : Int32) (a2 : Int32) (a3 : Int32) (r0 : 0 ≤ (a2).toInt ∧ (a2).toInt ≤ 2147483647) (r1 : (-2147483648) ≤ (a1).toInt ∧ (a1).toInt ≤ (-1)) : mi_P 91 180 [.int a1, .int a2, .int a3] := by
  refine ⟨.int (-1), mi_G, mi_G, (mi_h91, mi_c91), (mi_h180, mi_c180), 3, 3, rfl, rfl, rfl, by decide, by decide, ?_, ?_⟩
  · refine mi_met_of (y := 91) (q := (mi_h91, mi_c91)) rfl (by decide) (Nat.le_of_ble_eq_true rfl) ?_
    refine mi_sem_steps mi_in91 (mi_calok_none _ _) 2 _ (2, [(0, .ref 0), (1, .int a1), (2, .int a2), (3, .int a3)], [.int a2, .ref 0], (0, 0), mi_G) (by rfl) ?_
    have hM711 : mi_Met mi_N0 2 mi_h123 [.ref 0, .int a2] mi_G (some (.int 0)) mi_G := by
      refine mi_met_of (y := 123) (q := (mi_h123, mi_c123)) rfl (by decide) (Nat.le_of_ble_eq_true rfl) ?_
      refine mi_sem_steps mi_in123 (mi_calok_none _ _) 3 _ (5, [(0, .ref 0), (1, .int a2)], [.int a2, .ref 1], (0, 0), mi_G) (by rfl) ?_
      have hM710 : mi_Met mi_N0 1 mi_h24 [.ref 1, .int a2] mi_G (some (.int 0)) mi_G := by
        refine mi_met_of (y := 24) (q := (mi_h24, mi_c24)) rfl (by decide) (Nat.le_of_ble_eq_true rfl) ?_
        refine mi_sem_steps mi_in24 (mi_calok_none _ _) 1 _ (1, [(0, .ref 1), (1, .int a2)], [.int a2], (0, 0), mi_G) (by rfl) ?_
        refine mi_sem_b mi_in24 (decide (a2 < 0)) false (mi_ltF (0) (by decide) (by omega)) 22 4 ([(0, .ref 1), (1, .int a2)], [], (0, 0), mi_G) (by rfl) ?_
        refine mi_sem_steps mi_in24 (mi_calok_none _ _) 3 _ (9, [(0, .ref 1), (1, .int a2)], [.int 0, .int a2], (0, 0), mi_G) (by rfl) ?_
        refine mi_sem_b mi_in24 (decide (0 ≤ a2)) true (mi_leT2 (0) (by decide) (by omega)) 22 12 ([(0, .ref 1), (1, .int a2)], [], (0, 0), mi_G) (by rfl) ?_
        refine mi_sem_steps mi_in24 (mi_calok_none _ _) 1 _ (23, [(0, .ref 1), (1, .int a2)], [.int 0], (0, 0), mi_G) (by rfl) ?_
        exact mi_sem_ret (cal := fun _ _ _ => none) mi_in24 (by rfl)
      refine mi_sem_call mi_in123 (i := (.invokevirtual 342, 3, 24, 0, 9, 0, 163)) (by rfl) (by rfl) hM710 (by decide) ⟨Nat.le_of_ble_eq_true rfl, Nat.le_of_ble_eq_true rfl⟩ ?_
      exact mi_sem_ret (cal := fun _ _ _ => none) mi_in123 (by rfl)
    refine mi_sem_call mi_in91 (i := (.invokevirtual 141, 3, 123, 0, 9, 0, 162)) (by rfl) (by rfl) hM711 (by decide) ⟨Nat.le_of_ble_eq_true rfl, Nat.le_of_ble_eq_true rfl⟩ ?_
    refine mi_sem_steps mi_in91 (mi_calok_none _ _) 2 _ (18, [(0, .ref 0), (1, .int a1), (2, .int a2), (3, .int a3)], [.int (-1)], (0, 0), mi_G) (by rfl) ?_
    exact mi_sem_ret (cal := fun _ _ _ => none) mi_in91 (by rfl)
  · refine mi_met_of (y := 180) (q := (mi_h180, mi_c180)) rfl (by decide) (Nat.le_of_ble_eq_true rfl) ?_
    refine mi_sem_steps mi_in180 (mi_calok_none _ _) 1 _ (1, [(0, .ref 116), (1, .int a1), (2, .int a2), (3, .int a3)], [.int a1], (0, 0), mi_G) (by rfl) ?_
    have hM713 : mi_Met mi_N0 2 mi_h133 [.int a1] mi_G (some (.int 0)) mi_G := by
      refine mi_met_of (y := 133) (q := (mi_h133, mi_c133)) rfl (by decide) (Nat.le_of_ble_eq_true rfl) ?_
      refine mi_sem_steps mi_in133 (mi_calok_none _ _) 3 _ (3, [(0, .int a1)], [.int 5, .int 0, .int a1], (0, 0), mi_G) (by rfl) ?_
      have hM712 : mi_Met mi_N0 1 mi_h131 [.int a1, .int 0, .int 5] mi_G (some (.int 0)) mi_G := by
        refine mi_met_of (y := 131) (q := (mi_h131, mi_c131)) rfl (by decide) (Nat.le_of_ble_eq_true rfl) ?_
        refine mi_sem_steps mi_in131 (mi_calok_none _ _) 2 _ (2, [(0, .int a1), (1, .int 0), (2, .int 5)], [.int 0, .int a1], (0, 0), mi_G) (by rfl) ?_
        refine mi_sem_b mi_in131 (decide (a1 < 0)) true (mi_ltT (0) (by decide) (by omega)) 14 5 ([(0, .int a1), (1, .int 0), (2, .int 5)], [], (0, 0), mi_G) (by rfl) ?_
        refine mi_sem_steps mi_in131 (mi_calok_none _ _) 1 _ (15, [(0, .int a1), (1, .int 0), (2, .int 5)], [.int 0], (0, 0), mi_G) (by rfl) ?_
        exact mi_sem_ret (cal := fun _ _ _ => none) mi_in131 (by rfl)
      refine mi_sem_call mi_in133 (i := (.invokestatic 119, 3, 131, 0, 9, 0, 379)) (by rfl) (by rfl) hM712 (by decide) ⟨Nat.le_of_ble_eq_true rfl, Nat.le_of_ble_eq_true rfl⟩ ?_
      exact mi_sem_ret (cal := fun _ _ _ => none) mi_in133 (by rfl)
    refine mi_sem_call mi_in180 (i := (.invokestatic 127, 3, 133, 0, 9, 0, 382)) (by rfl) (by rfl) hM713 (by decide) ⟨Nat.le_of_ble_eq_true rfl, Nat.le_of_ble_eq_true rfl⟩ ?_
    refine mi_sem_steps mi_in180 (mi_calok_none _ _) 2 _ (25, [(0, .ref 116), (1, .int a1), (2, .int a2), (3, .int a3)], [.int (-1)], (0, 0), mi_G) (by rfl) ?_
    exact mi_sem_ret (cal := fun _ _ _ => none) mi_in180 (by rfl)

set_option maxRecDepth 100000 in
set_option maxHeartbeats 4000000 in
theorem mp_onceMore_4 (a1 : Int32) (a2 : Int32) (a3 : Int32) (r0 : 0 ≤ (a2).toInt ∧ (a2).toInt ≤ 2147483647) (r1 : 0 ≤ (a1).toInt ∧ (a1).toInt ≤ 5) : mi_P 91 180 [.int a1, .int a2, .int a3] := by
  refine ⟨.int (-1), mi_G, mi_G, (mi_h91, mi_c91), (mi_h180, mi_c180), 3, 3, rfl, rfl, rfl, by decide, by decide, ?_, ?_⟩
  · refine mi_met_of (y := 91) (q := (mi_h91, mi_c91)) rfl (by decide) (Nat.le_of_ble_eq_true rfl) ?_
    refine mi_sem_steps mi_in91 (mi_calok_none _ _) 2 _ (2, [(0, .ref 0), (1, .int a1), (2, .int a2), (3, .int a3)], [.int a2, .ref 0], (0, 0), mi_G) (by rfl) ?_
    have hM717 : mi_Met mi_N0 2 mi_h123 [.ref 0, .int a2] mi_G (some (.int 0)) mi_G := by
      refine mi_met_of (y := 123) (q := (mi_h123, mi_c123)) rfl (by decide) (Nat.le_of_ble_eq_true rfl) ?_
      refine mi_sem_steps mi_in123 (mi_calok_none _ _) 3 _ (5, [(0, .ref 0), (1, .int a2)], [.int a2, .ref 1], (0, 0), mi_G) (by rfl) ?_
      have hM716 : mi_Met mi_N0 1 mi_h24 [.ref 1, .int a2] mi_G (some (.int 0)) mi_G := by
        refine mi_met_of (y := 24) (q := (mi_h24, mi_c24)) rfl (by decide) (Nat.le_of_ble_eq_true rfl) ?_
        refine mi_sem_steps mi_in24 (mi_calok_none _ _) 1 _ (1, [(0, .ref 1), (1, .int a2)], [.int a2], (0, 0), mi_G) (by rfl) ?_
        refine mi_sem_b mi_in24 (decide (a2 < 0)) false (mi_ltF (0) (by decide) (by omega)) 22 4 ([(0, .ref 1), (1, .int a2)], [], (0, 0), mi_G) (by rfl) ?_
        refine mi_sem_steps mi_in24 (mi_calok_none _ _) 3 _ (9, [(0, .ref 1), (1, .int a2)], [.int 0, .int a2], (0, 0), mi_G) (by rfl) ?_
        refine mi_sem_b mi_in24 (decide (0 ≤ a2)) true (mi_leT2 (0) (by decide) (by omega)) 22 12 ([(0, .ref 1), (1, .int a2)], [], (0, 0), mi_G) (by rfl) ?_
        refine mi_sem_steps mi_in24 (mi_calok_none _ _) 1 _ (23, [(0, .ref 1), (1, .int a2)], [.int 0], (0, 0), mi_G) (by rfl) ?_
        exact mi_sem_ret (cal := fun _ _ _ => none) mi_in24 (by rfl)
      refine mi_sem_call mi_in123 (i := (.invokevirtual 342, 3, 24, 0, 9, 0, 163)) (by rfl) (by rfl) hM716 (by decide) ⟨Nat.le_of_ble_eq_true rfl, Nat.le_of_ble_eq_true rfl⟩ ?_
      exact mi_sem_ret (cal := fun _ _ _ => none) mi_in123 (by rfl)
    refine mi_sem_call mi_in91 (i := (.invokevirtual 141, 3, 123, 0, 9, 0, 162)) (by rfl) (by rfl) hM717 (by decide) ⟨Nat.le_of_ble_eq_true rfl, Nat.le_of_ble_eq_true rfl⟩ ?_
    refine mi_sem_steps mi_in91 (mi_calok_none _ _) 2 _ (18, [(0, .ref 0), (1, .int a1), (2, .int a2), (3, .int a3)], [.int (-1)], (0, 0), mi_G) (by rfl) ?_
    exact mi_sem_ret (cal := fun _ _ _ => none) mi_in91 (by rfl)
  · refine mi_met_of (y := 180) (q := (mi_h180, mi_c180)) rfl (by decide) (Nat.le_of_ble_eq_true rfl) ?_
    refine mi_sem_steps mi_in180 (mi_calok_none _ _) 1 _ (1, [(0, .ref 116), (1, .int a1), (2, .int a2), (3, .int a3)], [.int a1], (0, 0), mi_G) (by rfl) ?_
    have hM719 : mi_Met mi_N0 2 mi_h133 [.int a1] mi_G (some (.int 1)) mi_G := by
      refine mi_met_of (y := 133) (q := (mi_h133, mi_c133)) rfl (by decide) (Nat.le_of_ble_eq_true rfl) ?_
      refine mi_sem_steps mi_in133 (mi_calok_none _ _) 3 _ (3, [(0, .int a1)], [.int 5, .int 0, .int a1], (0, 0), mi_G) (by rfl) ?_
      have hM718 : mi_Met mi_N0 1 mi_h131 [.int a1, .int 0, .int 5] mi_G (some (.int 1)) mi_G := by
        refine mi_met_of (y := 131) (q := (mi_h131, mi_c131)) rfl (by decide) (Nat.le_of_ble_eq_true rfl) ?_
        refine mi_sem_steps mi_in131 (mi_calok_none _ _) 2 _ (2, [(0, .int a1), (1, .int 0), (2, .int 5)], [.int 0, .int a1], (0, 0), mi_G) (by rfl) ?_
        refine mi_sem_b mi_in131 (decide (a1 < 0)) false (mi_ltF (0) (by decide) (by omega)) 14 5 ([(0, .int a1), (1, .int 0), (2, .int 5)], [], (0, 0), mi_G) (by rfl) ?_
        refine mi_sem_steps mi_in131 (mi_calok_none _ _) 2 _ (7, [(0, .int a1), (1, .int 0), (2, .int 5)], [.int 5, .int a1], (0, 0), mi_G) (by rfl) ?_
        refine mi_sem_b mi_in131 (decide (5 < a1)) false (mi_ltF2 (5) (by decide) (by omega)) 14 10 ([(0, .int a1), (1, .int 0), (2, .int 5)], [], (0, 0), mi_G) (by rfl) ?_
        refine mi_sem_steps mi_in131 (mi_calok_none _ _) 2 _ (15, [(0, .int a1), (1, .int 0), (2, .int 5)], [.int 1], (0, 0), mi_G) (by rfl) ?_
        exact mi_sem_ret (cal := fun _ _ _ => none) mi_in131 (by rfl)
      refine mi_sem_call mi_in133 (i := (.invokestatic 119, 3, 131, 0, 9, 0, 379)) (by rfl) (by rfl) hM718 (by decide) ⟨Nat.le_of_ble_eq_true rfl, Nat.le_of_ble_eq_true rfl⟩ ?_
      exact mi_sem_ret (cal := fun _ _ _ => none) mi_in133 (by rfl)
    refine mi_sem_call mi_in180 (i := (.invokestatic 127, 3, 133, 0, 9, 0, 382)) (by rfl) (by rfl) hM719 (by decide) ⟨Nat.le_of_ble_eq_true rfl, Nat.le_of_ble_eq_true rfl⟩ ?_
    refine mi_sem_steps mi_in180 (mi_calok_none _ _) 3 _ (9, [(0, .ref 116), (1, .int a1), (2, .int a2), (3, .int a3)], [.int a2, .ref 116], (0, 0), mi_G) (by rfl) ?_
    have hM721 : mi_Met mi_N0 2 mi_h132 [.ref 116, .int a2] mi_G (some (.int 0)) mi_G := by
      refine mi_met_of (y := 132) (q := (mi_h132, mi_c132)) rfl (by decide) (Nat.le_of_ble_eq_true rfl) ?_
      refine mi_sem_steps mi_in132 (mi_calok_none _ _) 6 _ (8, [(0, .ref 116), (1, .int a2)], [.int (-1), .int 0, .int a2], (0, 0), mi_G) (by rfl) ?_
      have hM720 : mi_Met mi_N0 1 mi_h131 [.int a2, .int 0, .int (-1)] mi_G (some (.int 0)) mi_G := by
        refine mi_met_of (y := 131) (q := (mi_h131, mi_c131)) rfl (by decide) (Nat.le_of_ble_eq_true rfl) ?_
        refine mi_sem_steps mi_in131 (mi_calok_none _ _) 2 _ (2, [(0, .int a2), (1, .int 0), (2, .int (-1))], [.int 0, .int a2], (0, 0), mi_G) (by rfl) ?_
        refine mi_sem_b mi_in131 (decide (a2 < 0)) false (mi_ltF (0) (by decide) (by omega)) 14 5 ([(0, .int a2), (1, .int 0), (2, .int (-1))], [], (0, 0), mi_G) (by rfl) ?_
        refine mi_sem_steps mi_in131 (mi_calok_none _ _) 2 _ (7, [(0, .int a2), (1, .int 0), (2, .int (-1))], [.int (-1), .int a2], (0, 0), mi_G) (by rfl) ?_
        refine mi_sem_b mi_in131 (decide ((-1) < a2)) true (mi_ltT2 (-1) (by decide) (by omega)) 14 10 ([(0, .int a2), (1, .int 0), (2, .int (-1))], [], (0, 0), mi_G) (by rfl) ?_
        refine mi_sem_steps mi_in131 (mi_calok_none _ _) 1 _ (15, [(0, .int a2), (1, .int 0), (2, .int (-1))], [.int 0], (0, 0), mi_G) (by rfl) ?_
        exact mi_sem_ret (cal := fun _ _ _ => none) mi_in131 (by rfl)
      refine mi_sem_call mi_in132 (i := (.invokestatic 119, 3, 131, 0, 9, 0, 379)) (by rfl) (by rfl) hM720 (by decide) ⟨Nat.le_of_ble_eq_true rfl, Nat.le_of_ble_eq_true rfl⟩ ?_
      exact mi_sem_ret (cal := fun _ _ _ => none) mi_in132 (by rfl)
    refine mi_sem_call mi_in180 (i := (.invokevirtual 137, 3, 132, 0, 9, 0, 387)) (by rfl) (by rfl) hM721 (by decide) ⟨Nat.le_of_ble_eq_true rfl, Nat.le_of_ble_eq_true rfl⟩ ?_
    refine mi_sem_steps mi_in180 (mi_calok_none _ _) 2 _ (25, [(0, .ref 116), (1, .int a1), (2, .int a2), (3, .int a3)], [.int (-1)], (0, 0), mi_G) (by rfl) ?_
    exact mi_sem_ret (cal := fun _ _ _ => none) mi_in180 (by rfl)

set_option maxRecDepth 100000 in
set_option maxHeartbeats 4000000 in
theorem mp_onceMore_5 (a1 : Int32) (a2 : Int32) (a3 : Int32) (r0 : 0 ≤ (a2).toInt ∧ (a2).toInt ≤ 2147483647) (r1 : 6 ≤ (a1).toInt ∧ (a1).toInt ≤ 2147483647) : mi_P 91 180 [.int a1, .int a2, .int a3] := by
  refine ⟨.int (-1), mi_G, mi_G, (mi_h91, mi_c91), (mi_h180, mi_c180), 3, 3, rfl, rfl, rfl, by decide, by decide, ?_, ?_⟩
  · refine mi_met_of (y := 91) (q := (mi_h91, mi_c91)) rfl (by decide) (Nat.le_of_ble_eq_true rfl) ?_
    refine mi_sem_steps mi_in91 (mi_calok_none _ _) 2 _ (2, [(0, .ref 0), (1, .int a1), (2, .int a2), (3, .int a3)], [.int a2, .ref 0], (0, 0), mi_G) (by rfl) ?_
    have hM723 : mi_Met mi_N0 2 mi_h123 [.ref 0, .int a2] mi_G (some (.int 0)) mi_G := by
      refine mi_met_of (y := 123) (q := (mi_h123, mi_c123)) rfl (by decide) (Nat.le_of_ble_eq_true rfl) ?_
      refine mi_sem_steps mi_in123 (mi_calok_none _ _) 3 _ (5, [(0, .ref 0), (1, .int a2)], [.int a2, .ref 1], (0, 0), mi_G) (by rfl) ?_
      have hM722 : mi_Met mi_N0 1 mi_h24 [.ref 1, .int a2] mi_G (some (.int 0)) mi_G := by
        refine mi_met_of (y := 24) (q := (mi_h24, mi_c24)) rfl (by decide) (Nat.le_of_ble_eq_true rfl) ?_
        refine mi_sem_steps mi_in24 (mi_calok_none _ _) 1 _ (1, [(0, .ref 1), (1, .int a2)], [.int a2], (0, 0), mi_G) (by rfl) ?_
        refine mi_sem_b mi_in24 (decide (a2 < 0)) false (mi_ltF (0) (by decide) (by omega)) 22 4 ([(0, .ref 1), (1, .int a2)], [], (0, 0), mi_G) (by rfl) ?_
        refine mi_sem_steps mi_in24 (mi_calok_none _ _) 3 _ (9, [(0, .ref 1), (1, .int a2)], [.int 0, .int a2], (0, 0), mi_G) (by rfl) ?_
        refine mi_sem_b mi_in24 (decide (0 ≤ a2)) true (mi_leT2 (0) (by decide) (by omega)) 22 12 ([(0, .ref 1), (1, .int a2)], [], (0, 0), mi_G) (by rfl) ?_
        refine mi_sem_steps mi_in24 (mi_calok_none _ _) 1 _ (23, [(0, .ref 1), (1, .int a2)], [.int 0], (0, 0), mi_G) (by rfl) ?_
        exact mi_sem_ret (cal := fun _ _ _ => none) mi_in24 (by rfl)
      refine mi_sem_call mi_in123 (i := (.invokevirtual 342, 3, 24, 0, 9, 0, 163)) (by rfl) (by rfl) hM722 (by decide) ⟨Nat.le_of_ble_eq_true rfl, Nat.le_of_ble_eq_true rfl⟩ ?_
      exact mi_sem_ret (cal := fun _ _ _ => none) mi_in123 (by rfl)
    refine mi_sem_call mi_in91 (i := (.invokevirtual 141, 3, 123, 0, 9, 0, 162)) (by rfl) (by rfl) hM723 (by decide) ⟨Nat.le_of_ble_eq_true rfl, Nat.le_of_ble_eq_true rfl⟩ ?_
    refine mi_sem_steps mi_in91 (mi_calok_none _ _) 2 _ (18, [(0, .ref 0), (1, .int a1), (2, .int a2), (3, .int a3)], [.int (-1)], (0, 0), mi_G) (by rfl) ?_
    exact mi_sem_ret (cal := fun _ _ _ => none) mi_in91 (by rfl)
  · refine mi_met_of (y := 180) (q := (mi_h180, mi_c180)) rfl (by decide) (Nat.le_of_ble_eq_true rfl) ?_
    refine mi_sem_steps mi_in180 (mi_calok_none _ _) 1 _ (1, [(0, .ref 116), (1, .int a1), (2, .int a2), (3, .int a3)], [.int a1], (0, 0), mi_G) (by rfl) ?_
    have hM725 : mi_Met mi_N0 2 mi_h133 [.int a1] mi_G (some (.int 0)) mi_G := by
      refine mi_met_of (y := 133) (q := (mi_h133, mi_c133)) rfl (by decide) (Nat.le_of_ble_eq_true rfl) ?_
      refine mi_sem_steps mi_in133 (mi_calok_none _ _) 3 _ (3, [(0, .int a1)], [.int 5, .int 0, .int a1], (0, 0), mi_G) (by rfl) ?_
      have hM724 : mi_Met mi_N0 1 mi_h131 [.int a1, .int 0, .int 5] mi_G (some (.int 0)) mi_G := by
        refine mi_met_of (y := 131) (q := (mi_h131, mi_c131)) rfl (by decide) (Nat.le_of_ble_eq_true rfl) ?_
        refine mi_sem_steps mi_in131 (mi_calok_none _ _) 2 _ (2, [(0, .int a1), (1, .int 0), (2, .int 5)], [.int 0, .int a1], (0, 0), mi_G) (by rfl) ?_
        refine mi_sem_b mi_in131 (decide (a1 < 0)) false (mi_ltF (0) (by decide) (by omega)) 14 5 ([(0, .int a1), (1, .int 0), (2, .int 5)], [], (0, 0), mi_G) (by rfl) ?_
        refine mi_sem_steps mi_in131 (mi_calok_none _ _) 2 _ (7, [(0, .int a1), (1, .int 0), (2, .int 5)], [.int 5, .int a1], (0, 0), mi_G) (by rfl) ?_
        refine mi_sem_b mi_in131 (decide (5 < a1)) true (mi_ltT2 (5) (by decide) (by omega)) 14 10 ([(0, .int a1), (1, .int 0), (2, .int 5)], [], (0, 0), mi_G) (by rfl) ?_
        refine mi_sem_steps mi_in131 (mi_calok_none _ _) 1 _ (15, [(0, .int a1), (1, .int 0), (2, .int 5)], [.int 0], (0, 0), mi_G) (by rfl) ?_
        exact mi_sem_ret (cal := fun _ _ _ => none) mi_in131 (by rfl)
      refine mi_sem_call mi_in133 (i := (.invokestatic 119, 3, 131, 0, 9, 0, 379)) (by rfl) (by rfl) hM724 (by decide) ⟨Nat.le_of_ble_eq_true rfl, Nat.le_of_ble_eq_true rfl⟩ ?_
      exact mi_sem_ret (cal := fun _ _ _ => none) mi_in133 (by rfl)
    refine mi_sem_call mi_in180 (i := (.invokestatic 127, 3, 133, 0, 9, 0, 382)) (by rfl) (by rfl) hM725 (by decide) ⟨Nat.le_of_ble_eq_true rfl, Nat.le_of_ble_eq_true rfl⟩ ?_
    refine mi_sem_steps mi_in180 (mi_calok_none _ _) 2 _ (25, [(0, .ref 116), (1, .int a1), (2, .int a2), (3, .int a3)], [.int (-1)], (0, 0), mi_G) (by rfl) ?_
    exact mi_sem_ret (cal := fun _ _ _ => none) mi_in180 (by rfl)

set_option maxRecDepth 100000 in
set_option maxHeartbeats 4000000 in
theorem mp_onceMore (a1 : Int32) (a2 : Int32) (a3 : Int32) : mi_P 91 180 [.int a1, .int a2, .int a3] := by
  have b0 := Int32.toInt_lt (a1)
  have c0 := Int32.le_toInt (a1)
  have b1 := Int32.toInt_lt (a2)
  have c1 := Int32.le_toInt (a2)
  rcases Int.lt_or_le (a2).toInt 0 with _hh | _hh
  ·
    rcases Int.lt_or_le (a1).toInt 0 with _hh | _hh
    ·
      exact mp_onceMore_0 a1 a2 a3 ⟨by omega, by omega⟩ ⟨by omega, by omega⟩
    ·
      rcases Int.lt_or_le (a1).toInt 6 with _hh | _hh
      ·
        exact mp_onceMore_1 a1 a2 a3 ⟨by omega, by omega⟩ ⟨by omega, by omega⟩
      ·
        exact mp_onceMore_2 a1 a2 a3 ⟨by omega, by omega⟩ ⟨by omega, by omega⟩
  ·
    rcases Int.lt_or_le (a1).toInt 0 with _hh | _hh
    ·
      exact mp_onceMore_3 a1 a2 a3 ⟨by omega, by omega⟩ ⟨by omega, by omega⟩
    ·
      rcases Int.lt_or_le (a1).toInt 6 with _hh | _hh
      ·
        exact mp_onceMore_4 a1 a2 a3 ⟨by omega, by omega⟩ ⟨by omega, by omega⟩
      ·
        exact mp_onceMore_5 a1 a2 a3 ⟨by omega, by omega⟩ ⟨by omega, by omega⟩

set_option maxRecDepth 100000 in
set_option maxHeartbeats 4000000 in
theorem mp_hired_0 (a1 : Int32) (a2 : Int32) (a3 : Int32) (a4 : Int32) (r0 : (-2147483648) ≤ (a2).toInt ∧ (a2).toInt ≤ (-1)) (r1 : (-2147483648) ≤ (a1).toInt ∧ (a1).toInt ≤ (-1)) : mi_P 92 181 [.int a1, .int a2, .int a3, .int a4] := by
  refine ⟨.int (-1), mi_G, mi_G, (mi_h92, mi_c92), (mi_h181, mi_c181), 1, 3, rfl, rfl, rfl, by decide, by decide, ?_, ?_⟩
  · refine mi_met_of (y := 92) (q := (mi_h92, mi_c92)) rfl (by decide) (Nat.le_of_ble_eq_true rfl) ?_
    refine mi_sem_steps mi_in92 (mi_calok_none _ _) 1 _ (1, [(0, .ref 0), (1, .int a1), (2, .int a2), (3, .int a3), (4, .int a4)], [.int a2], (0, 0), mi_G) (by rfl) ?_
    refine mi_sem_b mi_in92 (decide (a2 < 0)) true (mi_ltT (0) (by decide) (by omega)) 22 4 ([(0, .ref 0), (1, .int a1), (2, .int a2), (3, .int a3), (4, .int a4)], [], (0, 0), mi_G) (by rfl) ?_
    refine mi_sem_steps mi_in92 (mi_calok_none _ _) 1 _ (23, [(0, .ref 0), (1, .int a1), (2, .int a2), (3, .int a3), (4, .int a4)], [.int (-1)], (0, 0), mi_G) (by rfl) ?_
    exact mi_sem_ret (cal := fun _ _ _ => none) mi_in92 (by rfl)
  · refine mi_met_of (y := 181) (q := (mi_h181, mi_c181)) rfl (by decide) (Nat.le_of_ble_eq_true rfl) ?_
    refine mi_sem_steps mi_in181 (mi_calok_none _ _) 1 _ (1, [(0, .ref 116), (1, .int a1), (2, .int a2), (3, .int a3), (4, .int a4)], [.int a1], (0, 0), mi_G) (by rfl) ?_
    have hM727 : mi_Met mi_N0 2 mi_h133 [.int a1] mi_G (some (.int 0)) mi_G := by
      refine mi_met_of (y := 133) (q := (mi_h133, mi_c133)) rfl (by decide) (Nat.le_of_ble_eq_true rfl) ?_
      refine mi_sem_steps mi_in133 (mi_calok_none _ _) 3 _ (3, [(0, .int a1)], [.int 5, .int 0, .int a1], (0, 0), mi_G) (by rfl) ?_
      have hM726 : mi_Met mi_N0 1 mi_h131 [.int a1, .int 0, .int 5] mi_G (some (.int 0)) mi_G := by
        refine mi_met_of (y := 131) (q := (mi_h131, mi_c131)) rfl (by decide) (Nat.le_of_ble_eq_true rfl) ?_
        refine mi_sem_steps mi_in131 (mi_calok_none _ _) 2 _ (2, [(0, .int a1), (1, .int 0), (2, .int 5)], [.int 0, .int a1], (0, 0), mi_G) (by rfl) ?_
        refine mi_sem_b mi_in131 (decide (a1 < 0)) true (mi_ltT (0) (by decide) (by omega)) 14 5 ([(0, .int a1), (1, .int 0), (2, .int 5)], [], (0, 0), mi_G) (by rfl) ?_
        refine mi_sem_steps mi_in131 (mi_calok_none _ _) 1 _ (15, [(0, .int a1), (1, .int 0), (2, .int 5)], [.int 0], (0, 0), mi_G) (by rfl) ?_
        exact mi_sem_ret (cal := fun _ _ _ => none) mi_in131 (by rfl)
      refine mi_sem_call mi_in133 (i := (.invokestatic 119, 3, 131, 0, 9, 0, 379)) (by rfl) (by rfl) hM726 (by decide) ⟨Nat.le_of_ble_eq_true rfl, Nat.le_of_ble_eq_true rfl⟩ ?_
      exact mi_sem_ret (cal := fun _ _ _ => none) mi_in133 (by rfl)
    refine mi_sem_call mi_in181 (i := (.invokestatic 127, 3, 133, 0, 9, 0, 382)) (by rfl) (by rfl) hM727 (by decide) ⟨Nat.le_of_ble_eq_true rfl, Nat.le_of_ble_eq_true rfl⟩ ?_
    refine mi_sem_steps mi_in181 (mi_calok_none _ _) 2 _ (30, [(0, .ref 116), (1, .int a1), (2, .int a2), (3, .int a3), (4, .int a4)], [.int (-1)], (0, 0), mi_G) (by rfl) ?_
    exact mi_sem_ret (cal := fun _ _ _ => none) mi_in181 (by rfl)

set_option maxRecDepth 100000 in
set_option maxHeartbeats 4000000 in
theorem mp_hired_1 (a1 : Int32) (a2 : Int32) (a3 : Int32) (a4 : Int32) (r0 : (-2147483648) ≤ (a2).toInt ∧ (a2).toInt ≤ (-1)) (r1 : 0 ≤ (a1).toInt ∧ (a1).toInt ≤ 5) : mi_P 92 181 [.int a1, .int a2, .int a3, .int a4] := by
  refine ⟨.int (-1), mi_G, mi_G, (mi_h92, mi_c92), (mi_h181, mi_c181), 1, 3, rfl, rfl, rfl, by decide, by decide, ?_, ?_⟩
  · refine mi_met_of (y := 92) (q := (mi_h92, mi_c92)) rfl (by decide) (Nat.le_of_ble_eq_true rfl) ?_
    refine mi_sem_steps mi_in92 (mi_calok_none _ _) 1 _ (1, [(0, .ref 0), (1, .int a1), (2, .int a2), (3, .int a3), (4, .int a4)], [.int a2], (0, 0), mi_G) (by rfl) ?_
    refine mi_sem_b mi_in92 (decide (a2 < 0)) true (mi_ltT (0) (by decide) (by omega)) 22 4 ([(0, .ref 0), (1, .int a1), (2, .int a2), (3, .int a3), (4, .int a4)], [], (0, 0), mi_G) (by rfl) ?_
    refine mi_sem_steps mi_in92 (mi_calok_none _ _) 1 _ (23, [(0, .ref 0), (1, .int a1), (2, .int a2), (3, .int a3), (4, .int a4)], [.int (-1)], (0, 0), mi_G) (by rfl) ?_
    exact mi_sem_ret (cal := fun _ _ _ => none) mi_in92 (by rfl)
  · refine mi_met_of (y := 181) (q := (mi_h181, mi_c181)) rfl (by decide) (Nat.le_of_ble_eq_true rfl) ?_
    refine mi_sem_steps mi_in181 (mi_calok_none _ _) 1 _ (1, [(0, .ref 116), (1, .int a1), (2, .int a2), (3, .int a3), (4, .int a4)], [.int a1], (0, 0), mi_G) (by rfl) ?_
    have hM729 : mi_Met mi_N0 2 mi_h133 [.int a1] mi_G (some (.int 1)) mi_G := by
      refine mi_met_of (y := 133) (q := (mi_h133, mi_c133)) rfl (by decide) (Nat.le_of_ble_eq_true rfl) ?_
      refine mi_sem_steps mi_in133 (mi_calok_none _ _) 3 _ (3, [(0, .int a1)], [.int 5, .int 0, .int a1], (0, 0), mi_G) (by rfl) ?_
      have hM728 : mi_Met mi_N0 1 mi_h131 [.int a1, .int 0, .int 5] mi_G (some (.int 1)) mi_G := by
        refine mi_met_of (y := 131) (q := (mi_h131, mi_c131)) rfl (by decide) (Nat.le_of_ble_eq_true rfl) ?_
        refine mi_sem_steps mi_in131 (mi_calok_none _ _) 2 _ (2, [(0, .int a1), (1, .int 0), (2, .int 5)], [.int 0, .int a1], (0, 0), mi_G) (by rfl) ?_
        refine mi_sem_b mi_in131 (decide (a1 < 0)) false (mi_ltF (0) (by decide) (by omega)) 14 5 ([(0, .int a1), (1, .int 0), (2, .int 5)], [], (0, 0), mi_G) (by rfl) ?_
        refine mi_sem_steps mi_in131 (mi_calok_none _ _) 2 _ (7, [(0, .int a1), (1, .int 0), (2, .int 5)], [.int 5, .int a1], (0, 0), mi_G) (by rfl) ?_
        refine mi_sem_b mi_in131 (decide (5 < a1)) false (mi_ltF2 (5) (by decide) (by omega)) 14 10 ([(0, .int a1), (1, .int 0), (2, .int 5)], [], (0, 0), mi_G) (by rfl) ?_
        refine mi_sem_steps mi_in131 (mi_calok_none _ _) 2 _ (15, [(0, .int a1), (1, .int 0), (2, .int 5)], [.int 1], (0, 0), mi_G) (by rfl) ?_
        exact mi_sem_ret (cal := fun _ _ _ => none) mi_in131 (by rfl)
      refine mi_sem_call mi_in133 (i := (.invokestatic 119, 3, 131, 0, 9, 0, 379)) (by rfl) (by rfl) hM728 (by decide) ⟨Nat.le_of_ble_eq_true rfl, Nat.le_of_ble_eq_true rfl⟩ ?_
      exact mi_sem_ret (cal := fun _ _ _ => none) mi_in133 (by rfl)
    refine mi_sem_call mi_in181 (i := (.invokestatic 127, 3, 133, 0, 9, 0, 382)) (by rfl) (by rfl) hM729 (by decide) ⟨Nat.le_of_ble_eq_true rfl, Nat.le_of_ble_eq_true rfl⟩ ?_
    refine mi_sem_steps mi_in181 (mi_calok_none _ _) 2 _ (8, [(0, .ref 116), (1, .int a1), (2, .int a2), (3, .int a3), (4, .int a4)], [.int a2], (0, 0), mi_G) (by rfl) ?_
    refine mi_sem_b mi_in181 (decide (a2 < 0)) true (mi_ltT (0) (by decide) (by omega)) 29 11 ([(0, .ref 116), (1, .int a1), (2, .int a2), (3, .int a3), (4, .int a4)], [], (0, 0), mi_G) (by rfl) ?_
    refine mi_sem_steps mi_in181 (mi_calok_none _ _) 1 _ (30, [(0, .ref 116), (1, .int a1), (2, .int a2), (3, .int a3), (4, .int a4)], [.int (-1)], (0, 0), mi_G) (by rfl) ?_
    exact mi_sem_ret (cal := fun _ _ _ => none) mi_in181 (by rfl)

set_option maxRecDepth 100000 in
set_option maxHeartbeats 4000000 in
theorem mp_hired_2 (a1 : Int32) (a2 : Int32) (a3 : Int32) (a4 : Int32) (r0 : (-2147483648) ≤ (a2).toInt ∧ (a2).toInt ≤ (-1)) (r1 : 6 ≤ (a1).toInt ∧ (a1).toInt ≤ 2147483647) : mi_P 92 181 [.int a1, .int a2, .int a3, .int a4] := by
  refine ⟨.int (-1), mi_G, mi_G, (mi_h92, mi_c92), (mi_h181, mi_c181), 1, 3, rfl, rfl, rfl, by decide, by decide, ?_, ?_⟩
  · refine mi_met_of (y := 92) (q := (mi_h92, mi_c92)) rfl (by decide) (Nat.le_of_ble_eq_true rfl) ?_
    refine mi_sem_steps mi_in92 (mi_calok_none _ _) 1 _ (1, [(0, .ref 0), (1, .int a1), (2, .int a2), (3, .int a3), (4, .int a4)], [.int a2], (0, 0), mi_G) (by rfl) ?_
    refine mi_sem_b mi_in92 (decide (a2 < 0)) true (mi_ltT (0) (by decide) (by omega)) 22 4 ([(0, .ref 0), (1, .int a1), (2, .int a2), (3, .int a3), (4, .int a4)], [], (0, 0), mi_G) (by rfl) ?_
    refine mi_sem_steps mi_in92 (mi_calok_none _ _) 1 _ (23, [(0, .ref 0), (1, .int a1), (2, .int a2), (3, .int a3), (4, .int a4)], [.int (-1)], (0, 0), mi_G) (by rfl) ?_
    exact mi_sem_ret (cal := fun _ _ _ => none) mi_in92 (by rfl)
  · refine mi_met_of (y := 181) (q := (mi_h181, mi_c181)) rfl (by decide) (Nat.le_of_ble_eq_true rfl) ?_
    refine mi_sem_steps mi_in181 (mi_calok_none _ _) 1 _ (1, [(0, .ref 116), (1, .int a1), (2, .int a2), (3, .int a3), (4, .int a4)], [.int a1], (0, 0), mi_G) (by rfl) ?_
    have hM731 : mi_Met mi_N0 2 mi_h133 [.int a1] mi_G (some (.int 0)) mi_G := by
      refine mi_met_of (y := 133) (q := (mi_h133, mi_c133)) rfl (by decide) (Nat.le_of_ble_eq_true rfl) ?_
      refine mi_sem_steps mi_in133 (mi_calok_none _ _) 3 _ (3, [(0, .int a1)], [.int 5, .int 0, .int a1], (0, 0), mi_G) (by rfl) ?_
      have hM730 : mi_Met mi_N0 1 mi_h131 [.int a1, .int 0, .int 5] mi_G (some (.int 0)) mi_G := by
        refine mi_met_of (y := 131) (q := (mi_h131, mi_c131)) rfl (by decide) (Nat.le_of_ble_eq_true rfl) ?_
        refine mi_sem_steps mi_in131 (mi_calok_none _ _) 2 _ (2, [(0, .int a1), (1, .int 0), (2, .int 5)], [.int 0, .int a1], (0, 0), mi_G) (by rfl) ?_
        refine mi_sem_b mi_in131 (decide (a1 < 0)) false (mi_ltF (0) (by decide) (by omega)) 14 5 ([(0, .int a1), (1, .int 0), (2, .int 5)], [], (0, 0), mi_G) (by rfl) ?_
        refine mi_sem_steps mi_in131 (mi_calok_none _ _) 2 _ (7, [(0, .int a1), (1, .int 0), (2, .int 5)], [.int 5, .int a1], (0, 0), mi_G) (by rfl) ?_
        refine mi_sem_b mi_in131 (decide (5 < a1)) true (mi_ltT2 (5) (by decide) (by omega)) 14 10 ([(0, .int a1), (1, .int 0), (2, .int 5)], [], (0, 0), mi_G) (by rfl) ?_
        refine mi_sem_steps mi_in131 (mi_calok_none _ _) 1 _ (15, [(0, .int a1), (1, .int 0), (2, .int 5)], [.int 0], (0, 0), mi_G) (by rfl) ?_
        exact mi_sem_ret (cal := fun _ _ _ => none) mi_in131 (by rfl)
      refine mi_sem_call mi_in133 (i := (.invokestatic 119, 3, 131, 0, 9, 0, 379)) (by rfl) (by rfl) hM730 (by decide) ⟨Nat.le_of_ble_eq_true rfl, Nat.le_of_ble_eq_true rfl⟩ ?_
      exact mi_sem_ret (cal := fun _ _ _ => none) mi_in133 (by rfl)
    refine mi_sem_call mi_in181 (i := (.invokestatic 127, 3, 133, 0, 9, 0, 382)) (by rfl) (by rfl) hM731 (by decide) ⟨Nat.le_of_ble_eq_true rfl, Nat.le_of_ble_eq_true rfl⟩ ?_
    refine mi_sem_steps mi_in181 (mi_calok_none _ _) 2 _ (30, [(0, .ref 116), (1, .int a1), (2, .int a2), (3, .int a3), (4, .int a4)], [.int (-1)], (0, 0), mi_G) (by rfl) ?_
    exact mi_sem_ret (cal := fun _ _ _ => none) mi_in181 (by rfl)

set_option maxRecDepth 100000 in
set_option maxHeartbeats 4000000 in
theorem mp_hired_3 (a1 : Int32) (a2 : Int32) (a3 : Int32) (a4 : Int32) (r0 : 0 ≤ (a2).toInt ∧ (a2).toInt ≤ 2147483647) (r1 : (-2147483648) ≤ (a3).toInt ∧ (a3).toInt ≤ (-1)) (r2 : (-2147483648) ≤ (a1).toInt ∧ (a1).toInt ≤ (-1)) : mi_P 92 181 [.int a1, .int a2, .int a3, .int a4] := by
  refine ⟨.int (-1), mi_G, mi_G, (mi_h92, mi_c92), (mi_h181, mi_c181), 3, 3, rfl, rfl, rfl, by decide, by decide, ?_, ?_⟩
  · refine mi_met_of (y := 92) (q := (mi_h92, mi_c92)) rfl (by decide) (Nat.le_of_ble_eq_true rfl) ?_
    refine mi_sem_steps mi_in92 (mi_calok_none _ _) 1 _ (1, [(0, .ref 0), (1, .int a1), (2, .int a2), (3, .int a3), (4, .int a4)], [.int a2], (0, 0), mi_G) (by rfl) ?_
    refine mi_sem_b mi_in92 (decide (a2 < 0)) false (mi_ltF (0) (by decide) (by omega)) 22 4 ([(0, .ref 0), (1, .int a1), (2, .int a2), (3, .int a3), (4, .int a4)], [], (0, 0), mi_G) (by rfl) ?_
    refine mi_sem_steps mi_in92 (mi_calok_none _ _) 2 _ (6, [(0, .ref 0), (1, .int a1), (2, .int a2), (3, .int a3), (4, .int a4)], [.int a3, .ref 0], (0, 0), mi_G) (by rfl) ?_
    have hM735 : mi_Met mi_N0 2 mi_h123 [.ref 0, .int a3] mi_G (some (.int 0)) mi_G := by
      refine mi_met_of (y := 123) (q := (mi_h123, mi_c123)) rfl (by decide) (Nat.le_of_ble_eq_true rfl) ?_
      refine mi_sem_steps mi_in123 (mi_calok_none _ _) 3 _ (5, [(0, .ref 0), (1, .int a3)], [.int a3, .ref 1], (0, 0), mi_G) (by rfl) ?_
      have hM734 : mi_Met mi_N0 1 mi_h24 [.ref 1, .int a3] mi_G (some (.int 0)) mi_G := by
        refine mi_met_of (y := 24) (q := (mi_h24, mi_c24)) rfl (by decide) (Nat.le_of_ble_eq_true rfl) ?_
        refine mi_sem_steps mi_in24 (mi_calok_none _ _) 1 _ (1, [(0, .ref 1), (1, .int a3)], [.int a3], (0, 0), mi_G) (by rfl) ?_
        refine mi_sem_b mi_in24 (decide (a3 < 0)) true (mi_ltT (0) (by decide) (by omega)) 22 4 ([(0, .ref 1), (1, .int a3)], [], (0, 0), mi_G) (by rfl) ?_
        refine mi_sem_steps mi_in24 (mi_calok_none _ _) 1 _ (23, [(0, .ref 1), (1, .int a3)], [.int 0], (0, 0), mi_G) (by rfl) ?_
        exact mi_sem_ret (cal := fun _ _ _ => none) mi_in24 (by rfl)
      refine mi_sem_call mi_in123 (i := (.invokevirtual 342, 3, 24, 0, 9, 0, 163)) (by rfl) (by rfl) hM734 (by decide) ⟨Nat.le_of_ble_eq_true rfl, Nat.le_of_ble_eq_true rfl⟩ ?_
      exact mi_sem_ret (cal := fun _ _ _ => none) mi_in123 (by rfl)
    refine mi_sem_call mi_in92 (i := (.invokevirtual 141, 3, 123, 0, 9, 0, 162)) (by rfl) (by rfl) hM735 (by decide) ⟨Nat.le_of_ble_eq_true rfl, Nat.le_of_ble_eq_true rfl⟩ ?_
    refine mi_sem_steps mi_in92 (mi_calok_none _ _) 2 _ (23, [(0, .ref 0), (1, .int a1), (2, .int a2), (3, .int a3), (4, .int a4)], [.int (-1)], (0, 0), mi_G) (by rfl) ?_
    exact mi_sem_ret (cal := fun _ _ _ => none) mi_in92 (by rfl)
  · refine mi_met_of (y := 181) (q := (mi_h181, mi_c181)) rfl (by decide) (Nat.le_of_ble_eq_true rfl) ?_
    refine mi_sem_steps mi_in181 (mi_calok_none _ _) 1 _ (1, [(0, .ref 116), (1, .int a1), (2, .int a2), (3, .int a3), (4, .int a4)], [.int a1], (0, 0), mi_G) (by rfl) ?_
    have hM737 : mi_Met mi_N0 2 mi_h133 [.int a1] mi_G (some (.int 0)) mi_G := by
      refine mi_met_of (y := 133) (q := (mi_h133, mi_c133)) rfl (by decide) (Nat.le_of_ble_eq_true rfl) ?_
      refine mi_sem_steps mi_in133 (mi_calok_none _ _) 3 _ (3, [(0, .int a1)], [.int 5, .int 0, .int a1], (0, 0), mi_G) (by rfl) ?_
      have hM736 : mi_Met mi_N0 1 mi_h131 [.int a1, .int 0, .int 5] mi_G (some (.int 0)) mi_G := by
        refine mi_met_of (y := 131) (q := (mi_h131, mi_c131)) rfl (by decide) (Nat.le_of_ble_eq_true rfl) ?_
        refine mi_sem_steps mi_in131 (mi_calok_none _ _) 2 _ (2, [(0, .int a1), (1, .int 0), (2, .int 5)], [.int 0, .int a1], (0, 0), mi_G) (by rfl) ?_
        refine mi_sem_b mi_in131 (decide (a1 < 0)) true (mi_ltT (0) (by decide) (by omega)) 14 5 ([(0, .int a1), (1, .int 0), (2, .int 5)], [], (0, 0), mi_G) (by rfl) ?_
        refine mi_sem_steps mi_in131 (mi_calok_none _ _) 1 _ (15, [(0, .int a1), (1, .int 0), (2, .int 5)], [.int 0], (0, 0), mi_G) (by rfl) ?_
        exact mi_sem_ret (cal := fun _ _ _ => none) mi_in131 (by rfl)
      refine mi_sem_call mi_in133 (i := (.invokestatic 119, 3, 131, 0, 9, 0, 379)) (by rfl) (by rfl) hM736 (by decide) ⟨Nat.le_of_ble_eq_true rfl, Nat.le_of_ble_eq_true rfl⟩ ?_
      exact mi_sem_ret (cal := fun _ _ _ => none) mi_in133 (by rfl)
    refine mi_sem_call mi_in181 (i := (.invokestatic 127, 3, 133, 0, 9, 0, 382)) (by rfl) (by rfl) hM737 (by decide) ⟨Nat.le_of_ble_eq_true rfl, Nat.le_of_ble_eq_true rfl⟩ ?_
    refine mi_sem_steps mi_in181 (mi_calok_none _ _) 2 _ (30, [(0, .ref 116), (1, .int a1), (2, .int a2), (3, .int a3), (4, .int a4)], [.int (-1)], (0, 0), mi_G) (by rfl) ?_
    exact mi_sem_ret (cal := fun _ _ _ => none) mi_in181 (by rfl)

set_option maxRecDepth 100000 in
set_option maxHeartbeats 4000000 in
theorem mp_hired_4 (a1 : Int32) (a2 : Int32) (a3 : Int32) (a4 : Int32) (r0 : 0 ≤ (a2).toInt ∧ (a2).toInt ≤ 2147483647) (r1 : (-2147483648) ≤ (a3).toInt ∧ (a3).toInt ≤ (-1)) (r2 : 0 ≤ (a1).toInt ∧ (a1).toInt ≤ 5) : mi_P 92 181 [.int a1, .int a2, .int a3, .int a4] := by
  refine ⟨.int (-1), mi_G, mi_G, (mi_h92, mi_c92), (mi_h181, mi_c181), 3, 3, rfl, rfl, rfl, by decide, by decide, ?_, ?_⟩
  · refine mi_met_of (y := 92) (q := (mi_h92, mi_c92)) rfl (by decide) (Nat.le_of_ble_eq_true rfl) ?_
    refine mi_sem_steps mi_in92 (mi_calok_none _ _) 1 _ (1, [(0, .ref 0), (1, .int a1), (2, .int a2), (3, .int a3), (4, .int a4)], [.int a2], (0, 0), mi_G) (by rfl) ?_
    refine mi_sem_b mi_in92 (decide (a2 < 0)) false (mi_ltF (0) (by decide) (by omega)) 22 4 ([(0, .ref 0), (1, .int a1), (2, .int a2), (3, .int a3), (4, .int a4)], [], (0, 0), mi_G) (by rfl) ?_
    refine mi_sem_steps mi_in92 (mi_calok_none _ _) 2 _ (6, [(0, .ref 0), (1, .int a1), (2, .int a2), (3, .int a3), (4, .int a4)], [.int a3, .ref 0], (0, 0), mi_G) (by rfl) ?_
    have hM741 : mi_Met mi_N0 2 mi_h123 [.ref 0, .int a3] mi_G (some (.int 0)) mi_G := by
      refine mi_met_of (y := 123) (q := (mi_h123, mi_c123)) rfl (by decide) (Nat.le_of_ble_eq_true rfl) ?_
      refine mi_sem_steps mi_in123 (mi_calok_none _ _) 3 _ (5, [(0, .ref 0), (1, .int a3)], [.int a3, .ref 1], (0, 0), mi_G) (by rfl) ?_
      have hM740 : mi_Met mi_N0 1 mi_h24 [.ref 1, .int a3] mi_G (some (.int 0)) mi_G := by
        refine mi_met_of (y := 24) (q := (mi_h24, mi_c24)) rfl (by decide) (Nat.le_of_ble_eq_true rfl) ?_
        refine mi_sem_steps mi_in24 (mi_calok_none _ _) 1 _ (1, [(0, .ref 1), (1, .int a3)], [.int a3], (0, 0), mi_G) (by rfl) ?_
        refine mi_sem_b mi_in24 (decide (a3 < 0)) true (mi_ltT (0) (by decide) (by omega)) 22 4 ([(0, .ref 1), (1, .int a3)], [], (0, 0), mi_G) (by rfl) ?_
        refine mi_sem_steps mi_in24 (mi_calok_none _ _) 1 _ (23, [(0, .ref 1), (1, .int a3)], [.int 0], (0, 0), mi_G) (by rfl) ?_
        exact mi_sem_ret (cal := fun _ _ _ => none) mi_in24 (by rfl)
      refine mi_sem_call mi_in123 (i := (.invokevirtual 342, 3, 24, 0, 9, 0, 163)) (by rfl) (by rfl) hM740 (by decide) ⟨Nat.le_of_ble_eq_true rfl, Nat.le_of_ble_eq_true rfl⟩ ?_
      exact mi_sem_ret (cal := fun _ _ _ => none) mi_in123 (by rfl)
    refine mi_sem_call mi_in92 (i := (.invokevirtual 141, 3, 123, 0, 9, 0, 162)) (by rfl) (by rfl) hM741 (by decide) ⟨Nat.le_of_ble_eq_true rfl, Nat.le_of_ble_eq_true rfl⟩ ?_
    refine mi_sem_steps mi_in92 (mi_calok_none _ _) 2 _ (23, [(0, .ref 0), (1, .int a1), (2, .int a2), (3, .int a3), (4, .int a4)], [.int (-1)], (0, 0), mi_G) (by rfl) ?_
    exact mi_sem_ret (cal := fun _ _ _ => none) mi_in92 (by rfl)
  · refine mi_met_of (y := 181) (q := (mi_h181, mi_c181)) rfl (by decide) (Nat.le_of_ble_eq_true rfl) ?_
    refine mi_sem_steps mi_in181 (mi_calok_none _ _) 1 _ (1, [(0, .ref 116), (1, .int a1), (2, .int a2), (3, .int a3), (4, .int a4)], [.int a1], (0, 0), mi_G) (by rfl) ?_
    have hM743 : mi_Met mi_N0 2 mi_h133 [.int a1] mi_G (some (.int 1)) mi_G := by
      refine mi_met_of (y := 133) (q := (mi_h133, mi_c133)) rfl (by decide) (Nat.le_of_ble_eq_true rfl) ?_
      refine mi_sem_steps mi_in133 (mi_calok_none _ _) 3 _ (3, [(0, .int a1)], [.int 5, .int 0, .int a1], (0, 0), mi_G) (by rfl) ?_
      have hM742 : mi_Met mi_N0 1 mi_h131 [.int a1, .int 0, .int 5] mi_G (some (.int 1)) mi_G := by
        refine mi_met_of (y := 131) (q := (mi_h131, mi_c131)) rfl (by decide) (Nat.le_of_ble_eq_true rfl) ?_
        refine mi_sem_steps mi_in131 (mi_calok_none _ _) 2 _ (2, [(0, .int a1), (1, .int 0), (2, .int 5)], [.int 0, .int a1], (0, 0), mi_G) (by rfl) ?_
        refine mi_sem_b mi_in131 (decide (a1 < 0)) false (mi_ltF (0) (by decide) (by omega)) 14 5 ([(0, .int a1), (1, .int 0), (2, .int 5)], [], (0, 0), mi_G) (by rfl) ?_
        refine mi_sem_steps mi_in131 (mi_calok_none _ _) 2 _ (7, [(0, .int a1), (1, .int 0), (2, .int 5)], [.int 5, .int a1], (0, 0), mi_G) (by rfl) ?_
        refine mi_sem_b mi_in131 (decide (5 < a1)) false (mi_ltF2 (5) (by decide) (by omega)) 14 10 ([(0, .int a1), (1, .int 0), (2, .int 5)], [], (0, 0), mi_G) (by rfl) ?_
        refine mi_sem_steps mi_in131 (mi_calok_none _ _) 2 _ (15, [(0, .int a1), (1, .int 0), (2, .int 5)], [.int 1], (0, 0), mi_G) (by rfl) ?_
        exact mi_sem_ret (cal := fun _ _ _ => none) mi_in131 (by rfl)
      refine mi_sem_call mi_in133 (i := (.invokestatic 119, 3, 131, 0, 9, 0, 379)) (by rfl) (by rfl) hM742 (by decide) ⟨Nat.le_of_ble_eq_true rfl, Nat.le_of_ble_eq_true rfl⟩ ?_
      exact mi_sem_ret (cal := fun _ _ _ => none) mi_in133 (by rfl)
    refine mi_sem_call mi_in181 (i := (.invokestatic 127, 3, 133, 0, 9, 0, 382)) (by rfl) (by rfl) hM743 (by decide) ⟨Nat.le_of_ble_eq_true rfl, Nat.le_of_ble_eq_true rfl⟩ ?_
    refine mi_sem_steps mi_in181 (mi_calok_none _ _) 2 _ (8, [(0, .ref 116), (1, .int a1), (2, .int a2), (3, .int a3), (4, .int a4)], [.int a2], (0, 0), mi_G) (by rfl) ?_
    refine mi_sem_b mi_in181 (decide (a2 < 0)) false (mi_ltF (0) (by decide) (by omega)) 29 11 ([(0, .ref 116), (1, .int a1), (2, .int a2), (3, .int a3), (4, .int a4)], [], (0, 0), mi_G) (by rfl) ?_
    refine mi_sem_steps mi_in181 (mi_calok_none _ _) 2 _ (13, [(0, .ref 116), (1, .int a1), (2, .int a2), (3, .int a3), (4, .int a4)], [.int a3, .ref 116], (0, 0), mi_G) (by rfl) ?_
    have hM745 : mi_Met mi_N0 2 mi_h132 [.ref 116, .int a3] mi_G (some (.int 0)) mi_G := by
      refine mi_met_of (y := 132) (q := (mi_h132, mi_c132)) rfl (by decide) (Nat.le_of_ble_eq_true rfl) ?_
      refine mi_sem_steps mi_in132 (mi_calok_none _ _) 6 _ (8, [(0, .ref 116), (1, .int a3)], [.int (-1), .int 0, .int a3], (0, 0), mi_G) (by rfl) ?_
      have hM744 : mi_Met mi_N0 1 mi_h131 [.int a3, .int 0, .int (-1)] mi_G (some (.int 0)) mi_G := by
        refine mi_met_of (y := 131) (q := (mi_h131, mi_c131)) rfl (by decide) (Nat.le_of_ble_eq_true rfl) ?_
        refine mi_sem_steps mi_in131 (mi_calok_none _ _) 2 _ (2, [(0, .int a3), (1, .int 0), (2, .int (-1))], [.int 0, .int a3], (0, 0), mi_G) (by rfl) ?_
        refine mi_sem_b mi_in131 (decide (a3 < 0)) true (mi_ltT (0) (by decide) (by omega)) 14 5 ([(0, .int a3), (1, .int 0), (2, .int (-1))], [], (0, 0), mi_G) (by rfl) ?_
        refine mi_sem_steps mi_in131 (mi_calok_none _ _) 1 _ (15, [(0, .int a3), (1, .int 0), (2, .int (-1))], [.int 0], (0, 0), mi_G) (by rfl) ?_
        exact mi_sem_ret (cal := fun _ _ _ => none) mi_in131 (by rfl)
      refine mi_sem_call mi_in132 (i := (.invokestatic 119, 3, 131, 0, 9, 0, 379)) (by rfl) (by rfl) hM744 (by decide) ⟨Nat.le_of_ble_eq_true rfl, Nat.le_of_ble_eq_true rfl⟩ ?_
      exact mi_sem_ret (cal := fun _ _ _ => none) mi_in132 (by rfl)
    refine mi_sem_call mi_in181 (i := (.invokevirtual 137, 3, 132, 0, 9, 0, 387)) (by rfl) (by rfl) hM745 (by decide) ⟨Nat.le_of_ble_eq_true rfl, Nat.le_of_ble_eq_true rfl⟩ ?_
    refine mi_sem_steps mi_in181 (mi_calok_none _ _) 2 _ (30, [(0, .ref 116), (1, .int a1), (2, .int a2), (3, .int a3), (4, .int a4)], [.int (-1)], (0, 0), mi_G) (by rfl) ?_
    exact mi_sem_ret (cal := fun _ _ _ => none) mi_in181 (by rfl)

set_option maxRecDepth 100000 in
set_option maxHeartbeats 4000000 in
theorem mp_hired_5 (a1 : Int32) (a2 : Int32) (a3 : Int32) (a4 : Int32) (r0 : 0 ≤ (a2).toInt ∧ (a2).toInt ≤ 2147483647) (r1 : (-2147483648) ≤ (a3).toInt ∧ (a3).toInt ≤ (-1)) (r2 : 6 ≤ (a1).toInt ∧ (a1).toInt ≤ 2147483647) : mi_P 92 181 [.int a1, .int a2, .int a3, .int a4] := by
  refine ⟨.int (-1), mi_G, mi_G, (mi_h92, mi_c92), (mi_h181, mi_c181), 3, 3, rfl, rfl, rfl, by decide, by decide, ?_, ?_⟩
  · refine mi_met_of (y := 92) (q := (mi_h92, mi_c92)) rfl (by decide) (Nat.le_of_ble_eq_true rfl) ?_
    refine mi_sem_steps mi_in92 (mi_calok_none _ _) 1 _ (1, [(0, .ref 0), (1, .int a1), (2, .int a2), (3, .int a3), (4, .int a4)], [.int a2], (0, 0), mi_G) (by rfl) ?_
    refine mi_sem_b mi_in92 (decide (a2 < 0)) false (mi_ltF (0) (by decide) (by omega)) 22 4 ([(0, .ref 0), (1, .int a1), (2, .int a2), (3, .int a3), (4, .int a4)], [], (0, 0), mi_G) (by rfl) ?_
    refine mi_sem_steps mi_in92 (mi_calok_none _ _) 2 _ (6, [(0, .ref 0), (1, .int a1), (2, .int a2), (3, .int a3), (4, .int a4)], [.int a3, .ref 0], (0, 0), mi_G) (by rfl) ?_
    have hM747 : mi_Met mi_N0 2 mi_h123 [.ref 0, .int a3] mi_G (some (.int 0)) mi_G := by
      refine mi_met_of (y := 123) (q := (mi_h123, mi_c123)) rfl (by decide) (Nat.le_of_ble_eq_true rfl) ?_
      refine mi_sem_steps mi_in123 (mi_calok_none _ _) 3 _ (5, [(0, .ref 0), (1, .int a3)], [.int a3, .ref 1], (0, 0), mi_G) (by rfl) ?_
      have hM746 : mi_Met mi_N0 1 mi_h24 [.ref 1, .int a3] mi_G (some (.int 0)) mi_G := by
        refine mi_met_of (y := 24) (q := (mi_h24, mi_c24)) rfl (by decide) (Nat.le_of_ble_eq_true rfl) ?_
        refine mi_sem_steps mi_in24 (mi_calok_none _ _) 1 _ (1, [(0, .ref 1), (1, .int a3)], [.int a3], (0, 0), mi_G) (by rfl) ?_
        refine mi_sem_b mi_in24 (decide (a3 < 0)) true (mi_ltT (0) (by decide) (by omega)) 22 4 ([(0, .ref 1), (1, .int a3)], [], (0, 0), mi_G) (by rfl) ?_
        refine mi_sem_steps mi_in24 (mi_calok_none _ _) 1 _ (23, [(0, .ref 1), (1, .int a3)], [.int 0], (0, 0), mi_G) (by rfl) ?_
        exact mi_sem_ret (cal := fun _ _ _ => none) mi_in24 (by rfl)
      refine mi_sem_call mi_in123 (i := (.invokevirtual 342, 3, 24, 0, 9, 0, 163)) (by rfl) (by rfl) hM746 (by decide) ⟨Nat.le_of_ble_eq_true rfl, Nat.le_of_ble_eq_true rfl⟩ ?_
      exact mi_sem_ret (cal := fun _ _ _ => none) mi_in123 (by rfl)
    refine mi_sem_call mi_in92 (i := (.invokevirtual 141, 3, 123, 0, 9, 0, 162)) (by rfl) (by rfl) hM747 (by decide) ⟨Nat.le_of_ble_eq_true rfl, Nat.le_of_ble_eq_true rfl⟩ ?_
    refine mi_sem_steps mi_in92 (mi_calok_none _ _) 2 _ (23, [(0, .ref 0), (1, .int a1), (2, .int a2), (3, .int a3), (4, .int a4)], [.int (-1)], (0, 0), mi_G) (by rfl) ?_
    exact mi_sem_ret (cal := fun _ _ _ => none) mi_in92 (by rfl)
  · refine mi_met_of (y := 181) (q := (mi_h181, mi_c181)) rfl (by decide) (Nat.le_of_ble_eq_true rfl) ?_
    refine mi_sem_steps mi_in181 (mi_calok_none _ _) 1 _ (1, [(0, .ref 116), (1, .int a1), (2, .int a2), (3, .int a3), (4, .int a4)], [.int a1], (0, 0), mi_G) (by rfl) ?_
    have hM749 : mi_Met mi_N0 2 mi_h133 [.int a1] mi_G (some (.int 0)) mi_G := by
      refine mi_met_of (y := 133) (q := (mi_h133, mi_c133)) rfl (by decide) (Nat.le_of_ble_eq_true rfl) ?_
      refine mi_sem_steps mi_in133 (mi_calok_none _ _) 3 _ (3, [(0, .int a1)], [.int 5, .int 0, .int a1], (0, 0), mi_G) (by rfl) ?_
      have hM748 : mi_Met mi_N0 1 mi_h131 [.int a1, .int 0, .int 5] mi_G (some (.int 0)) mi_G := by
        refine mi_met_of (y := 131) (q := (mi_h131, mi_c131)) rfl (by decide) (Nat.le_of_ble_eq_true rfl) ?_
        refine mi_sem_steps mi_in131 (mi_calok_none _ _) 2 _ (2, [(0, .int a1), (1, .int 0), (2, .int 5)], [.int 0, .int a1], (0, 0), mi_G) (by rfl) ?_
        refine mi_sem_b mi_in131 (decide (a1 < 0)) false (mi_ltF (0) (by decide) (by omega)) 14 5 ([(0, .int a1), (1, .int 0), (2, .int 5)], [], (0, 0), mi_G) (by rfl) ?_
        refine mi_sem_steps mi_in131 (mi_calok_none _ _) 2 _ (7, [(0, .int a1), (1, .int 0), (2, .int 5)], [.int 5, .int a1], (0, 0), mi_G) (by rfl) ?_
        refine mi_sem_b mi_in131 (decide (5 < a1)) true (mi_ltT2 (5) (by decide) (by omega)) 14 10 ([(0, .int a1), (1, .int 0), (2, .int 5)], [], (0, 0), mi_G) (by rfl) ?_
        refine mi_sem_steps mi_in131 (mi_calok_none _ _) 1 _ (15, [(0, .int a1), (1, .int 0), (2, .int 5)], [.int 0], (0, 0), mi_G) (by rfl) ?_
        exact mi_sem_ret (cal := fun _ _ _ => none) mi_in131 (by rfl)
      refine mi_sem_call mi_in133 (i := (.invokestatic 119, 3, 131, 0, 9, 0, 379)) (by rfl) (by rfl) hM748 (by decide) ⟨Nat.le_of_ble_eq_true rfl, Nat.le_of_ble_eq_true rfl⟩ ?_
      exact mi_sem_ret (cal := fun _ _ _ => none) mi_in133 (by rfl)
    refine mi_sem_call mi_in181 (i := (.invokestatic 127, 3, 133, 0, 9, 0, 382)) (by rfl) (by rfl) hM749 (by decide) ⟨Nat.le_of_ble_eq_true rfl, Nat.le_of_ble_eq_true rfl⟩ ?_
    refine mi_sem_steps mi_in181 (mi_calok_none _ _) 2 _ (30, [(0, .ref 116), (1, .int a1), (2, .int a2), (3, .int a3), (4, .int a4)], [.int (-1)], (0, 0), mi_G) (by rfl) ?_
    exact mi_sem_ret (cal := fun _ _ _ => none) mi_in181 (by rfl)

set_option maxRecDepth 100000 in
set_option maxHeartbeats 4000000 in
theorem mp_hired_6 (a1 : Int32) (a2 : Int32) (a3 : Int32) (a4 : Int32) (r0 : 0 ≤ (a2).toInt ∧ (a2).toInt ≤ 2147483647) (r1 : 0 ≤ (a3).toInt ∧ (a3).toInt ≤ 2147483647) (r2 : (-2147483648) ≤ (a1).toInt ∧ (a1).toInt ≤ (-1)) : mi_P 92 181 [.int a1, .int a2, .int a3, .int a4] := by
  refine ⟨.int (-1), mi_G, mi_G, (mi_h92, mi_c92), (mi_h181, mi_c181), 3, 3, rfl, rfl, rfl, by decide, by decide, ?_, ?_⟩
  · refine mi_met_of (y := 92) (q := (mi_h92, mi_c92)) rfl (by decide) (Nat.le_of_ble_eq_true rfl) ?_
    refine mi_sem_steps mi_in92 (mi_calok_none _ _) 1 _ (1, [(0, .ref 0), (1, .int a1), (2, .int a2), (3, .int a3), (4, .int a4)], [.int a2], (0, 0), mi_G) (by rfl) ?_
    refine mi_sem_b mi_in92 (decide (a2 < 0)) false (mi_ltF (0) (by decide) (by omega)) 22 4 ([(0, .ref 0), (1, .int a1), (2, .int a2), (3, .int a3), (4, .int a4)], [], (0, 0), mi_G) (by rfl) ?_
    refine mi_sem_steps mi_in92 (mi_calok_none _ _) 2 _ (6, [(0, .ref 0), (1, .int a1), (2, .int a2), (3, .int a3), (4, .int a4)], [.int a3, .ref 0], (0, 0), mi_G) (by rfl) ?_
    have hM753 : mi_Met mi_N0 2 mi_h123 [.ref 0, .int a3] mi_G (some (.int 0)) mi_G := by
      refine mi_met_of (y := 123) (q := (mi_h123, mi_c123)) rfl (by decide) (Nat.le_of_ble_eq_true rfl) ?_
      refine mi_sem_steps mi_in123 (mi_calok_none _ _) 3 _ (5, [(0, .ref 0), (1, .int a3)], [.int a3, .ref 1], (0, 0), mi_G) (by rfl) ?_
      have hM752 : mi_Met mi_N0 1 mi_h24 [.ref 1, .int a3] mi_G (some (.int 0)) mi_G := by
        refine mi_met_of (y := 24) (q := (mi_h24, mi_c24)) rfl (by decide) (Nat.le_of_ble_eq_true rfl) ?_
        refine mi_sem_steps mi_in24 (mi_calok_none _ _) 1 _ (1, [(0, .ref 1), (1, .int a3)], [.int a3], (0, 0), mi_G) (by rfl) ?_
        refine mi_sem_b mi_in24 (decide (a3 < 0)) false (mi_ltF (0) (by decide) (by omega)) 22 4 ([(0, .ref 1), (1, .int a3)], [], (0, 0), mi_G) (by rfl) ?_
        refine mi_sem_steps mi_in24 (mi_calok_none _ _) 3 _ (9, [(0, .ref 1), (1, .int a3)], [.int 0, .int a3], (0, 0), mi_G) (by rfl) ?_
        refine mi_sem_b mi_in24 (decide (0 ≤ a3)) true (mi_leT2 (0) (by decide) (by omega)) 22 12 ([(0, .ref 1), (1, .int a3)], [], (0, 0), mi_G) (by rfl) ?_
        refine mi_sem_steps mi_in24 (mi_calok_none _ _) 1 _ (23, [(0, .ref 1), (1, .int a3)], [.int 0], (0, 0), mi_G) (by rfl) ?_
        exact mi_sem_ret (cal := fun _ _ _ => none) mi_in24 (by rfl)
      refine mi_sem_call mi_in123 (i := (.invokevirtual 342, 3, 24, 0, 9, 0, 163)) (by rfl) (by rfl) hM752 (by decide) ⟨Nat.le_of_ble_eq_true rfl, Nat.le_of_ble_eq_true rfl⟩ ?_
      exact mi_sem_ret (cal := fun _ _ _ => none) mi_in123 (by rfl)
    refine mi_sem_call mi_in92 (i := (.invokevirtual 141, 3, 123, 0, 9, 0, 162)) (by rfl) (by rfl) hM753 (by decide) ⟨Nat.le_of_ble_eq_true rfl, Nat.le_of_ble_eq_true rfl⟩ ?_
    refine mi_sem_steps mi_in92 (mi_calok_none _ _) 2 _ (23, [(0, .ref 0), (1, .int a1), (2, .int a2), (3, .int a3), (4, .int a4)], [.int (-1)], (0, 0), mi_G) (by rfl) ?_
    exact mi_sem_ret (cal := fun _ _ _ => none) mi_in92 (by rfl)
  · refine mi_met_of (y := 181) (q := (mi_h181, mi_c181)) rfl (by decide) (Nat.le_of_ble_eq_true rfl) ?_
    refine mi_sem_steps mi_in181 (mi_calok_none _ _) 1 _ (1, [(0, .ref 116), (1, .int a1), (2, .int a2), (3, .int a3), (4, .int a4)], [.int a1], (0, 0), mi_G) (by rfl) ?_
    have hM755 : mi_Met mi_N0 2 mi_h133 [.int a1] mi_G (some (.int 0)) mi_G := by
      refine mi_met_of (y := 133) (q := (mi_h133, mi_c133)) rfl (by decide) (Nat.le_of_ble_eq_true rfl) ?_
      refine mi_sem_steps mi_in133 (mi_calok_none _ _) 3 _ (3, [(0, .int a1)], [.int 5, .int 0, .int a1], (0, 0), mi_G) (by rfl) ?_
      have hM754 : mi_Met mi_N0 1 mi_h131 [.int a1, .int 0, .int 5] mi_G (some (.int 0)) mi_G := by
        refine mi_met_of (y := 131) (q := (mi_h131, mi_c131)) rfl (by decide) (Nat.le_of_ble_eq_true rfl) ?_
        refine mi_sem_steps mi_in131 (mi_calok_none _ _) 2 _ (2, [(0, .int a1), (1, .int 0), (2, .int 5)], [.int 0, .int a1], (0, 0), mi_G) (by rfl) ?_
        refine mi_sem_b mi_in131 (decide (a1 < 0)) true (mi_ltT (0) (by decide) (by omega)) 14 5 ([(0, .int a1), (1, .int 0), (2, .int 5)], [], (0, 0), mi_G) (by rfl) ?_
        refine mi_sem_steps mi_in131 (mi_calok_none _ _) 1 _ (15, [(0, .int a1), (1, .int 0), (2, .int 5)], [.int 0], (0, 0), mi_G) (by rfl) ?_
        exact mi_sem_ret (cal := fun _ _ _ => none) mi_in131 (by rfl)
      refine mi_sem_call mi_in133 (i := (.invokestatic 119, 3, 131, 0, 9, 0, 379)) (by rfl) (by rfl) hM754 (by decide) ⟨Nat.le_of_ble_eq_true rfl, Nat.le_of_ble_eq_true rfl⟩ ?_
      exact mi_sem_ret (cal := fun _ _ _ => none) mi_in133 (by rfl)
    refine mi_sem_call mi_in181 (i := (.invokestatic 127, 3, 133, 0, 9, 0, 382)) (by rfl) (by rfl) hM755 (by decide) ⟨Nat.le_of_ble_eq_true rfl, Nat.le_of_ble_eq_true rfl⟩ ?_
    refine mi_sem_steps mi_in181 (mi_calok_none _ _) 2 _ (30, [(0, .ref 116), (1, .int a1), (2, .int a2), (3, .int a3), (4, .int a4)], [.int (-1)], (0, 0), mi_G) (by rfl) ?_
    exact mi_sem_ret (cal := fun _ _ _ => none) mi_in181 (by rfl)

set_option maxRecDepth 100000 in
set_option maxHeartbeats 4000000 in
theorem mp_hired_7 (a1 : Int32) (a2 : Int32) (a3 : Int32) (a4 : Int32) (r0 : 0 ≤ (a2).toInt ∧ (a2).toInt ≤ 2147483647) (r1 : 0 ≤ (a3).toInt ∧ (a3).toInt ≤ 2147483647) (r2 : 0 ≤ (a1).toInt ∧ (a1).toInt ≤ 5) : mi_P 92 181 [.int a1, .int a2, .int a3, .int a4] := by
  refine ⟨.int (-1), mi_G, mi_G, (mi_h92, mi_c92), (mi_h181, mi_c181), 3, 3, rfl, rfl, rfl, by decide, by decide, ?_, ?_⟩
  · refine mi_met_of (y := 92) (q := (mi_h92, mi_c92)) rfl (by decide) (Nat.le_of_ble_eq_true rfl) ?_
    refine mi_sem_steps mi_in92 (mi_calok_none _ _) 1 _ (1, [(0, .ref 0), (1, .int a1), (2, .int a2), (3, .int a3), (4, .int a4)], [.int a2], (0, 0), mi_G) (by rfl) ?_
    refine mi_sem_b mi_in92 (decide (a2 < 0)) false (mi_ltF (0) (by decide) (by omega)) 22 4 ([(0, .ref 0), (1, .int a1), (2, .int a2), (3, .int a3), (4, .int a4)], [], (0, 0), mi_G) (by rfl) ?_
    refine mi_sem_steps mi_in92 (mi_calok_none _ _) 2 _ (6, [(0, .ref 0), (1, .int a1), (2, .int a2), (3, .int a3), (4, .int a4)], [.int a3, .ref 0], (0, 0), mi_G) (by rfl) ?_
    have hM759 : mi_Met mi_N0 2 mi_h123 [.ref 0, .int a3] mi_G (some (.int 0)) mi_G := by
      refine mi_met_of (y := 123) (q := (mi_h123, mi_c123)) rfl (by decide) (Nat.le_of_ble_eq_true rfl) ?_
      refine mi_sem_steps mi_in123 (mi_calok_none _ _) 3 _ (5, [(0, .ref 0), (1, .int a3)], [.int a3, .ref 1], (0, 0), mi_G) (by rfl) ?_
      have hM758 : mi_Met mi_N0 1 mi_h24 [.ref 1, .int a3] mi_G (some (.int 0)) mi_G := by
        refine mi_met_of (y := 24) (q := (mi_h24, mi_c24)) rfl (by decide) (Nat.le_of_ble_eq_true rfl) ?_
        refine mi_sem_steps mi_in24 (mi_calok_none _ _) 1 _ (1, [(0, .ref 1), (1, .int a3)], [.int a3], (0, 0), mi_G) (by rfl) ?_
        refine mi_sem_b mi_in24 (decide (a3 < 0)) false (mi_ltF (0) (by decide) (by omega)) 22 4 ([(0, .ref 1), (1, .int a3)], [], (0, 0), mi_G) (by rfl) ?_
        refine mi_sem_steps mi_in24 (mi_calok_none _ _) 3 _ (9, [(0, .ref 1), (1, .int a3)], [.int 0, .int a3], (0, 0), mi_G) (by rfl) ?_
        refine mi_sem_b mi_in24 (decide (0 ≤ a3)) true (mi_leT2 (0) (by decide) (by omega)) 22 12 ([(0, .ref 1), (1, .int a3)], [], (0, 0), mi_G) (by rfl) ?_
        refine mi_sem_steps mi_in24 (mi_calok_none _ _) 1 _ (23, [(0, .ref 1), (1, .int a3)], [.int 0], (0, 0), mi_G) (by rfl) ?_
        exact mi_sem_ret (cal := fun _ _ _ => none) mi_in24 (by rfl)
      refine mi_sem_call mi_in123 (i := (.invokevirtual 342, 3, 24, 0, 9, 0, 163)) (by rfl) (by rfl) hM758 (by decide) ⟨Nat.le_of_ble_eq_true rfl, Nat.le_of_ble_eq_true rfl⟩ ?_
      exact mi_sem_ret (cal := fun _ _ _ => none) mi_in123 (by rfl)
    refine mi_sem_call mi_in92 (i := (.invokevirtual 141, 3, 123, 0, 9, 0, 162)) (by rfl) (by rfl) hM759 (by decide) ⟨Nat.le_of_ble_eq_true rfl, Nat.le_of_ble_eq_true rfl⟩ ?_
    refine mi_sem_steps mi_in92 (mi_calok_none _ _) 2 _ (23, [(0, .ref 0), (1, .int a1), (2, .int a2), (3, .int a3), (4, .int a4)], [.int (-1)], (0, 0), mi_G) (by rfl) ?_
    exact mi_sem_ret (cal := fun _ _ _ => none) mi_in92 (by rfl)
  · refine mi_met_of (y := 181) (q := (mi_h181, mi_c181)) rfl (by decide) (Nat.le_of_ble_eq_true rfl) ?_
    refine mi_sem_steps mi_in181 (mi_calok_none _ _) 1 _ (1, [(0, .ref 116), (1, .int a1), (2, .int a2), (3, .int a3), (4, .int a4)], [.int a1], (0, 0), mi_G) (by rfl) ?_
    have hM761 : mi_Met mi_N0 2 mi_h133 [.int a1] mi_G (some (.int 1)) mi_G := by
      refine mi_met_of (y := 133) (q := (mi_h133, mi_c133)) rfl (by decide) (Nat.le_of_ble_eq_true rfl) ?_
      refine mi_sem_steps mi_in133 (mi_calok_none _ _) 3 _ (3, [(0, .int a1)], [.int 5, .int 0, .int a1], (0, 0), mi_G) (by rfl) ?_
      have hM760 : mi_Met mi_N0 1 mi_h131 [.int a1, .int 0, .int 5] mi_G (some (.int 1)) mi_G := by
        refine mi_met_of (y := 131) (q := (mi_h131, mi_c131)) rfl (by decide) (Nat.le_of_ble_eq_true rfl) ?_
        refine mi_sem_steps mi_in131 (mi_calok_none _ _) 2 _ (2, [(0, .int a1), (1, .int 0), (2, .int 5)], [.int 0, .int a1], (0, 0), mi_G) (by rfl) ?_
        refine mi_sem_b mi_in131 (decide (a1 < 0)) false (mi_ltF (0) (by decide) (by omega)) 14 5 ([(0, .int a1), (1, .int 0), (2, .int 5)], [], (0, 0), mi_G) (by rfl) ?_
        refine mi_sem_steps mi_in131 (mi_calok_none _ _) 2 _ (7, [(0, .int a1), (1, .int 0), (2, .int 5)], [.int 5, .int a1], (0, 0), mi_G) (by rfl) ?_
        refine mi_sem_b mi_in131 (decide (5 < a1)) false (mi_ltF2 (5) (by decide) (by omega)) 14 10 ([(0, .int a1), (1, .int 0), (2, .int 5)], [], (0, 0), mi_G) (by rfl) ?_
        refine mi_sem_steps mi_in131 (mi_calok_none _ _) 2 _ (15, [(0, .int a1), (1, .int 0), (2, .int 5)], [.int 1], (0, 0), mi_G) (by rfl) ?_
        exact mi_sem_ret (cal := fun _ _ _ => none) mi_in131 (by rfl)
      refine mi_sem_call mi_in133 (i := (.invokestatic 119, 3, 131, 0, 9, 0, 379)) (by rfl) (by rfl) hM760 (by decide) ⟨Nat.le_of_ble_eq_true rfl, Nat.le_of_ble_eq_true rfl⟩ ?_
      exact mi_sem_ret (cal := fun _ _ _ => none) mi_in133 (by rfl)
    refine mi_sem_call mi_in181 (i := (.invokestatic 127, 3, 133, 0, 9, 0, 382)) (by rfl) (by rfl) hM761 (by decide) ⟨Nat.le_of_ble_eq_true rfl, Nat.le_of_ble_eq_true rfl⟩ ?_
    refine mi_sem_steps mi_in181 (mi_calok_none _ _) 2 _ (8, [(0, .ref 116), (1, .int a1), (2, .int a2), (3, .int a3), (4, .int a4)], [.int a2], (0, 0), mi_G) (by rfl) ?_
    refine mi_sem_b mi_in181 (decide (a2 < 0)) false (mi_ltF (0) (by decide) (by omega)) 29 11 ([(0, .ref 116), (1, .int a1), (2, .int a2), (3, .int a3), (4, .int a4)], [], (0, 0), mi_G) (by rfl) ?_
    refine mi_sem_steps mi_in181 (mi_calok_none _ _) 2 _ (13, [(0, .ref 116), (1, .int a1), (2, .int a2), (3, .int a3), (4, .int a4)], [.int a3, .ref 116], (0, 0), mi_G) (by rfl) ?_
    have hM763 : mi_Met mi_N0 2 mi_h132 [.ref 116, .int a3] mi_G (some (.int 0)) mi_G := by
      refine mi_met_of (y := 132) (q := (mi_h132, mi_c132)) rfl (by decide) (Nat.le_of_ble_eq_true rfl) ?_
      refine mi_sem_steps mi_in132 (mi_calok_none _ _) 6 _ (8, [(0, .ref 116), (1, .int a3)], [.int (-1), .int 0, .int a3], (0, 0), mi_G) (by rfl) ?_
      have hM762 : mi_Met mi_N0 1 mi_h131 [.int a3, .int 0, .int (-1)] mi_G (some (.int 0)) mi_G := by
        refine mi_met_of (y := 131) (q := (mi_h131, mi_c131)) rfl (by decide) (Nat.le_of_ble_eq_true rfl) ?_
        refine mi_sem_steps mi_in131 (mi_calok_none _ _) 2 _ (2, [(0, .int a3), (1, .int 0), (2, .int (-1))], [.int 0, .int a3], (0, 0), mi_G) (by rfl) ?_
        refine mi_sem_b mi_in131 (decide (a3 < 0)) false (mi_ltF (0) (by decide) (by omega)) 14 5 ([(0, .int a3), (1, .int 0), (2, .int (-1))], [], (0, 0), mi_G) (by rfl) ?_
        refine mi_sem_steps mi_in131 (mi_calok_none _ _) 2 _ (7, [(0, .int a3), (1, .int 0), (2, .int (-1))], [.int (-1), .int a3], (0, 0), mi_G) (by rfl) ?_
        refine mi_sem_b mi_in131 (decide ((-1) < a3)) true (mi_ltT2 (-1) (by decide) (by omega)) 14 10 ([(0, .int a3), (1, .int 0), (2, .int (-1))], [], (0, 0), mi_G) (by rfl) ?_
        refine mi_sem_steps mi_in131 (mi_calok_none _ _) 1 _ (15, [(0, .int a3), (1, .int 0), (2, .int (-1))], [.int 0], (0, 0), mi_G) (by rfl) ?_
        exact mi_sem_ret (cal := fun _ _ _ => none) mi_in131 (by rfl)
      refine mi_sem_call mi_in132 (i := (.invokestatic 119, 3, 131, 0, 9, 0, 379)) (by rfl) (by rfl) hM762 (by decide) ⟨Nat.le_of_ble_eq_true rfl, Nat.le_of_ble_eq_true rfl⟩ ?_
      exact mi_sem_ret (cal := fun _ _ _ => none) mi_in132 (by rfl)
    refine mi_sem_call mi_in181 (i := (.invokevirtual 137, 3, 132, 0, 9, 0, 387)) (by rfl) (by rfl) hM763 (by decide) ⟨Nat.le_of_ble_eq_true rfl, Nat.le_of_ble_eq_true rfl⟩ ?_
    refine mi_sem_steps mi_in181 (mi_calok_none _ _) 2 _ (30, [(0, .ref 116), (1, .int a1), (2, .int a2), (3, .int a3), (4, .int a4)], [.int (-1)], (0, 0), mi_G) (by rfl) ?_
    exact mi_sem_ret (cal := fun _ _ _ => none) mi_in181 (by rfl)

set_option maxRecDepth 100000 in
set_option maxHeartbeats 4000000 in
theorem mp_hired_8 (a1 : Int32) (a2 : Int32) (a3 : Int32) (a4 : Int32) (r0 : 0 ≤ (a2).toInt ∧ (a2).toInt ≤ 2147483647) (r1 : 0 ≤ (a3).toInt ∧ (a3).toInt ≤ 2147483647) (r2 : 6 ≤ (a1).toInt ∧ (a1).toInt ≤ 2147483647) : mi_P 92 181 [.int a1, .int a2, .int a3, .int a4] := by
  refine ⟨.int (-1), mi_G, mi_G, (mi_h92, mi_c92), (mi_h181, mi_c181), 3, 3, rfl, rfl, rfl, by decide, by decide, ?_, ?_⟩
  · refine mi_met_of (y := 92) (q := (mi_h92, mi_c92)) rfl (by decide) (Nat.le_of_ble_eq_true rfl) ?_
    refine mi_sem_steps mi_in92 (mi_calok_none _ _) 1 _ (1, [(0, .ref 0), (1, .int a1), (2, .int a2), (3, .int a3), (4, .int a4)], [.int a2], (0, 0), mi_G) (by rfl) ?_
    refine mi_sem_b mi_in92 (decide (a2 < 0)) false (mi_ltF (0) (by decide) (by omega)) 22 4 ([(0, .ref 0), (1, .int a1), (2, .int a2), (3, .int a3), (4, .int a4)], [], (0, 0), mi_G) (by rfl) ?_
    refine mi_sem_steps mi_in92 (mi_calok_none _ _) 2 _ (6, [(0, .ref 0), (1, .int a1), (2, .int a2), (3, .int a3), (4, .int a4)], [.int a3, .ref 0], (0, 0), mi_G) (by rfl) ?_
    have hM765 : mi_Met mi_N0 2 mi_h123 [.ref 0, .int a3] mi_G (some (.int 0)) mi_G := by
      refine mi_met_of (y := 123) (q := (mi_h123, mi_c123)) rfl (by decide) (Nat.le_of_ble_eq_true rfl) ?_
      refine mi_sem_steps mi_in123 (mi_calok_none _ _) 3 _ (5, [(0, .ref 0), (1, .int a3)], [.int a3, .ref 1], (0, 0), mi_G) (by rfl) ?_
      have hM764 : mi_Met mi_N0 1 mi_h24 [.ref 1, .int a3] mi_G (some (.int 0)) mi_G := by
        refine mi_met_of (y := 24) (q := (mi_h24, mi_c24)) rfl (by decide) (Nat.le_of_ble_eq_true rfl) ?_
        refine mi_sem_steps mi_in24 (mi_calok_none _ _) 1 _ (1, [(0, .ref 1), (1, .int a3)], [.int a3], (0, 0), mi_G) (by rfl) ?_
        refine mi_sem_b mi_in24 (decide (a3 < 0)) false (mi_ltF (0) (by decide) (by omega)) 22 4 ([(0, .ref 1), (1, .int a3)], [], (0, 0), mi_G) (by rfl) ?_
        refine mi_sem_steps mi_in24 (mi_calok_none _ _) 3 _ (9, [(0, .ref 1), (1, .int a3)], [.int 0, .int a3], (0, 0), mi_G) (by rfl) ?_
        refine mi_sem_b mi_in24 (decide (0 ≤ a3)) true (mi_leT2 (0) (by decide) (by omega)) 22 12 ([(0, .ref 1), (1, .int a3)], [], (0, 0), mi_G) (by rfl) ?_
        refine mi_sem_steps mi_in24 (mi_calok_none _ _) 1 _ (23, [(0, .ref 1), (1, .int a3)], [.int 0], (0, 0), mi_G) (by rfl) ?_
        exact mi_sem_ret (cal := fun _ _ _ => none) mi_in24 (by rfl)
      refine mi_sem_call mi_in123 (i := (.invokevirtual 342, 3, 24, 0, 9, 0, 163)) (by rfl) (by rfl) hM764 (by decide) ⟨Nat.le_of_ble_eq_true rfl, Nat.le_of_ble_eq_true rfl⟩ ?_
      exact mi_sem_ret (cal := fun _ _ _ => none) mi_in123 (by rfl)
    refine mi_sem_call mi_in92 (i := (.invokevirtual 141, 3, 123, 0, 9, 0, 162)) (by rfl) (by rfl) hM765 (by decide) ⟨Nat.le_of_ble_eq_true rfl, Nat.le_of_ble_eq_true rfl⟩ ?_
    refine mi_sem_steps mi_in92 (mi_calok_none _ _) 2 _ (23, [(0, .ref 0), (1, .int a1), (2, .int a2), (3, .int a3), (4, .int a4)], [.int (-1)], (0, 0), mi_G) (by rfl) ?_
    exact mi_sem_ret (cal := fun _ _ _ => none) mi_in92 (by rfl)
  · refine mi_met_of (y := 181) (q := (mi_h181, mi_c181)) rfl (by decide) (Nat.le_of_ble_eq_true rfl) ?_
    refine mi_sem_steps mi_in181 (mi_calok_none _ _) 1 _ (1, [(0, .ref 116), (1, .int a1), (2, .int a2), (3, .int a3), (4, .int a4)], [.int a1], (0, 0), mi_G) (by rfl) ?_
    have hM767 : mi_Met mi_N0 2 mi_h133 [.int a1] mi_G (some (.int 0)) mi_G := by
      refine mi_met_of (y := 133) (q := (mi_h133, mi_c133)) rfl (by decide) (Nat.le_of_ble_eq_true rfl) ?_
      refine mi_sem_steps mi_in133 (mi_calok_none _ _) 3 _ (3, [(0, .int a1)], [.int 5, .int 0, .int a1], (0, 0), mi_G) (by rfl) ?_
      have hM766 : mi_Met mi_N0 1 mi_h131 [.int a1, .int 0, .int 5] mi_G (some (.int 0)) mi_G := by
        refine mi_met_of (y := 131) (q := (mi_h131, mi_c131)) rfl (by decide) (Nat.le_of_ble_eq_true rfl) ?_
        refine mi_sem_steps mi_in131 (mi_calok_none _ _) 2 _ (2, [(0, .int a1), (1, .int 0), (2, .int 5)], [.int 0, .int a1], (0, 0), mi_G) (by rfl) ?_
        refine mi_sem_b mi_in131 (decide (a1 < 0)) false (mi_ltF (0) (by decide) (by omega)) 14 5 ([(0, .int a1), (1, .int 0), (2, .int 5)], [], (0, 0), mi_G) (by rfl) ?_
        refine mi_sem_steps mi_in131 (mi_calok_none _ _) 2 _ (7, [(0, .int a1), (1, .int 0), (2, .int 5)], [.int 5, .int a1], (0, 0), mi_G) (by rfl) ?_
        refine mi_sem_b mi_in131 (decide (5 < a1)) true (mi_ltT2 (5) (by decide) (by omega)) 14 10 ([(0, .int a1), (1, .int 0), (2, .int 5)], [], (0, 0), mi_G) (by rfl) ?_
        refine mi_sem_steps mi_in131 (mi_calok_none _ _) 1 _ (15, [(0, .int a1), (1, .int 0), (2, .int 5)], [.int 0], (0, 0), mi_G) (by rfl) ?_
        exact mi_sem_ret (cal := fun _ _ _ => none) mi_in131 (by rfl)
      refine mi_sem_call mi_in133 (i := (.invokestatic 119, 3, 131, 0, 9, 0, 379)) (by rfl) (by rfl) hM766 (by decide) ⟨Nat.le_of_ble_eq_true rfl, Nat.le_of_ble_eq_true rfl⟩ ?_
      exact mi_sem_ret (cal := fun _ _ _ => none) mi_in133 (by rfl)
    refine mi_sem_call mi_in181 (i := (.invokestatic 127, 3, 133, 0, 9, 0, 382)) (by rfl) (by rfl) hM767 (by decide) ⟨Nat.le_of_ble_eq_true rfl, Nat.le_of_ble_eq_true rfl⟩ ?_
    refine mi_sem_steps mi_in181 (mi_calok_none _ _) 2 _ (30, [(0, .ref 116), (1, .int a1), (2, .int a2), (3, .int a3), (4, .int a4)], [.int (-1)], (0, 0), mi_G) (by rfl) ?_
    exact mi_sem_ret (cal := fun _ _ _ => none) mi_in181 (by rfl)

set_option maxRecDepth 100000 in
set_option maxHeartbeats 4000000 in
theorem mp_hired (a1 : Int32) (a2 : Int32) (a3 : Int32) (a4 : Int32) : mi_P 92 181 [.int a1, .int a2, .int a3, .int a4] := by
  have b0 := Int32.toInt_lt (a1)
  have c0 := Int32.le_toInt (a1)
  have b1 := Int32.toInt_lt (a2)
  have c1 := Int32.le_toInt (a2)
  have b2 := Int32.toInt_lt (a3)
  have c2 := Int32.le_toInt (a3)
  rcases Int.lt_or_le (a2).toInt 0 with _hh | _hh
  ·
    rcases Int.lt_or_le (a1).toInt 0 with _hh | _hh
    ·
      exact mp_hired_0 a1 a2 a3 a4 ⟨by omega, by omega⟩ ⟨by omega, by omega⟩
    ·
      rcases Int.lt_or_le (a1).toInt 6 with _hh | _hh
      ·
        exact mp_hired_1 a1 a2 a3 a4 ⟨by omega, by omega⟩ ⟨by omega, by omega⟩
      ·
        exact mp_hired_2 a1 a2 a3 a4 ⟨by omega, by omega⟩ ⟨by omega, by omega⟩
  ·
    rcases Int.lt_or_le (a3).toInt 0 with _hh | _hh
    ·
      rcases Int.lt_or_le (a1).toInt 0 with _hh | _hh
      ·
        exact mp_hired_3 a1 a2 a3 a4 ⟨by omega, by omega⟩ ⟨by omega, by omega⟩ ⟨by omega, by omega⟩
      ·
        rcases Int.lt_or_le (a1).toInt 6 with _hh | _hh
        ·
          exact mp_hired_4 a1 a2 a3 a4 ⟨by omega, by omega⟩ ⟨by omega, by omega⟩ ⟨by omega, by omega⟩
        ·
          exact mp_hired_5 a1 a2 a3 a4 ⟨by omega, by omega⟩ ⟨by omega, by omega⟩ ⟨by omega, by omega⟩
    ·
      rcases Int.lt_or_le (a1).toInt 0 with _hh | _hh
      ·
        exact mp_hired_6 a1 a2 a3 a4 ⟨by omega, by omega⟩ ⟨by omega, by omega⟩ ⟨by omega, by omega⟩
      ·
        rcases Int.lt_or_le (a1).toInt 6 with _hh | _hh
        ·
          exact mp_hired_7 a1 a2 a3 a4 ⟨by omega, by omega⟩ ⟨by omega, by omega⟩ ⟨by omega, by omega⟩
        ·
          exact mp_hired_8 a1 a2 a3 a4 ⟨by omega, by omega⟩ ⟨by omega, by omega⟩ ⟨by omega, by omega⟩

set_option maxRecDepth 100000 in
set_option maxHeartbeats 4000000 in
theorem mp_latch_0 (a1 : Int32) (a2 : Int32) (a3 : Int32) (r0 : (-2147483648) ≤ (a2).toInt ∧ (a2).toInt ≤ (-1)) (r1 : (-2147483648) ≤ (a1).toInt ∧ (a1).toInt ≤ (-1)) : mi_P 93 183 [.int a1, .int a2, .int a3] := by
  refine ⟨.int (-1), mi_G, mi_G, (mi_h93, mi_c93), (mi_h183, mi_c183), 3, 3, rfl, rfl, rfl, by decide, by decide, ?_, ?_⟩
  · refine mi_met_of (y := 93) (q := (mi_h93, mi_c93)) rfl (by decide) (Nat.le_of_ble_eq_true rfl) ?_
    refine mi_sem_steps mi_in93 (mi_calok_none _ _) 2 _ (2, [(0, .ref 0), (1, .int a1), (2, .int a2), (3, .int a3)], [.int a2, .ref 0], (0, 0), mi_G) (by rfl) ?_
    have hM771 : mi_Met mi_N0 2 mi_h123 [.ref 0, .int a2] mi_G (some (.int 0)) mi_G := by
      refine mi_met_of (y := 123) (q := (mi_h123, mi_c123)) rfl (by decide) (Nat.le_of_ble_eq_true rfl) ?_
      refine mi_sem_steps mi_in123 (mi_calok_none _ _) 3 _ (5, [(0, .ref 0), (1, .int a2)], [.int a2, .ref 1], (0, 0), mi_G) (by rfl) ?_
      have hM770 : mi_Met mi_N0 1 mi_h24 [.ref 1, .int a2] mi_G (some (.int 0)) mi_G := by
        refine mi_met_of (y := 24) (q := (mi_h24, mi_c24)) rfl (by decide) (Nat.le_of_ble_eq_true rfl) ?_
        refine mi_sem_steps mi_in24 (mi_calok_none _ _) 1 _ (1, [(0, .ref 1), (1, .int a2)], [.int a2], (0, 0), mi_G) (by rfl) ?_
        refine mi_sem_b mi_in24 (decide (a2 < 0)) true (mi_ltT (0) (by decide) (by omega)) 22 4 ([(0, .ref 1), (1, .int a2)], [], (0, 0), mi_G) (by rfl) ?_
        refine mi_sem_steps mi_in24 (mi_calok_none _ _) 1 _ (23, [(0, .ref 1), (1, .int a2)], [.int 0], (0, 0), mi_G) (by rfl) ?_
        exact mi_sem_ret (cal := fun _ _ _ => none) mi_in24 (by rfl)
      refine mi_sem_call mi_in123 (i := (.invokevirtual 342, 3, 24, 0, 9, 0, 163)) (by rfl) (by rfl) hM770 (by decide) ⟨Nat.le_of_ble_eq_true rfl, Nat.le_of_ble_eq_true rfl⟩ ?_
      exact mi_sem_ret (cal := fun _ _ _ => none) mi_in123 (by rfl)
    refine mi_sem_call mi_in93 (i := (.invokevirtual 141, 3, 123, 0, 9, 0, 162)) (by rfl) (by rfl) hM771 (by decide) ⟨Nat.le_of_ble_eq_true rfl, Nat.le_of_ble_eq_true rfl⟩ ?_
    refine mi_sem_steps mi_in93 (mi_calok_none _ _) 2 _ (18, [(0, .ref 0), (1, .int a1), (2, .int a2), (3, .int a3)], [.int (-1)], (0, 0), mi_G) (by rfl) ?_
    exact mi_sem_ret (cal := fun _ _ _ => none) mi_in93 (by rfl)
  · refine mi_met_of (y := 183) (q := (mi_h183, mi_c183)) rfl (by decide) (Nat.le_of_ble_eq_true rfl) ?_
    refine mi_sem_steps mi_in183 (mi_calok_none _ _) 1 _ (1, [(0, .ref 116), (1, .int a1), (2, .int a2), (3, .int a3)], [.int a1], (0, 0), mi_G) (by rfl) ?_
    have hM773 : mi_Met mi_N0 2 mi_h133 [.int a1] mi_G (some (.int 0)) mi_G := by
      refine mi_met_of (y := 133) (q := (mi_h133, mi_c133)) rfl (by decide) (Nat.le_of_ble_eq_true rfl) ?_
      refine mi_sem_steps mi_in133 (mi_calok_none _ _) 3 _ (3, [(0, .int a1)], [.int 5, .int 0, .int a1], (0, 0), mi_G) (by rfl) ?_
      have hM772 : mi_Met mi_N0 1 mi_h131 [.int a1, .int 0, .int 5] mi_G (some (.int 0)) mi_G := by
        refine mi_met_of (y := 131) (q := (mi_h131, mi_c131)) rfl (by decide) (Nat.le_of_ble_eq_true rfl) ?_
        refine mi_sem_steps mi_in131 (mi_calok_none _ _) 2 _ (2, [(0, .int a1), (1, .int 0), (2, .int 5)], [.int 0, .int a1], (0, 0), mi_G) (by rfl) ?_
        refine mi_sem_b mi_in131 (decide (a1 < 0)) true (mi_ltT (0) (by decide) (by omega)) 14 5 ([(0, .int a1), (1, .int 0), (2, .int 5)], [], (0, 0), mi_G) (by rfl) ?_
        refine mi_sem_steps mi_in131 (mi_calok_none _ _) 1 _ (15, [(0, .int a1), (1, .int 0), (2, .int 5)], [.int 0], (0, 0), mi_G) (by rfl) ?_
        exact mi_sem_ret (cal := fun _ _ _ => none) mi_in131 (by rfl)
      refine mi_sem_call mi_in133 (i := (.invokestatic 119, 3, 131, 0, 9, 0, 379)) (by rfl) (by rfl) hM772 (by decide) ⟨Nat.le_of_ble_eq_true rfl, Nat.le_of_ble_eq_true rfl⟩ ?_
      exact mi_sem_ret (cal := fun _ _ _ => none) mi_in133 (by rfl)
    refine mi_sem_call mi_in183 (i := (.invokestatic 127, 3, 133, 0, 9, 0, 382)) (by rfl) (by rfl) hM773 (by decide) ⟨Nat.le_of_ble_eq_true rfl, Nat.le_of_ble_eq_true rfl⟩ ?_
    refine mi_sem_steps mi_in183 (mi_calok_none _ _) 2 _ (25, [(0, .ref 116), (1, .int a1), (2, .int a2), (3, .int a3)], [.int (-1)], (0, 0), mi_G) (by rfl) ?_
    exact mi_sem_ret (cal := fun _ _ _ => none) mi_in183 (by rfl)

set_option maxRecDepth 100000 in
set_option maxHeartbeats 4000000 in
theorem mp_latch_1 (a1 : Int32) (a2 : Int32) (a3 : Int32) (r0 : (-2147483648) ≤ (a2).toInt ∧ (a2).toInt ≤ (-1)) (r1 : 0 ≤ (a1).toInt ∧ (a1).toInt ≤ 5) : mi_P 93 183 [.int a1, .int a2, .int a3] := by
  refine ⟨.int (-1), mi_G, mi_G, (mi_h93, mi_c93), (mi_h183, mi_c183), 3, 3, rfl, rfl, rfl, by decide, by decide, ?_, ?_⟩
  · refine mi_met_of (y := 93) (q := (mi_h93, mi_c93)) rfl (by decide) (Nat.le_of_ble_eq_true rfl) ?_
    refine mi_sem_steps mi_in93 (mi_calok_none _ _) 2 _ (2, [(0, .ref 0), (1, .int a1), (2, .int a2), (3, .int a3)], [.int a2, .ref 0], (0, 0), mi_G) (by rfl) ?_
    have hM777 : mi_Met mi_N0 2 mi_h123 [.ref 0, .int a2] mi_G (some (.int 0)) mi_G := by
      refine mi_met_of (y := 123) (q := (mi_h123, mi_c123)) rfl (by decide) (Nat.le_of_ble_eq_true rfl) ?_
      refine mi_sem_steps mi_in123 (mi_calok_none _ _) 3 _ (5, [(0, .ref 0), (1, .int a2)], [.int a2, .ref 1], (0, 0), mi_G) (by rfl) ?_
      have hM776 : mi_Met mi_N0 1 mi_h24 [.ref 1, .int a2] mi_G (some (.int 0)) mi_G := by
        refine mi_met_of (y := 24) (q := (mi_h24, mi_c24)) rfl (by decide) (Nat.le_of_ble_eq_true rfl) ?_
        refine mi_sem_steps mi_in24 (mi_calok_none _ _) 1 _ (1, [(0, .ref 1), (1, .int a2)], [.int a2], (0, 0), mi_G) (by rfl) ?_
        refine mi_sem_b mi_in24 (decide (a2 < 0)) true (mi_ltT (0) (by decide) (by omega)) 22 4 ([(0, .ref 1), (1, .int a2)], [], (0, 0), mi_G) (by rfl) ?_
        refine mi_sem_steps mi_in24 (mi_calok_none _ _) 1 _ (23, [(0, .ref 1), (1, .int a2)], [.int 0], (0, 0), mi_G) (by rfl) ?_
        exact mi_sem_ret (cal := fun _ _ _ => none) mi_in24 (by rfl)
      refine mi_sem_call mi_in123 (i := (.invokevirtual 342, 3, 24, 0, 9, 0, 163)) (by rfl) (by rfl) hM776 (by decide) ⟨Nat.le_of_ble_eq_true rfl, Nat.le_of_ble_eq_true rfl⟩ ?_
      exact mi_sem_ret (cal := fun _ _ _ => none) mi_in123 (by rfl)
    refine mi_sem_call mi_in93 (i := (.invokevirtual 141, 3, 123, 0, 9, 0, 162)) (by rfl) (by rfl) hM777 (by decide) ⟨Nat.le_of_ble_eq_true rfl, Nat.le_of_ble_eq_true rfl⟩ ?_
    refine mi_sem_steps mi_in93 (mi_calok_none _ _) 2 _ (18, [(0, .ref 0), (1, .int a1), (2, .int a2), (3, .int a3)], [.int (-1)], (0, 0), mi_G) (by rfl) ?_
    exact mi_sem_ret (cal := fun _ _ _ => none) mi_in93 (by rfl)
  · refine mi_met_of (y := 183) (q := (mi_h183, mi_c183)) rfl (by decide) (Nat.le_of_ble_eq_true rfl) ?_
    refine mi_sem_steps mi_in183 (mi_calok_none _ _) 1 _ (1, [(0, .ref 116), (1, .int a1), (2, .int a2), (3, .int a3)], [.int a1], (0, 0), mi_G) (by rfl) ?_
    have hM779 : mi_Met mi_N0 2 mi_h133 [.int a1] mi_G (some (.int 1)) mi_G := by
      refine mi_met_of (y := 133) (q := (mi_h133, mi_c133)) rfl (by decide) (Nat.le_of_ble_eq_true rfl) ?_
      refine mi_sem_steps mi_in133 (mi_calok_none _ _) 3 _ (3, [(0, .int a1)], [.int 5, .int 0, .int a1], (0, 0), mi_G) (by rfl) ?_
      have hM778 : mi_Met mi_N0 1 mi_h131 [.int a1, .int 0, .int 5] mi_G (some (.int 1)) mi_G := by
        refine mi_met_of (y := 131) (q := (mi_h131, mi_c131)) rfl (by decide) (Nat.le_of_ble_eq_true rfl) ?_
        refine mi_sem_steps mi_in131 (mi_calok_none _ _) 2 _ (2, [(0, .int a1), (1, .int 0), (2, .int 5)], [.int 0, .int a1], (0, 0), mi_G) (by rfl) ?_
        refine mi_sem_b mi_in131 (decide (a1 < 0)) false (mi_ltF (0) (by decide) (by omega)) 14 5 ([(0, .int a1), (1, .int 0), (2, .int 5)], [], (0, 0), mi_G) (by rfl) ?_
        refine mi_sem_steps mi_in131 (mi_calok_none _ _) 2 _ (7, [(0, .int a1), (1, .int 0), (2, .int 5)], [.int 5, .int a1], (0, 0), mi_G) (by rfl) ?_
        refine mi_sem_b mi_in131 (decide (5 < a1)) false (mi_ltF2 (5) (by decide) (by omega)) 14 10 ([(0, .int a1), (1, .int 0), (2, .int 5)], [], (0, 0), mi_G) (by rfl) ?_
        refine mi_sem_steps mi_in131 (mi_calok_none _ _) 2 _ (15, [(0, .int a1), (1, .int 0), (2, .int 5)], [.int 1], (0, 0), mi_G) (by rfl) ?_
        exact mi_sem_ret (cal := fun _ _ _ => none) mi_in131 (by rfl)
      refine mi_sem_call mi_in133 (i := (.invokestatic 119, 3, 131, 0, 9, 0, 379)) (by rfl) (by rfl) hM778 (by decide) ⟨Nat.le_of_ble_eq_true rfl, Nat.le_of_ble_eq_true rfl⟩ ?_
      exact mi_sem_ret (cal := fun _ _ _ => none) mi_in133 (by rfl)
    refine mi_sem_call mi_in183 (i := (.invokestatic 127, 3, 133, 0, 9, 0, 382)) (by rfl) (by rfl) hM779 (by decide) ⟨Nat.le_of_ble_eq_true rfl, Nat.le_of_ble_eq_true rfl⟩ ?_
    refine mi_sem_steps mi_in183 (mi_calok_none _ _) 3 _ (9, [(0, .ref 116), (1, .int a1), (2, .int a2), (3, .int a3)], [.int a2, .ref 116], (0, 0), mi_G) (by rfl) ?_
    have hM781 : mi_Met mi_N0 2 mi_h132 [.ref 116, .int a2] mi_G (some (.int 0)) mi_G := by
      refine mi_met_of (y := 132) (q := (mi_h132, mi_c132)) rfl (by decide) (Nat.le_of_ble_eq_true rfl) ?_
      refine mi_sem_steps mi_in132 (mi_calok_none _ _) 6 _ (8, [(0, .ref 116), (1, .int a2)], [.int (-1), .int 0, .int a2], (0, 0), mi_G) (by rfl) ?_
      have hM780 : mi_Met mi_N0 1 mi_h131 [.int a2, .int 0, .int (-1)] mi_G (some (.int 0)) mi_G := by
        refine mi_met_of (y := 131) (q := (mi_h131, mi_c131)) rfl (by decide) (Nat.le_of_ble_eq_true rfl) ?_
        refine mi_sem_steps mi_in131 (mi_calok_none _ _) 2 _ (2, [(0, .int a2), (1, .int 0), (2, .int (-1))], [.int 0, .int a2], (0, 0), mi_G) (by rfl) ?_
        refine mi_sem_b mi_in131 (decide (a2 < 0)) true (mi_ltT (0) (by decide) (by omega)) 14 5 ([(0, .int a2), (1, .int 0), (2, .int (-1))], [], (0, 0), mi_G) (by rfl) ?_
        refine mi_sem_steps mi_in131 (mi_calok_none _ _) 1 _ (15, [(0, .int a2), (1, .int 0), (2, .int (-1))], [.int 0], (0, 0), mi_G) (by rfl) ?_
        exact mi_sem_ret (cal := fun _ _ _ => none) mi_in131 (by rfl)
      refine mi_sem_call mi_in132 (i := (.invokestatic 119, 3, 131, 0, 9, 0, 379)) (by rfl) (by rfl) hM780 (by decide) ⟨Nat.le_of_ble_eq_true rfl, Nat.le_of_ble_eq_true rfl⟩ ?_
      exact mi_sem_ret (cal := fun _ _ _ => none) mi_in132 (by rfl)
    refine mi_sem_call mi_in183 (i := (.invokevirtual 137, 3, 132, 0, 9, 0, 387)) (by rfl) (by rfl) hM781 (by decide) ⟨Nat.le_of_ble_eq_true rfl, Nat.le_of_ble_eq_true rfl⟩ ?_
    refine mi_sem_steps mi_in183 (mi_calok_none _ _) 2 _ (25, [(0, .ref 116), (1, .int a1), (2, .int a2), (3, .int a3)], [.int (-1)], (0, 0), mi_G) (by rfl) ?_
    exact mi_sem_ret (cal := fun _ _ _ => none) mi_in183 (by rfl)

set_option maxRecDepth 100000 in
set_option maxHeartbeats 4000000 in
theorem mp_latch_2 (a1 : Int32) (a2 : Int32) (a3 : Int32) (r0 : (-2147483648) ≤ (a2).toInt ∧ (a2).toInt ≤ (-1)) (r1 : 6 ≤ (a1).toInt ∧ (a1).toInt ≤ 2147483647) : mi_P 93 183 [.int a1, .int a2, .int a3] := by
  refine ⟨.int (-1), mi_G, mi_G, (mi_h93, mi_c93), (mi_h183, mi_c183), 3, 3, rfl, rfl, rfl, by decide, by decide, ?_, ?_⟩
  · refine mi_met_of (y := 93) (q := (mi_h93, mi_c93)) rfl (by decide) (Nat.le_of_ble_eq_true rfl) ?_
    refine mi_sem_steps mi_in93 (mi_calok_none _ _) 2 _ (2, [(0, .ref 0), (1, .int a1), (2, .int a2), (3, .int a3)], [.int a2, .ref 0], (0, 0), mi_G) (by rfl) ?_
    have hM783 : mi_Met mi_N0 2 mi_h123 [.ref 0, .int a2] mi_G (some (.int 0)) mi_G := by
      refine mi_met_of (y := 123) (q := (mi_h123, mi_c123)) rfl (by decide) (Nat.le_of_ble_eq_true rfl) ?_
      refine mi_sem_steps mi_in123 (mi_calok_none _ _) 3 _ (5, [(0, .ref 0), (1, .int a2)], [.int a2, .ref 1], (0, 0), mi_G) (by rfl) ?_
      have hM782 : mi_Met mi_N0 1 mi_h24 [.ref 1, .int a2] mi_G (some (.int 0)) mi_G := by
        refine mi_met_of (y := 24) (q := (mi_h24, mi_c24)) rfl (by decide) (Nat.le_of_ble_eq_true rfl) ?_
        refine mi_sem_steps mi_in24 (mi_calok_none _ _) 1 _ (1, [(0, .ref 1), (1, .int a2)], [.int a2], (0, 0), mi_G) (by rfl) ?_
        refine mi_sem_b mi_in24 (decide (a2 < 0)) true (mi_ltT (0) (by decide) (by omega)) 22 4 ([(0, .ref 1), (1, .int a2)], [], (0, 0), mi_G) (by rfl) ?_
        refine mi_sem_steps mi_in24 (mi_calok_none _ _) 1 _ (23, [(0, .ref 1), (1, .int a2)], [.int 0], (0, 0), mi_G) (by rfl) ?_
        exact mi_sem_ret (cal := fun _ _ _ => none) mi_in24 (by rfl)
      refine mi_sem_call mi_in123 (i := (.invokevirtual 342, 3, 24, 0, 9, 0, 163)) (by rfl) (by rfl) hM782 (by decide) ⟨Nat.le_of_ble_eq_true rfl, Nat.le_of_ble_eq_true rfl⟩ ?_
      exact mi_sem_ret (cal := fun _ _ _ => none) mi_in123 (by rfl)
    refine mi_sem_call mi_in93 (i := (.invokevirtual 141, 3, 123, 0, 9, 0, 162)) (by rfl) (by rfl) hM783 (by decide) ⟨Nat.le_of_ble_eq_true rfl, Nat.le_of_ble_eq_true rfl⟩ ?_
    refine mi_sem_steps mi_in93 (mi_calok_none _ _) 2 _ (18, [(0, .ref 0), (1, .int a1), (2, .int a2), (3, .int a3)], [.int (-1)], (0, 0), mi_G) (by rfl) ?_
    exact mi_sem_ret (cal := fun _ _ _ => none) mi_in93 (by rfl)
  · refine mi_met_of (y := 183) (q := (mi_h183, mi_c183)) rfl (by decide) (Nat.le_of_ble_eq_true rfl) ?_
    refine mi_sem_steps mi_in183 (mi_calok_none _ _) 1 _ (1, [(0, .ref 116), (1, .int a1), (2, .int a2), (3, .int a3)], [.int a1], (0, 0), mi_G) (by rfl) ?_
    have hM785 : mi_Met mi_N0 2 mi_h133 [.int a1] mi_G (some (.int 0)) mi_G := by
      refine mi_met_of (y := 133) (q := (mi_h133, mi_c133)) rfl (by decide) (Nat.le_of_ble_eq_true rfl) ?_
      refine mi_sem_steps mi_in133 (mi_calok_none _ _) 3 _ (3, [(0, .int a1)], [.int 5, .int 0, .int a1], (0, 0), mi_G) (by rfl) ?_
      have hM784 : mi_Met mi_N0 1 mi_h131 [.int a1, .int 0, .int 5] mi_G (some (.int 0)) mi_G := by
        refine mi_met_of (y := 131) (q := (mi_h131, mi_c131)) rfl (by decide) (Nat.le_of_ble_eq_true rfl) ?_
        refine mi_sem_steps mi_in131 (mi_calok_none _ _) 2 _ (2, [(0, .int a1), (1, .int 0), (2, .int 5)], [.int 0, .int a1], (0, 0), mi_G) (by rfl) ?_
        refine mi_sem_b mi_in131 (decide (a1 < 0)) false (mi_ltF (0) (by decide) (by omega)) 14 5 ([(0, .int a1), (1, .int 0), (2, .int 5)], [], (0, 0), mi_G) (by rfl) ?_
        refine mi_sem_steps mi_in131 (mi_calok_none _ _) 2 _ (7, [(0, .int a1), (1, .int 0), (2, .int 5)], [.int 5, .int a1], (0, 0), mi_G) (by rfl) ?_
        refine mi_sem_b mi_in131 (decide (5 < a1)) true (mi_ltT2 (5) (by decide) (by omega)) 14 10 ([(0, .int a1), (1, .int 0), (2, .int 5)], [], (0, 0), mi_G) (by rfl) ?_
        refine mi_sem_steps mi_in131 (mi_calok_none _ _) 1 _ (15, [(0, .int a1), (1, .int 0), (2, .int 5)], [.int 0], (0, 0), mi_G) (by rfl) ?_
        exact mi_sem_ret (cal := fun _ _ _ => none) mi_in131 (by rfl)
      refine mi_sem_call mi_in133 (i := (.invokestatic 119, 3, 131, 0, 9, 0, 379)) (by rfl) (by rfl) hM784 (by decide) ⟨Nat.le_of_ble_eq_true rfl, Nat.le_of_ble_eq_true rfl⟩ ?_
      exact mi_sem_ret (cal := fun _ _ _ => none) mi_in133 (by rfl)
    refine mi_sem_call mi_in183 (i := (.invokestatic 127, 3, 133, 0, 9, 0, 382)) (by rfl) (by rfl) hM785 (by decide) ⟨Nat.le_of_ble_eq_true rfl, Nat.le_of_ble_eq_true rfl⟩ ?_
    refine mi_sem_steps mi_in183 (mi_calok_none _ _) 2 _ (25, [(0, .ref 116), (1, .int a1), (2, .int a2), (3, .int a3)], [.int (-1)], (0, 0), mi_G) (by rfl) ?_
    exact mi_sem_ret (cal := fun _ _ _ => none) mi_in183 (by rfl)

set_option maxRecDepth 100000 in
set_option maxHeartbeats 4000000 in
theorem mp_latch_3 (a1 : Int32) (a2 : Int32) (a3 : Int32) (r0 : 0 ≤ (a2).toInt ∧ (a2).toInt ≤ 2147483647) (r1 : (-2147483648) ≤ (a1).toInt ∧ (a1).toInt ≤ (-1)) : mi_P 93 183 [.int a1, .int a2, .int a3] := by
  refine ⟨.int (-1), mi_G, mi_G, (mi_h93, mi_c93), (mi_h183, mi_c183), 3, 3, rfl, rfl, rfl, by decide, by decide, ?_, ?_⟩
  · refine mi_met_of (y := 93) (q := (mi_h93, mi_c93)) rfl (by decide) (Nat.le_of_ble_eq_true rfl) ?_
    refine mi_sem_steps mi_in93 (mi_calok_none _ _) 2 _ (2, [(0, .ref 0), (1, .int a1), (2, .int a2), (3, .int a3)], [.int a2, .ref 0], (0, 0), mi_G) (by rfl) ?_
    have hM789 : mi_Met mi_N0 2 mi_h123 [.ref 0, .int a2] mi_G (some (.int 0)) mi_G := by
      refine mi_met_of (y := 123) (q := (mi_h123, mi_c123)) rfl (by decide) (Nat.le_of_ble_eq_true rfl) ?_
      refine mi_sem_steps mi_in123 (mi_calok_none _ _) 3 _ (5, [(0, .ref 0), (1, .int a2)], [.int a2, .ref 1], (0, 0), mi_G) (by rfl) ?_
      have hM788 : mi_Met mi_N0 1 mi_h24 [.ref 1, .int a2] mi_G (some (.int 0)) mi_G := by
        refine mi_met_of (y := 24) (q := (mi_h24, mi_c24)) rfl (by decide) (Nat.le_of_ble_eq_true rfl) ?_
        refine mi_sem_steps mi_in24 (mi_calok_none _ _) 1 _ (1, [(0, .ref 1), (1, .int a2)], [.int a2], (0, 0), mi_G) (by rfl) ?_
        refine mi_sem_b mi_in24 (decide (a2 < 0)) false (mi_ltF (0) (by decide) (by omega)) 22 4 ([(0, .ref 1), (1, .int a2)], [], (0, 0), mi_G) (by rfl) ?_
        refine mi_sem_steps mi_in24 (mi_calok_none _ _) 3 _ (9, [(0, .ref 1), (1, .int a2)], [.int 0, .int a2], (0, 0), mi_G) (by rfl) ?_
        refine mi_sem_b mi_in24 (decide (0 ≤ a2)) true (mi_leT2 (0) (by decide) (by omega)) 22 12 ([(0, .ref 1), (1, .int a2)], [], (0, 0), mi_G) (by rfl) ?_
        refine mi_sem_steps mi_in24 (mi_calok_none _ _) 1 _ (23, [(0, .ref 1), (1, .int a2)], [.int 0], (0, 0), mi_G) (by rfl) ?_
        exact mi_sem_ret (cal := fun _ _ _ => none) mi_in24 (by rfl)
      refine mi_sem_call mi_in123 (i := (.invokevirtual 342, 3, 24, 0, 9, 0, 163)) (by rfl) (by rfl) hM788 (by decide) ⟨Nat.le_of_ble_eq_true rfl, Nat.le_of_ble_eq_true rfl⟩ ?_
      exact mi_sem_ret (cal := fun _ _ _ => none) mi_in123 (by rfl)
    refine mi_sem_call mi_in93 (i := (.invokevirtual 141, 3, 123, 0, 9, 0, 162)) (by rfl) (by rfl) hM789 (by decide) ⟨Nat.le_of_ble_eq_true rfl, Nat.le_of_ble_eq_true rfl⟩ ?_
    refine mi_sem_steps mi_in93 (mi_calok_none _ _) 2 _ (18, [(0, .ref 0), (1, .int a1), (2, .int a2), (3, .int a3)], [.int (-1)], (0, 0), mi_G) (by rfl) ?_
    exact mi_sem_ret (cal := fun _ _ _ => none) mi_in93 (by rfl)
  · refine mi_met_of (y := 183) (q := (mi_h183, mi_c183)) rfl (by decide) (Nat.le_of_ble_eq_true rfl) ?_
    refine mi_sem_steps mi_in183 (mi_calok_none _ _) 1 _ (1, [(0, .ref 116), (1, .int a1), (2, .int a2), (3, .int a3)], [.int a1], (0, 0), mi_G) (by rfl) ?_
    have hM791 : mi_Met mi_N0 2 mi_h133 [.int a1] mi_G (some (.int 0)) mi_G := by
      refine mi_met_of (y := 133) (q := (mi_h133, mi_c133)) rfl (by decide) (Nat.le_of_ble_eq_true rfl) ?_
      refine mi_sem_steps mi_in133 (mi_calok_none _ _) 3 _ (3, [(0, .int a1)], [.int 5, .int 0, .int a1], (0, 0), mi_G) (by rfl) ?_
      have hM790 : mi_Met mi_N0 1 mi_h131 [.int a1, .int 0, .int 5] mi_G (some (.int 0)) mi_G := by
        refine mi_met_of (y := 131) (q := (mi_h131, mi_c131)) rfl (by decide) (Nat.le_of_ble_eq_true rfl) ?_
        refine mi_sem_steps mi_in131 (mi_calok_none _ _) 2 _ (2, [(0, .int a1), (1, .int 0), (2, .int 5)], [.int 0, .int a1], (0, 0), mi_G) (by rfl) ?_
        refine mi_sem_b mi_in131 (decide (a1 < 0)) true (mi_ltT (0) (by decide) (by omega)) 14 5 ([(0, .int a1), (1, .int 0), (2, .int 5)], [], (0, 0), mi_G) (by rfl) ?_
        refine mi_sem_steps mi_in131 (mi_calok_none _ _) 1 _ (15, [(0, .int a1), (1, .int 0), (2, .int 5)], [.int 0], (0, 0), mi_G) (by rfl) ?_
        exact mi_sem_ret (cal := fun _ _ _ => none) mi_in131 (by rfl)
      refine mi_sem_call mi_in133 (i := (.invokestatic 119, 3, 131, 0, 9, 0, 379)) (by rfl) (by rfl) hM790 (by decide) ⟨Nat.le_of_ble_eq_true rfl, Nat.le_of_ble_eq_true rfl⟩ ?_
      exact mi_sem_ret (cal := fun _ _ _ => none) mi_in133 (by rfl)
    refine mi_sem_call mi_in183 (i := (.invokestatic 127, 3, 133, 0, 9, 0, 382)) (by rfl) (by rfl) hM791 (by decide) ⟨Nat.le_of_ble_eq_true rfl, Nat.le_of_ble_eq_true rfl⟩ ?_
    refine mi_sem_steps mi_in183 (mi_calok_none _ _) 2 _ (25, [(0, .ref 116), (1, .int a1), (2, .int a2), (3, .int a3)], [.int (-1)], (0, 0), mi_G) (by rfl) ?_
    exact mi_sem_ret (cal := fun _ _ _ => none) mi_in183 (by rfl)

set_option maxRecDepth 100000 in
set_option maxHeartbeats 4000000 in
theorem mp_latch_4 (a1 : Int32) (a2 : Int32) (a3 : Int32) (r0 : 0 ≤ (a2).toInt ∧ (a2).toInt ≤ 2147483647) (r1 : 0 ≤ (a1).toInt ∧ (a1).toInt ≤ 5) : mi_P 93 183 [.int a1, .int a2, .int a3] := by
  refine ⟨.int (-1), mi_G, mi_G, (mi_h93, mi_c93), (mi_h183, mi_c183), 3, 3, rfl, rfl, rfl, by decide, by decide, ?_, ?_⟩
  · refine mi_met_of (y := 93) (q := (mi_h93, mi_c93)) rfl (by decide) (Nat.le_of_ble_eq_true rfl) ?_
    refine mi_sem_steps mi_in93 (mi_calok_none _ _) 2 _ (2, [(0, .ref 0), (1, .int a1), (2, .int a2), (3, .int a3)], [.int a2, .ref 0], (0, 0), mi_G) (by rfl) ?_
    have hM795 : mi_Met mi_N0 2 mi_h123 [.ref 0, .int a2] mi_G (some (.int 0)) mi_G := by
      refine mi_met_of (y := 123) (q := (mi_h123, mi_c123)) rfl (by decide) (Nat.le_of_ble_eq_true rfl) ?_
      refine mi_sem_steps mi_in123 (mi_calok_none _ _) 3 _ (5, [(0, .ref 0), (1, .int a2)], [.int a2, .ref 1], (0, 0), mi_G) (by rfl) ?_
      have hM794 : mi_Met mi_N0 1 mi_h24 [.ref 1, .int a2] mi_G (some (.int 0)) mi_G := by
        refine mi_met_of (y := 24) (q := (mi_h24, mi_c24)) rfl (by decide) (Nat.le_of_ble_eq_true rfl) ?_
        refine mi_sem_steps mi_in24 (mi_calok_none _ _) 1 _ (1, [(0, .ref 1), (1, .int a2)], [.int a2], (0, 0), mi_G) (by rfl) ?_
        refine mi_sem_b mi_in24 (decide (a2 < 0)) false (mi_ltF (0) (by decide) (by omega)) 22 4 ([(0, .ref 1), (1, .int a2)], [], (0, 0), mi_G) (by rfl) ?_
        refine mi_sem_steps mi_in24 (mi_calok_none _ _) 3 _ (9, [(0, .ref 1), (1, .int a2)], [.int 0, .int a2], (0, 0), mi_G) (by rfl) ?_
        refine mi_sem_b mi_in24 (decide (0 ≤ a2)) true (mi_leT2 (0) (by decide) (by omega)) 22 12 ([(0, .ref 1), (1, .int a2)], [], (0, 0), mi_G) (by rfl) ?_
        refine mi_sem_steps mi_in24 (mi_calok_none _ _) 1 _ (23, [(0, .ref 1), (1, .int a2)], [.int 0], (0, 0), mi_G) (by rfl) ?_
        exact mi_sem_ret (cal := fun _ _ _ => none) mi_in24 (by rfl)
      refine mi_sem_call mi_in123 (i := (.invokevirtual 342, 3, 24, 0, 9, 0, 163)) (by rfl) (by rfl) hM794 (by decide) ⟨Nat.le_of_ble_eq_true rfl, Nat.le_of_ble_eq_true rfl⟩ ?_
      exact mi_sem_ret (cal := fun _ _ _ => none) mi_in123 (by rfl)
    refine mi_sem_call mi_in93 (i := (.invokevirtual 141, 3, 123, 0, 9, 0, 162)) (by rfl) (by rfl) hM795 (by decide) ⟨Nat.le_of_ble_eq_true rfl, Nat.le_of_ble_eq_true rfl⟩ ?_
    refine mi_sem_steps mi_in93 (mi_calok_none _ _) 2 _ (18, [(0, .ref 0), (1, .int a1), (2, .int a2), (3, .int a3)], [.int (-1)], (0, 0), mi_G) (by rfl) ?_
    exact mi_sem_ret (cal := fun _ _ _ => none) mi_in93 (by rfl)
  · refine mi_met_of (y := 183) (q := (mi_h183, mi_c183)) rfl (by decide) (Nat.le_of_ble_eq_true rfl) ?_
    refine mi_sem_steps mi_in183 (mi_calok_none _ _) 1 _ (1, [(0, .ref 116), (1, .int a1), (2, .int a2), (3, .int a3)], [.int a1], (0, 0), mi_G) (by rfl) ?_
    have hM797 : mi_Met mi_N0 2 mi_h133 [.int a1] mi_G (some (.int 1)) mi_G := by
      refine mi_met_of (y := 133) (q := (mi_h133, mi_c133)) rfl (by decide) (Nat.le_of_ble_eq_true rfl) ?_
      refine mi_sem_steps mi_in133 (mi_calok_none _ _) 3 _ (3, [(0, .int a1)], [.int 5, .int 0, .int a1], (0, 0), mi_G) (by rfl) ?_
      have hM796 : mi_Met mi_N0 1 mi_h131 [.int a1, .int 0, .int 5] mi_G (some (.int 1)) mi_G := by
        refine mi_met_of (y := 131) (q := (mi_h131, mi_c131)) rfl (by decide) (Nat.le_of_ble_eq_true rfl) ?_
        refine mi_sem_steps mi_in131 (mi_calok_none _ _) 2 _ (2, [(0, .int a1), (1, .int 0), (2, .int 5)], [.int 0, .int a1], (0, 0), mi_G) (by rfl) ?_
        refine mi_sem_b mi_in131 (decide (a1 < 0)) false (mi_ltF (0) (by decide) (by omega)) 14 5 ([(0, .int a1), (1, .int 0), (2, .int 5)], [], (0, 0), mi_G) (by rfl) ?_
        refine mi_sem_steps mi_in131 (mi_calok_none _ _) 2 _ (7, [(0, .int a1), (1, .int 0), (2, .int 5)], [.int 5, .int a1], (0, 0), mi_G) (by rfl) ?_
        refine mi_sem_b mi_in131 (decide (5 < a1)) false (mi_ltF2 (5) (by decide) (by omega)) 14 10 ([(0, .int a1), (1, .int 0), (2, .int 5)], [], (0, 0), mi_G) (by rfl) ?_
        refine mi_sem_steps mi_in131 (mi_calok_none _ _) 2 _ (15, [(0, .int a1), (1, .int 0), (2, .int 5)], [.int 1], (0, 0), mi_G) (by rfl) ?_
        exact mi_sem_ret (cal := fun _ _ _ => none) mi_in131 (by rfl)
      refine mi_sem_call mi_in133 (i := (.invokestatic 119, 3, 131, 0, 9, 0, 379)) (by rfl) (by rfl) hM796 (by decide) ⟨Nat.le_of_ble_eq_true rfl, Nat.le_of_ble_eq_true rfl⟩ ?_
      exact mi_sem_ret (cal := fun _ _ _ => none) mi_in133 (by rfl)
    refine mi_sem_call mi_in183 (i := (.invokestatic 127, 3, 133, 0, 9, 0, 382)) (by rfl) (by rfl) hM797 (by decide) ⟨Nat.le_of_ble_eq_true rfl, Nat.le_of_ble_eq_true rfl⟩ ?_
    refine mi_sem_steps mi_in183 (mi_calok_none _ _) 3 _ (9, [(0, .ref 116), (1, .int a1), (2, .int a2), (3, .int a3)], [.int a2, .ref 116], (0, 0), mi_G) (by rfl) ?_
    have hM799 : mi_Met mi_N0 2 mi_h132 [.ref 116, .int a2] mi_G (some (.int 0)) mi_G := by
      refine mi_met_of (y := 132) (q := (mi_h132, mi_c132)) rfl (by decide) (Nat.le_of_ble_eq_true rfl) ?_
      refine mi_sem_steps mi_in132 (mi_calok_none _ _) 6 _ (8, [(0, .ref 116), (1, .int a2)], [.int (-1), .int 0, .int a2], (0, 0), mi_G) (by rfl) ?_
      have hM798 : mi_Met mi_N0 1 mi_h131 [.int a2, .int 0, .int (-1)] mi_G (some (.int 0)) mi_G := by
        refine mi_met_of (y := 131) (q := (mi_h131, mi_c131)) rfl (by decide) (Nat.le_of_ble_eq_true rfl) ?_
        refine mi_sem_steps mi_in131 (mi_calok_none _ _) 2 _ (2, [(0, .int a2), (1, .int 0), (2, .int (-1))], [.int 0, .int a2], (0, 0), mi_G) (by rfl) ?_
        refine mi_sem_b mi_in131 (decide (a2 < 0)) false (mi_ltF (0) (by decide) (by omega)) 14 5 ([(0, .int a2), (1, .int 0), (2, .int (-1))], [], (0, 0), mi_G) (by rfl) ?_
        refine mi_sem_steps mi_in131 (mi_calok_none _ _) 2 _ (7, [(0, .int a2), (1, .int 0), (2, .int (-1))], [.int (-1), .int a2], (0, 0), mi_G) (by rfl) ?_
        refine mi_sem_b mi_in131 (decide ((-1) < a2)) true (mi_ltT2 (-1) (by decide) (by omega)) 14 10 ([(0, .int a2), (1, .int 0), (2, .int (-1))], [], (0, 0), mi_G) (by rfl) ?_
        refine mi_sem_steps mi_in131 (mi_calok_none _ _) 1 _ (15, [(0, .int a2), (1, .int 0), (2, .int (-1))], [.int 0], (0, 0), mi_G) (by rfl) ?_
        exact mi_sem_ret (cal := fun _ _ _ => none) mi_in131 (by rfl)
      refine mi_sem_call mi_in132 (i := (.invokestatic 119, 3, 131, 0, 9, 0, 379)) (by rfl) (by rfl) hM798 (by decide) ⟨Nat.le_of_ble_eq_true rfl, Nat.le_of_ble_eq_true rfl⟩ ?_
      exact mi_sem_ret (cal := fun _ _ _ => none) mi_in132 (by rfl)
    refine mi_sem_call mi_in183 (i := (.invokevirtual 137, 3, 132, 0, 9, 0, 387)) (by rfl) (by rfl) hM799 (by decide) ⟨Nat.le_of_ble_eq_true rfl, Nat.le_of_ble_eq_true rfl⟩ ?_
    refine mi_sem_steps mi_in183 (mi_calok_none _ _) 2 _ (25, [(0, .ref 116), (1, .int a1), (2, .int a2), (3, .int a3)], [.int (-1)], (0, 0), mi_G) (by rfl) ?_
    exact mi_sem_ret (cal := fun _ _ _ => none) mi_in183 (by rfl)

set_option maxRecDepth 100000 in
set_option maxHeartbeats 4000000 in
theorem mp_latch_5 (a1 : Int32) (a2 : Int32) (a3 : Int32) (r0 : 0 ≤ (a2).toInt ∧ (a2).toInt ≤ 2147483647) (r1 : 6 ≤ (a1).toInt ∧ (a1).toInt ≤ 2147483647) : mi_P 93 183 [.int a1, .int a2, .int a3] := by
  refine ⟨.int (-1), mi_G, mi_G, (mi_h93, mi_c93), (mi_h183, mi_c183), 3, 3, rfl, rfl, rfl, by decide, by decide, ?_, ?_⟩
  · refine mi_met_of (y := 93) (q := (mi_h93, mi_c93)) rfl (by decide) (Nat.le_of_ble_eq_true rfl) ?_
    refine mi_sem_steps mi_in93 (mi_calok_none _ _) 2 _ (2, [(0, .ref 0), (1, .int a1), (2, .int a2), (3, .int a3)], [.int a2, .ref 0], (0, 0), mi_G) (by rfl) ?_
    have hM801 : mi_Met mi_N0 2 mi_h123 [.ref 0, .int a2] mi_G (some (.int 0)) mi_G := by
      refine mi_met_of (y := 123) (q := (mi_h123, mi_c123)) rfl (by decide) (Nat.le_of_ble_eq_true rfl) ?_
      refine mi_sem_steps mi_in123 (mi_calok_none _ _) 3 _ (5, [(0, .ref 0), (1, .int a2)], [.int a2, .ref 1], (0, 0), mi_G) (by rfl) ?_
      have hM800 : mi_Met mi_N0 1 mi_h24 [.ref 1, .int a2] mi_G (some (.int 0)) mi_G := by
        refine mi_met_of (y := 24) (q := (mi_h24, mi_c24)) rfl (by decide) (Nat.le_of_ble_eq_true rfl) ?_
        refine mi_sem_steps mi_in24 (mi_calok_none _ _) 1 _ (1, [(0, .ref 1), (1, .int a2)], [.int a2], (0, 0), mi_G) (by rfl) ?_
        refine mi_sem_b mi_in24 (decide (a2 < 0)) false (mi_ltF (0) (by decide) (by omega)) 22 4 ([(0, .ref 1), (1, .int a2)], [], (0, 0), mi_G) (by rfl) ?_
        refine mi_sem_steps mi_in24 (mi_calok_none _ _) 3 _ (9, [(0, .ref 1), (1, .int a2)], [.int 0, .int a2], (0, 0), mi_G) (by rfl) ?_
        refine mi_sem_b mi_in24 (decide (0 ≤ a2)) true (mi_leT2 (0) (by decide) (by omega)) 22 12 ([(0, .ref 1), (1, .int a2)], [], (0, 0), mi_G) (by rfl) ?_
        refine mi_sem_steps mi_in24 (mi_calok_none _ _) 1 _ (23, [(0, .ref 1), (1, .int a2)], [.int 0], (0, 0), mi_G) (by rfl) ?_
        exact mi_sem_ret (cal := fun _ _ _ => none) mi_in24 (by rfl)
      refine mi_sem_call mi_in123 (i := (.invokevirtual 342, 3, 24, 0, 9, 0, 163)) (by rfl) (by rfl) hM800 (by decide) ⟨Nat.le_of_ble_eq_true rfl, Nat.le_of_ble_eq_true rfl⟩ ?_
      exact mi_sem_ret (cal := fun _ _ _ => none) mi_in123 (by rfl)
    refine mi_sem_call mi_in93 (i := (.invokevirtual 141, 3, 123, 0, 9, 0, 162)) (by rfl) (by rfl) hM801 (by decide) ⟨Nat.le_of_ble_eq_true rfl, Nat.le_of_ble_eq_true rfl⟩ ?_
    refine mi_sem_steps mi_in93 (mi_calok_none _ _) 2 _ (18, [(0, .ref 0), (1, .int a1), (2, .int a2), (3, .int a3)], [.int (-1)], (0, 0), mi_G) (by rfl) ?_
    exact mi_sem_ret (cal := fun _ _ _ => none) mi_in93 (by rfl)
  · refine mi_met_of (y := 183) (q := (mi_h183, mi_c183)) rfl (by decide) (Nat.le_of_ble_eq_true rfl) ?_
    refine mi_sem_steps mi_in183 (mi_calok_none _ _) 1 _ (1, [(0, .ref 116), (1, .int a1), (2, .int a2), (3, .int a3)], [.int a1], (0, 0), mi_G) (by rfl) ?_
    have hM803 : mi_Met mi_N0 2 mi_h133 [.int a1] mi_G (some (.int 0)) mi_G := by
      refine mi_met_of (y := 133) (q := (mi_h133, mi_c133)) rfl (by decide) (Nat.le_of_ble_eq_true rfl) ?_
      refine mi_sem_steps mi_in133 (mi_calok_none _ _) 3 _ (3, [(0, .int a1)], [.int 5, .int 0, .int a1], (0, 0), mi_G) (by rfl) ?_
      have hM802 : mi_Met mi_N0 1 mi_h131 [.int a1, .int 0, .int 5] mi_G (some (.int 0)) mi_G := by
        refine mi_met_of (y := 131) (q := (mi_h131, mi_c131)) rfl (by decide) (Nat.le_of_ble_eq_true rfl) ?_
        refine mi_sem_steps mi_in131 (mi_calok_none _ _) 2 _ (2, [(0, .int a1), (1, .int 0), (2, .int 5)], [.int 0, .int a1], (0, 0), mi_G) (by rfl) ?_
        refine mi_sem_b mi_in131 (decide (a1 < 0)) false (mi_ltF (0) (by decide) (by omega)) 14 5 ([(0, .int a1), (1, .int 0), (2, .int 5)], [], (0, 0), mi_G) (by rfl) ?_
        refine mi_sem_steps mi_in131 (mi_calok_none _ _) 2 _ (7, [(0, .int a1), (1, .int 0), (2, .int 5)], [.int 5, .int a1], (0, 0), mi_G) (by rfl) ?_
        refine mi_sem_b mi_in131 (decide (5 < a1)) true (mi_ltT2 (5) (by decide) (by omega)) 14 10 ([(0, .int a1), (1, .int 0), (2, .int 5)], [], (0, 0), mi_G) (by rfl) ?_
        refine mi_sem_steps mi_in131 (mi_calok_none _ _) 1 _ (15, [(0, .int a1), (1, .int 0), (2, .int 5)], [.int 0], (0, 0), mi_G) (by rfl) ?_
        exact mi_sem_ret (cal := fun _ _ _ => none) mi_in131 (by rfl)
      refine mi_sem_call mi_in133 (i := (.invokestatic 119, 3, 131, 0, 9, 0, 379)) (by rfl) (by rfl) hM802 (by decide) ⟨Nat.le_of_ble_eq_true rfl, Nat.le_of_ble_eq_true rfl⟩ ?_
      exact mi_sem_ret (cal := fun _ _ _ => none) mi_in133 (by rfl)
    refine mi_sem_call mi_in183 (i := (.invokestatic 127, 3, 133, 0, 9, 0, 382)) (by rfl) (by rfl) hM803 (by decide) ⟨Nat.le_of_ble_eq_true rfl, Nat.le_of_ble_eq_true rfl⟩ ?_
    refine mi_sem_steps mi_in183 (mi_calok_none _ _) 2 _ (25, [(0, .ref 116), (1, .int a1), (2, .int a2), (3, .int a3)], [.int (-1)], (0, 0), mi_G) (by rfl) ?_
    exact mi_sem_ret (cal := fun _ _ _ => none) mi_in183 (by rfl)

set_option maxRecDepth 100000 in
set_option maxHeartbeats 4000000 in
theorem mp_latch (a1 : Int32) (a2 : Int32) (a3 : Int32) : mi_P 93 183 [.int a1, .int a2, .int a3] := by
  have b0 := Int32.toInt_lt (a1)
  have c0 := Int32.le_toInt (a1)
  have b1 := Int32.toInt_lt (a2)
  have c1 := Int32.le_toInt (a2)
  rcases Int.lt_or_le (a2).toInt 0 with _hh | _hh
  ·
    rcases Int.lt_or_le (a1).toInt 0 with _hh | _hh
    ·
      exact mp_latch_0 a1 a2 a3 ⟨by omega, by omega⟩ ⟨by omega, by omega⟩
    ·
      rcases Int.lt_or_le (a1).toInt 6 with _hh | _hh
      ·
        exact mp_latch_1 a1 a2 a3 ⟨by omega, by omega⟩ ⟨by omega, by omega⟩
      ·
        exact mp_latch_2 a1 a2 a3 ⟨by omega, by omega⟩ ⟨by omega, by omega⟩
  ·
    rcases Int.lt_or_le (a1).toInt 0 with _hh | _hh
    ·
      exact mp_latch_3 a1 a2 a3 ⟨by omega, by omega⟩ ⟨by omega, by omega⟩
    ·
      rcases Int.lt_or_le (a1).toInt 6 with _hh | _hh
      ·
        exact mp_latch_4 a1 a2 a3 ⟨by omega, by omega⟩ ⟨by omega, by omega⟩
      ·
        exact mp_latch_5 a1 a2 a3 ⟨by omega, by omega⟩ ⟨by omega, by omega⟩

set_option maxRecDepth 100000 in
set_option maxHeartbeats 4000000 in
theorem mp_order_0 (a1 : Int32) (a2 : Int32) (a3 : Int32) (r0 : (-2147483648) ≤ (a1).toInt ∧ (a1).toInt ≤ (-1)) : mi_P 94 185 [.int a1, .int a2, .int a3] := by
  refine ⟨.int (-1), mi_G, mi_G, (mi_h94, mi_c94), (mi_h185, mi_c185), 1, 2, rfl, rfl, rfl, by decide, by decide, ?_, ?_⟩
  · refine mi_met_of (y := 94) (q := (mi_h94, mi_c94)) rfl (by decide) (Nat.le_of_ble_eq_true rfl) ?_
    refine mi_sem_steps mi_in94 (mi_calok_none _ _) 1 _ (1, [(0, .ref 0), (1, .int a1), (2, .int a2), (3, .int a3)], [.int a1], (0, 0), mi_G) (by rfl) ?_
    refine mi_sem_b mi_in94 (decide (a1 < 0)) true (mi_ltT (0) (by decide) (by omega)) 30 4 ([(0, .ref 0), (1, .int a1), (2, .int a2), (3, .int a3)], [], (0, 0), mi_G) (by rfl) ?_
    refine mi_sem_steps mi_in94 (mi_calok_none _ _) 1 _ (31, [(0, .ref 0), (1, .int a1), (2, .int a2), (3, .int a3)], [.int (-1)], (0, 0), mi_G) (by rfl) ?_
    exact mi_sem_ret (cal := fun _ _ _ => none) mi_in94 (by rfl)
  · refine mi_met_of (y := 185) (q := (mi_h185, mi_c185)) rfl (by decide) (Nat.le_of_ble_eq_true rfl) ?_
    refine mi_sem_steps mi_in185 (mi_calok_none _ _) 8 _ (10, [(0, .ref 116), (1, .int a1), (2, .int a2), (3, .int a3)], [.int 0, .int 0, .int a1], (0, 0), mi_G) (by rfl) ?_
    have hM804 : mi_Met mi_N0 1 mi_h131 [.int a1, .int 0, .int 0] mi_G (some (.int 0)) mi_G := by
      refine mi_met_of (y := 131) (q := (mi_h131, mi_c131)) rfl (by decide) (Nat.le_of_ble_eq_true rfl) ?_
      refine mi_sem_steps mi_in131 (mi_calok_none _ _) 2 _ (2, [(0, .int a1), (1, .int 0), (2, .int 0)], [.int 0, .int a1], (0, 0), mi_G) (by rfl) ?_
      refine mi_sem_b mi_in131 (decide (a1 < 0)) true (mi_ltT (0) (by decide) (by omega)) 14 5 ([(0, .int a1), (1, .int 0), (2, .int 0)], [], (0, 0), mi_G) (by rfl) ?_
      refine mi_sem_steps mi_in131 (mi_calok_none _ _) 1 _ (15, [(0, .int a1), (1, .int 0), (2, .int 0)], [.int 0], (0, 0), mi_G) (by rfl) ?_
      exact mi_sem_ret (cal := fun _ _ _ => none) mi_in131 (by rfl)
    refine mi_sem_call mi_in185 (i := (.invokestatic 119, 3, 131, 0, 9, 0, 379)) (by rfl) (by rfl) hM804 (by decide) ⟨Nat.le_of_ble_eq_true rfl, Nat.le_of_ble_eq_true rfl⟩ ?_
    refine mi_sem_steps mi_in185 (mi_calok_none _ _) 2 _ (30, [(0, .ref 116), (1, .int a1), (2, .int a2), (3, .int a3)], [.int (-1)], (0, 0), mi_G) (by rfl) ?_
    exact mi_sem_ret (cal := fun _ _ _ => none) mi_in185 (by rfl)

set_option maxRecDepth 100000 in
set_option maxHeartbeats 4000000 in
theorem mp_order_1 (a2 : Int32) (a3 : Int32) (r0 : (-2147483648) ≤ (a2).toInt ∧ (a2).toInt ≤ (-1)) : mi_P 94 185 [.int 0, .int a2, .int a3] := by
  refine ⟨.int (-1), mi_G, mi_G, (mi_h94, mi_c94), (mi_h185, mi_c185), 3, 3, rfl, rfl, rfl, by decide, by decide, ?_, ?_⟩
  · refine mi_met_of (y := 94) (q := (mi_h94, mi_c94)) rfl (by decide) (Nat.le_of_ble_eq_true rfl) ?_
    refine mi_sem_steps mi_in94 (mi_calok_none _ _) 11 _ (19, [(0, .ref 0), (1, .int 0), (2, .int a2), (3, .int a3)], [.int a2, .ref 0], (0, 0), mi_G) (by rfl) ?_
    have hM806 : mi_Met mi_N0 2 mi_h123 [.ref 0, .int a2] mi_G (some (.int 0)) mi_G := by
      refine mi_met_of (y := 123) (q := (mi_h123, mi_c123)) rfl (by decide) (Nat.le_of_ble_eq_true rfl) ?_
      refine mi_sem_steps mi_in123 (mi_calok_none _ _) 3 _ (5, [(0, .ref 0), (1, .int a2)], [.int a2, .ref 1], (0, 0), mi_G) (by rfl) ?_
      have hM805 : mi_Met mi_N0 1 mi_h24 [.ref 1, .int a2] mi_G (some (.int 0)) mi_G := by
        refine mi_met_of (y := 24) (q := (mi_h24, mi_c24)) rfl (by decide) (Nat.le_of_ble_eq_true rfl) ?_
        refine mi_sem_steps mi_in24 (mi_calok_none _ _) 1 _ (1, [(0, .ref 1), (1, .int a2)], [.int a2], (0, 0), mi_G) (by rfl) ?_
        refine mi_sem_b mi_in24 (decide (a2 < 0)) true (mi_ltT (0) (by decide) (by omega)) 22 4 ([(0, .ref 1), (1, .int a2)], [], (0, 0), mi_G) (by rfl) ?_
        refine mi_sem_steps mi_in24 (mi_calok_none _ _) 1 _ (23, [(0, .ref 1), (1, .int a2)], [.int 0], (0, 0), mi_G) (by rfl) ?_
        exact mi_sem_ret (cal := fun _ _ _ => none) mi_in24 (by rfl)
      refine mi_sem_call mi_in123 (i := (.invokevirtual 342, 3, 24, 0, 9, 0, 163)) (by rfl) (by rfl) hM805 (by decide) ⟨Nat.le_of_ble_eq_true rfl, Nat.le_of_ble_eq_true rfl⟩ ?_
      exact mi_sem_ret (cal := fun _ _ _ => none) mi_in123 (by rfl)
    refine mi_sem_call mi_in94 (i := (.invokevirtual 141, 3, 123, 0, 9, 0, 162)) (by rfl) (by rfl) hM806 (by decide) ⟨Nat.le_of_ble_eq_true rfl, Nat.le_of_ble_eq_true rfl⟩ ?_
    refine mi_sem_steps mi_in94 (mi_calok_none _ _) 2 _ (31, [(0, .ref 0), (1, .int 0), (2, .int a2), (3, .int a3)], [.int (-1)], (0, 0), mi_G) (by rfl) ?_
    exact mi_sem_ret (cal := fun _ _ _ => none) mi_in94 (by rfl)
  · refine mi_met_of (y := 185) (q := (mi_h185, mi_c185)) rfl (by decide) (Nat.le_of_ble_eq_true rfl) ?_
    refine mi_sem_steps mi_in185 (mi_calok_none _ _) 8 _ (10, [(0, .ref 116), (1, .int 0), (2, .int a2), (3, .int a3)], [.int 0, .int 0, .int 0], (0, 0), mi_G) (by rfl) ?_
    have hM807 : mi_Met mi_N0 1 mi_h131 [.int 0, .int 0, .int 0] mi_G (some (.int 1)) mi_G := mi_fun_ok mi_N0 1 131 (mi_h131, mi_c131) _ _ _ _ rfl (mi_eR_ok (by decide +kernel))
    refine mi_sem_call mi_in185 (i := (.invokestatic 119, 3, 131, 0, 9, 0, 379)) (by rfl) (by rfl) hM807 (by decide) ⟨Nat.le_of_ble_eq_true rfl, Nat.le_of_ble_eq_true rfl⟩ ?_
    refine mi_sem_steps mi_in185 (mi_calok_none _ _) 3 _ (18, [(0, .ref 116), (1, .int 0), (2, .int a2), (3, .int a3)], [.int a2, .ref 116], (0, 0), mi_G) (by rfl) ?_
    have hM809 : mi_Met mi_N0 2 mi_h132 [.ref 116, .int a2] mi_G (some (.int 0)) mi_G := by
      refine mi_met_of (y := 132) (q := (mi_h132, mi_c132)) rfl (by decide) (Nat.le_of_ble_eq_true rfl) ?_
      refine mi_sem_steps mi_in132 (mi_calok_none _ _) 6 _ (8, [(0, .ref 116), (1, .int a2)], [.int (-1), .int 0, .int a2], (0, 0), mi_G) (by rfl) ?_
      have hM808 : mi_Met mi_N0 1 mi_h131 [.int a2, .int 0, .int (-1)] mi_G (some (.int 0)) mi_G := by
        refine mi_met_of (y := 131) (q := (mi_h131, mi_c131)) rfl (by decide) (Nat.le_of_ble_eq_true rfl) ?_
        refine mi_sem_steps mi_in131 (mi_calok_none _ _) 2 _ (2, [(0, .int a2), (1, .int 0), (2, .int (-1))], [.int 0, .int a2], (0, 0), mi_G) (by rfl) ?_
        refine mi_sem_b mi_in131 (decide (a2 < 0)) true (mi_ltT (0) (by decide) (by omega)) 14 5 ([(0, .int a2), (1, .int 0), (2, .int (-1))], [], (0, 0), mi_G) (by rfl) ?_
        refine mi_sem_steps mi_in131 (mi_calok_none _ _) 1 _ (15, [(0, .int a2), (1, .int 0), (2, .int (-1))], [.int 0], (0, 0), mi_G) (by rfl) ?_
        exact mi_sem_ret (cal := fun _ _ _ => none) mi_in131 (by rfl)
      refine mi_sem_call mi_in132 (i := (.invokestatic 119, 3, 131, 0, 9, 0, 379)) (by rfl) (by rfl) hM808 (by decide) ⟨Nat.le_of_ble_eq_true rfl, Nat.le_of_ble_eq_true rfl⟩ ?_
      exact mi_sem_ret (cal := fun _ _ _ => none) mi_in132 (by rfl)
    refine mi_sem_call mi_in185 (i := (.invokevirtual 137, 3, 132, 0, 9, 0, 387)) (by rfl) (by rfl) hM809 (by decide) ⟨Nat.le_of_ble_eq_true rfl, Nat.le_of_ble_eq_true rfl⟩ ?_
    refine mi_sem_steps mi_in185 (mi_calok_none _ _) 2 _ (30, [(0, .ref 116), (1, .int 0), (2, .int a2), (3, .int a3)], [.int (-1)], (0, 0), mi_G) (by rfl) ?_
    exact mi_sem_ret (cal := fun _ _ _ => none) mi_in185 (by rfl)

set_option maxRecDepth 100000 in
set_option maxHeartbeats 4000000 in
theorem mp_order_2 (a2 : Int32) (a3 : Int32) (r0 : 0 ≤ (a2).toInt ∧ (a2).toInt ≤ 2147483647) : mi_P 94 185 [.int 0, .int a2, .int a3] := by
  refine ⟨.int (-1), mi_G, mi_G, (mi_h94, mi_c94), (mi_h185, mi_c185), 3, 3, rfl, rfl, rfl, by decide, by decide, ?_, ?_⟩
  · refine mi_met_of (y := 94) (q := (mi_h94, mi_c94)) rfl (by decide) (Nat.le_of_ble_eq_true rfl) ?_
    refine mi_sem_steps mi_in94 (mi_calok_none _ _) 11 _ (19, [(0, .ref 0), (1, .int 0), (2, .int a2), (3, .int a3)], [.int a2, .ref 0], (0, 0), mi_G) (by rfl) ?_
    have hM811 : mi_Met mi_N0 2 mi_h123 [.ref 0, .int a2] mi_G (some (.int 0)) mi_G := by
      refine mi_met_of (y := 123) (q := (mi_h123, mi_c123)) rfl (by decide) (Nat.le_of_ble_eq_true rfl) ?_
      refine mi_sem_steps mi_in123 (mi_calok_none _ _) 3 _ (5, [(0, .ref 0), (1, .int a2)], [.int a2, .ref 1], (0, 0), mi_G) (by rfl) ?_
      have hM810 : mi_Met mi_N0 1 mi_h24 [.ref 1, .int a2] mi_G (some (.int 0)) mi_G := by
        refine mi_met_of (y := 24) (q := (mi_h24, mi_c24)) rfl (by decide) (Nat.le_of_ble_eq_true rfl) ?_
        refine mi_sem_steps mi_in24 (mi_calok_none _ _) 1 _ (1, [(0, .ref 1), (1, .int a2)], [.int a2], (0, 0), mi_G) (by rfl) ?_
        refine mi_sem_b mi_in24 (decide (a2 < 0)) false (mi_ltF (0) (by decide) (by omega)) 22 4 ([(0, .ref 1), (1, .int a2)], [], (0, 0), mi_G) (by rfl) ?_
        refine mi_sem_steps mi_in24 (mi_calok_none _ _) 3 _ (9, [(0, .ref 1), (1, .int a2)], [.int 0, .int a2], (0, 0), mi_G) (by rfl) ?_
        refine mi_sem_b mi_in24 (decide (0 ≤ a2)) true (mi_leT2 (0) (by decide) (by omega)) 22 12 ([(0, .ref 1), (1, .int a2)], [], (0, 0), mi_G) (by rfl) ?_
        refine mi_sem_steps mi_in24 (mi_calok_none _ _) 1 _ (23, [(0, .ref 1), (1, .int a2)], [.int 0], (0, 0), mi_G) (by rfl) ?_
        exact mi_sem_ret (cal := fun _ _ _ => none) mi_in24 (by rfl)
      refine mi_sem_call mi_in123 (i := (.invokevirtual 342, 3, 24, 0, 9, 0, 163)) (by rfl) (by rfl) hM810 (by decide) ⟨Nat.le_of_ble_eq_true rfl, Nat.le_of_ble_eq_true rfl⟩ ?_
      exact mi_sem_ret (cal := fun _ _ _ => none) mi_in123 (by rfl)
    refine mi_sem_call mi_in94 (i := (.invokevirtual 141, 3, 123, 0, 9, 0, 162)) (by rfl) (by rfl) hM811 (by decide) ⟨Nat.le_of_ble_eq_true rfl, Nat.le_of_ble_eq_true rfl⟩ ?_
    refine mi_sem_steps mi_in94 (mi_calok_none _ _) 2 _ (31, [(0, .ref 0), (1, .int 0), (2, .int a2), (3, .int a3)], [.int (-1)], (0, 0), mi_G) (by rfl) ?_
    exact mi_sem_ret (cal := fun _ _ _ => none) mi_in94 (by rfl)
  · refine mi_met_of (y := 185) (q := (mi_h185, mi_c185)) rfl (by decide) (Nat.le_of_ble_eq_true rfl) ?_
    refine mi_sem_steps mi_in185 (mi_calok_none _ _) 8 _ (10, [(0, .ref 116), (1, .int 0), (2, .int a2), (3, .int a3)], [.int 0, .int 0, .int 0], (0, 0), mi_G) (by rfl) ?_
    have hM812 : mi_Met mi_N0 1 mi_h131 [.int 0, .int 0, .int 0] mi_G (some (.int 1)) mi_G := mi_fun_ok mi_N0 1 131 (mi_h131, mi_c131) _ _ _ _ rfl (mi_eR_ok (by decide +kernel))
    refine mi_sem_call mi_in185 (i := (.invokestatic 119, 3, 131, 0, 9, 0, 379)) (by rfl) (by rfl) hM812 (by decide) ⟨Nat.le_of_ble_eq_true rfl, Nat.le_of_ble_eq_true rfl⟩ ?_
    refine mi_sem_steps mi_in185 (mi_calok_none _ _) 3 _ (18, [(0, .ref 116), (1, .int 0), (2, .int a2), (3, .int a3)], [.int a2, .ref 116], (0, 0), mi_G) (by rfl) ?_
    have hM814 : mi_Met mi_N0 2 mi_h132 [.ref 116, .int a2] mi_G (some (.int 0)) mi_G := by
      refine mi_met_of (y := 132) (q := (mi_h132, mi_c132)) rfl (by decide) (Nat.le_of_ble_eq_true rfl) ?_
      refine mi_sem_steps mi_in132 (mi_calok_none _ _) 6 _ (8, [(0, .ref 116), (1, .int a2)], [.int (-1), .int 0, .int a2], (0, 0), mi_G) (by rfl) ?_
      have hM813 : mi_Met mi_N0 1 mi_h131 [.int a2, .int 0, .int (-1)] mi_G (some (.int 0)) mi_G := by
        refine mi_met_of (y := 131) (q := (mi_h131, mi_c131)) rfl (by decide) (Nat.le_of_ble_eq_true rfl) ?_
        refine mi_sem_steps mi_in131 (mi_calok_none _ _) 2 _ (2, [(0, .int a2), (1, .int 0), (2, .int (-1))], [.int 0, .int a2], (0, 0), mi_G) (by rfl) ?_
        refine mi_sem_b mi_in131 (decide (a2 < 0)) false (mi_ltF (0) (by decide) (by omega)) 14 5 ([(0, .int a2), (1, .int 0), (2, .int (-1))], [], (0, 0), mi_G) (by rfl) ?_
        refine mi_sem_steps mi_in131 (mi_calok_none _ _) 2 _ (7, [(0, .int a2), (1, .int 0), (2, .int (-1))], [.int (-1), .int a2], (0, 0), mi_G) (by rfl) ?_
        refine mi_sem_b mi_in131 (decide ((-1) < a2)) true (mi_ltT2 (-1) (by decide) (by omega)) 14 10 ([(0, .int a2), (1, .int 0), (2, .int (-1))], [], (0, 0), mi_G) (by rfl) ?_
        refine mi_sem_steps mi_in131 (mi_calok_none _ _) 1 _ (15, [(0, .int a2), (1, .int 0), (2, .int (-1))], [.int 0], (0, 0), mi_G) (by rfl) ?_
        exact mi_sem_ret (cal := fun _ _ _ => none) mi_in131 (by rfl)
      refine mi_sem_call mi_in132 (i := (.invokestatic 119, 3, 131, 0, 9, 0, 379)) (by rfl) (by rfl) hM813 (by decide) ⟨Nat.le_of_ble_eq_true rfl, Nat.le_of_ble_eq_true rfl⟩ ?_
      exact mi_sem_ret (cal := fun _ _ _ => none) mi_in132 (by rfl)
    refine mi_sem_call mi_in185 (i := (.invokevirtual 137, 3, 132, 0, 9, 0, 387)) (by rfl) (by rfl) hM814 (by decide) ⟨Nat.le_of_ble_eq_true rfl, Nat.le_of_ble_eq_true rfl⟩ ?_
    refine mi_sem_steps mi_in185 (mi_calok_none _ _) 2 _ (30, [(0, .ref 116), (1, .int 0), (2, .int a2), (3, .int a3)], [.int (-1)], (0, 0), mi_G) (by rfl) ?_
    exact mi_sem_ret (cal := fun _ _ _ => none) mi_in185 (by rfl)

set_option maxRecDepth 100000 in
set_option maxHeartbeats 4000000 in
theorem mp_order_3 (a1 : Int32) (a2 : Int32) (a3 : Int32) (r0 : 1 ≤ (a1).toInt ∧ (a1).toInt ≤ 2147483647) : mi_P 94 185 [.int a1, .int a2, .int a3] := by
  refine ⟨.int (-1), mi_G, mi_G, (mi_h94, mi_c94), (mi_h185, mi_c185), 1, 2, rfl, rfl, rfl, by decide, by decide, ?_, ?_⟩
  · refine mi_met_of (y := 94) (q := (mi_h94, mi_c94)) rfl (by decide) (Nat.le_of_ble_eq_true rfl) ?_
    refine mi_sem_steps mi_in94 (mi_calok_none _ _) 1 _ (1, [(0, .ref 0), (1, .int a1), (2, .int a2), (3, .int a3)], [.int a1], (0, 0), mi_G) (by rfl) ?_
    refine mi_sem_b mi_in94 (decide (a1 < 0)) false (mi_ltF (0) (by decide) (by omega)) 30 4 ([(0, .ref 0), (1, .int a1), (2, .int a2), (3, .int a3)], [], (0, 0), mi_G) (by rfl) ?_
    refine mi_sem_steps mi_in94 (mi_calok_none _ _) 6 _ (14, [(0, .ref 0), (1, .int a1), (2, .int a2), (3, .int a3)], [.int 1, .int a1], (0, 0), mi_G) (by rfl) ?_
    refine mi_sem_b mi_in94 (decide (1 ≤ a1)) true (mi_leT2 (1) (by decide) (by omega)) 30 17 ([(0, .ref 0), (1, .int a1), (2, .int a2), (3, .int a3)], [], (0, 0), mi_G) (by rfl) ?_
    refine mi_sem_steps mi_in94 (mi_calok_none _ _) 1 _ (31, [(0, .ref 0), (1, .int a1), (2, .int a2), (3, .int a3)], [.int (-1)], (0, 0), mi_G) (by rfl) ?_
    exact mi_sem_ret (cal := fun _ _ _ => none) mi_in94 (by rfl)
  · refine mi_met_of (y := 185) (q := (mi_h185, mi_c185)) rfl (by decide) (Nat.le_of_ble_eq_true rfl) ?_
    refine mi_sem_steps mi_in185 (mi_calok_none _ _) 8 _ (10, [(0, .ref 116), (1, .int a1), (2, .int a2), (3, .int a3)], [.int 0, .int 0, .int a1], (0, 0), mi_G) (by rfl) ?_
    have hM815 : mi_Met mi_N0 1 mi_h131 [.int a1, .int 0, .int 0] mi_G (some (.int 0)) mi_G := by
      refine mi_met_of (y := 131) (q := (mi_h131, mi_c131)) rfl (by decide) (Nat.le_of_ble_eq_true rfl) ?_
      refine mi_sem_steps mi_in131 (mi_calok_none _ _) 2 _ (2, [(0, .int a1), (1, .int 0), (2, .int 0)], [.int 0, .int a1], (0, 0), mi_G) (by rfl) ?_
      refine mi_sem_b mi_in131 (decide (a1 < 0)) false (mi_ltF (0) (by decide) (by omega)) 14 5 ([(0, .int a1), (1, .int 0), (2, .int 0)], [], (0, 0), mi_G) (by rfl) ?_
      refine mi_sem_steps mi_in131 (mi_calok_none _ _) 2 _ (7, [(0, .int a1), (1, .int 0), (2, .int 0)], [.int 0, .int a1], (0, 0), mi_G) (by rfl) ?_
      refine mi_sem_b mi_in131 (decide (0 < a1)) true (mi_ltT2 (0) (by decide) (by omega)) 14 10 ([(0, .int a1), (1, .int 0), (2, .int 0)], [], (0, 0), mi_G) (by rfl) ?_
      refine mi_sem_steps mi_in131 (mi_calok_none _ _) 1 _ (15, [(0, .int a1), (1, .int 0), (2, .int 0)], [.int 0], (0, 0), mi_G) (by rfl) ?_
      exact mi_sem_ret (cal := fun _ _ _ => none) mi_in131 (by rfl)
    refine mi_sem_call mi_in185 (i := (.invokestatic 119, 3, 131, 0, 9, 0, 379)) (by rfl) (by rfl) hM815 (by decide) ⟨Nat.le_of_ble_eq_true rfl, Nat.le_of_ble_eq_true rfl⟩ ?_
    refine mi_sem_steps mi_in185 (mi_calok_none _ _) 2 _ (30, [(0, .ref 116), (1, .int a1), (2, .int a2), (3, .int a3)], [.int (-1)], (0, 0), mi_G) (by rfl) ?_
    exact mi_sem_ret (cal := fun _ _ _ => none) mi_in185 (by rfl)

set_option maxRecDepth 100000 in
set_option maxHeartbeats 4000000 in
theorem mp_order (a1 : Int32) (a2 : Int32) (a3 : Int32) : mi_P 94 185 [.int a1, .int a2, .int a3] := by
  have b0 := Int32.toInt_lt (a1)
  have c0 := Int32.le_toInt (a1)
  have b1 := Int32.toInt_lt (a2)
  have c1 := Int32.le_toInt (a2)
  rcases Int.lt_or_le (a1).toInt 0 with _hh | _hh
  ·
    exact mp_order_0 a1 a2 a3 ⟨by omega, by omega⟩
  ·
    rcases Int.lt_or_le (a1).toInt 1 with _hh | _hh
    ·
      rcases Int.lt_or_le (a2).toInt 0 with _hh | _hh
      ·
        have e_a1 : a1 = 0 := Int32.toInt_inj.mp ((by omega : (a1).toInt = 0).trans (by decide))
        subst e_a1
        exact mp_order_1 a2 a3 ⟨by omega, by omega⟩
      ·
        have e_a1 : a1 = 0 := Int32.toInt_inj.mp ((by omega : (a1).toInt = 0).trans (by decide))
        subst e_a1
        exact mp_order_2 a2 a3 ⟨by omega, by omega⟩
    ·
      exact mp_order_3 a1 a2 a3 ⟨by omega, by omega⟩

set_option maxRecDepth 100000 in
set_option maxHeartbeats 4000000 in
theorem mp_flow_0 (a1 : Int32) (a2 : Int32) (r0 : (-2147483648) ≤ (a2).toInt ∧ (a2).toInt ≤ (-1)) (r1 : (-2147483648) ≤ (a1).toInt ∧ (a1).toInt ≤ (-1)) : mi_P 95 187 [.int a1, .int a2] := by
  refine ⟨.int (-1), mi_G, mi_G, (mi_h95, mi_c95), (mi_h187, mi_c187), 2, 3, rfl, rfl, rfl, by decide, by decide, ?_, ?_⟩
  · refine mi_met_of (y := 95) (q := (mi_h95, mi_c95)) rfl (by decide) (Nat.le_of_ble_eq_true rfl) ?_
    refine mi_sem_steps mi_in95 (mi_calok_none _ _) 2 _ (2, [(0, .ref 0), (1, .int a1), (2, .int a2)], [.int a2, .ref 0], (0, 0), mi_G) (by rfl) ?_
    have hM817 : mi_Met mi_N0 1 mi_h124 [.ref 0, .int a2] mi_G (some (.int 0)) mi_G := by
      refine mi_met_of (y := 124) (q := (mi_h124, mi_c124)) rfl (by decide) (Nat.le_of_ble_eq_true rfl) ?_
      refine mi_sem_steps mi_in124 (mi_calok_none _ _) 1 _ (1, [(0, .ref 0), (1, .int a2)], [.int a2], (0, 0), mi_G) (by rfl) ?_
      refine mi_sem_b mi_in124 (decide (a2 < 0)) true (mi_ltT (0) (by decide) (by omega)) 41 4 ([(0, .ref 0), (1, .int a2)], [], (0, 0), mi_G) (by rfl) ?_
      refine mi_sem_steps mi_in124 (mi_calok_none _ _) 1 _ (42, [(0, .ref 0), (1, .int a2)], [.int 0], (0, 0), mi_G) (by rfl) ?_
      exact mi_sem_ret (cal := fun _ _ _ => none) mi_in124 (by rfl)
    refine mi_sem_call mi_in95 (i := (.invokevirtual 200, 3, 124, 0, 9, 0, 254)) (by rfl) (by rfl) hM817 (by decide) ⟨Nat.le_of_ble_eq_true rfl, Nat.le_of_ble_eq_true rfl⟩ ?_
    refine mi_sem_steps mi_in95 (mi_calok_none _ _) 2 _ (9, [(0, .ref 0), (1, .int a1), (2, .int a2)], [.int (-1)], (0, 0), mi_G) (by rfl) ?_
    exact mi_sem_ret (cal := fun _ _ _ => none) mi_in95 (by rfl)
  · refine mi_met_of (y := 187) (q := (mi_h187, mi_c187)) rfl (by decide) (Nat.le_of_ble_eq_true rfl) ?_
    refine mi_sem_steps mi_in187 (mi_calok_none _ _) 1 _ (1, [(0, .ref 116), (1, .int a1), (2, .int a2)], [.int a1], (0, 0), mi_G) (by rfl) ?_
    have hM819 : mi_Met mi_N0 2 mi_h133 [.int a1] mi_G (some (.int 0)) mi_G := by
      refine mi_met_of (y := 133) (q := (mi_h133, mi_c133)) rfl (by decide) (Nat.le_of_ble_eq_true rfl) ?_
      refine mi_sem_steps mi_in133 (mi_calok_none _ _) 3 _ (3, [(0, .int a1)], [.int 5, .int 0, .int a1], (0, 0), mi_G) (by rfl) ?_
      have hM818 : mi_Met mi_N0 1 mi_h131 [.int a1, .int 0, .int 5] mi_G (some (.int 0)) mi_G := by
        refine mi_met_of (y := 131) (q := (mi_h131, mi_c131)) rfl (by decide) (Nat.le_of_ble_eq_true rfl) ?_
        refine mi_sem_steps mi_in131 (mi_calok_none _ _) 2 _ (2, [(0, .int a1), (1, .int 0), (2, .int 5)], [.int 0, .int a1], (0, 0), mi_G) (by rfl) ?_
        refine mi_sem_b mi_in131 (decide (a1 < 0)) true (mi_ltT (0) (by decide) (by omega)) 14 5 ([(0, .int a1), (1, .int 0), (2, .int 5)], [], (0, 0), mi_G) (by rfl) ?_
        refine mi_sem_steps mi_in131 (mi_calok_none _ _) 1 _ (15, [(0, .int a1), (1, .int 0), (2, .int 5)], [.int 0], (0, 0), mi_G) (by rfl) ?_
        exact mi_sem_ret (cal := fun _ _ _ => none) mi_in131 (by rfl)
      refine mi_sem_call mi_in133 (i := (.invokestatic 119, 3, 131, 0, 9, 0, 379)) (by rfl) (by rfl) hM818 (by decide) ⟨Nat.le_of_ble_eq_true rfl, Nat.le_of_ble_eq_true rfl⟩ ?_
      exact mi_sem_ret (cal := fun _ _ _ => none) mi_in133 (by rfl)
    refine mi_sem_call mi_in187 (i := (.invokestatic 127, 3, 133, 0, 9, 0, 382)) (by rfl) (by rfl) hM819 (by decide) ⟨Nat.le_of_ble_eq_true rfl, Nat.le_of_ble_eq_true rfl⟩ ?_
    refine mi_sem_steps mi_in187 (mi_calok_none _ _) 2 _ (16, [(0, .ref 116), (1, .int a1), (2, .int a2)], [.int (-1)], (0, 0), mi_G) (by rfl) ?_
    exact mi_sem_ret (cal := fun _ _ _ => none) mi_in187 (by rfl)

set_option maxRecDepth 100000 in
set_option maxHeartbeats 4000000 in
theorem mp_flow_1 (a1 : Int32) (a2 : Int32) (r0 : (-2147483648) ≤ (a2).toInt ∧ (a2).toInt ≤ (-1)) (r1 : 0 ≤ (a1).toInt ∧ (a1).toInt ≤ 5) : mi_P 95 187 [.int a1, .int a2] := by
  refine ⟨.int (-1), mi_G, mi_G, (mi_h95, mi_c95), (mi_h187, mi_c187), 2, 3, rfl, rfl, rfl, by decide, by decide, ?_, ?_⟩
  · refine mi_met_of (y := 95) (q := (mi_h95, mi_c95)) rfl (by decide) (Nat.le_of_ble_eq_true rfl) ?_
    refine mi_sem_steps mi_in95 (mi_calok_none _ _) 2 _ (2, [(0, .ref 0), (1, .int a1), (2, .int a2)], [.int a2, .ref 0], (0, 0), mi_G) (by rfl) ?_
    have hM821 : mi_Met mi_N0 1 mi_h124 [.ref 0, .int a2] mi_G (some (.int 0)) mi_G := by
      refine mi_met_of (y := 124) (q := (mi_h124, mi_c124)) rfl (by decide) (Nat.le_of_ble_eq_true rfl) ?_
      refine mi_sem_steps mi_in124 (mi_calok_none _ _) 1 _ (1, [(0, .ref 0), (1, .int a2)], [.int a2], (0, 0), mi_G) (by rfl) ?_
      refine mi_sem_b mi_in124 (decide (a2 < 0)) true (mi_ltT (0) (by decide) (by omega)) 41 4 ([(0, .ref 0), (1, .int a2)], [], (0, 0), mi_G) (by rfl) ?_
      refine mi_sem_steps mi_in124 (mi_calok_none _ _) 1 _ (42, [(0, .ref 0), (1, .int a2)], [.int 0], (0, 0), mi_G) (by rfl) ?_
      exact mi_sem_ret (cal := fun _ _ _ => none) mi_in124 (by rfl)
    refine mi_sem_call mi_in95 (i := (.invokevirtual 200, 3, 124, 0, 9, 0, 254)) (by rfl) (by rfl) hM821 (by decide) ⟨Nat.le_of_ble_eq_true rfl, Nat.le_of_ble_eq_true rfl⟩ ?_
    refine mi_sem_steps mi_in95 (mi_calok_none _ _) 2 _ (9, [(0, .ref 0), (1, .int a1), (2, .int a2)], [.int (-1)], (0, 0), mi_G) (by rfl) ?_
    exact mi_sem_ret (cal := fun _ _ _ => none) mi_in95 (by rfl)
  · refine mi_met_of (y := 187) (q := (mi_h187, mi_c187)) rfl (by decide) (Nat.le_of_ble_eq_true rfl) ?_
    refine mi_sem_steps mi_in187 (mi_calok_none _ _) 1 _ (1, [(0, .ref 116), (1, .int a1), (2, .int a2)], [.int a1], (0, 0), mi_G) (by rfl) ?_
    have hM823 : mi_Met mi_N0 2 mi_h133 [.int a1] mi_G (some (.int 1)) mi_G := by
      refine mi_met_of (y := 133) (q := (mi_h133, mi_c133)) rfl (by decide) (Nat.le_of_ble_eq_true rfl) ?_
      refine mi_sem_steps mi_in133 (mi_calok_none _ _) 3 _ (3, [(0, .int a1)], [.int 5, .int 0, .int a1], (0, 0), mi_G) (by rfl) ?_
      have hM822 : mi_Met mi_N0 1 mi_h131 [.int a1, .int 0, .int 5] mi_G (some (.int 1)) mi_G := by
        refine mi_met_of (y := 131) (q := (mi_h131, mi_c131)) rfl (by decide) (Nat.le_of_ble_eq_true rfl) ?_
        refine mi_sem_steps mi_in131 (mi_calok_none _ _) 2 _ (2, [(0, .int a1), (1, .int 0), (2, .int 5)], [.int 0, .int a1], (0, 0), mi_G) (by rfl) ?_
        refine mi_sem_b mi_in131 (decide (a1 < 0)) false (mi_ltF (0) (by decide) (by omega)) 14 5 ([(0, .int a1), (1, .int 0), (2, .int 5)], [], (0, 0), mi_G) (by rfl) ?_
        refine mi_sem_steps mi_in131 (mi_calok_none _ _) 2 _ (7, [(0, .int a1), (1, .int 0), (2, .int 5)], [.int 5, .int a1], (0, 0), mi_G) (by rfl) ?_
        refine mi_sem_b mi_in131 (decide (5 < a1)) false (mi_ltF2 (5) (by decide) (by omega)) 14 10 ([(0, .int a1), (1, .int 0), (2, .int 5)], [], (0, 0), mi_G) (by rfl) ?_
        refine mi_sem_steps mi_in131 (mi_calok_none _ _) 2 _ (15, [(0, .int a1), (1, .int 0), (2, .int 5)], [.int 1], (0, 0), mi_G) (by rfl) ?_
        exact mi_sem_ret (cal := fun _ _ _ => none) mi_in131 (by rfl)
      refine mi_sem_call mi_in133 (i := (.invokestatic 119, 3, 131, 0, 9, 0, 379)) (by rfl) (by rfl) hM822 (by decide) ⟨Nat.le_of_ble_eq_true rfl, Nat.le_of_ble_eq_true rfl⟩ ?_
      exact mi_sem_ret (cal := fun _ _ _ => none) mi_in133 (by rfl)
    refine mi_sem_call mi_in187 (i := (.invokestatic 127, 3, 133, 0, 9, 0, 382)) (by rfl) (by rfl) hM823 (by decide) ⟨Nat.le_of_ble_eq_true rfl, Nat.le_of_ble_eq_true rfl⟩ ?_
    refine mi_sem_steps mi_in187 (mi_calok_none _ _) 3 _ (9, [(0, .ref 116), (1, .int a1), (2, .int a2)], [.int a2, .ref 116], (0, 0), mi_G) (by rfl) ?_
    have hM824 : mi_Met mi_N0 1 mi_h186 [.ref 116, .int a2] mi_G (some (.int 0)) mi_G := by
      refine mi_met_of (y := 186) (q := (mi_h186, mi_c186)) rfl (by decide) (Nat.le_of_ble_eq_true rfl) ?_
      refine mi_sem_steps mi_in186 (mi_calok_none _ _) 1 _ (1, [(0, .ref 116), (1, .int a2)], [.int a2], (0, 0), mi_G) (by rfl) ?_
      refine mi_sem_b mi_in186 (decide (a2 < 0)) true (mi_ltT (0) (by decide) (by omega)) 41 4 ([(0, .ref 116), (1, .int a2)], [], (0, 0), mi_G) (by rfl) ?_
      refine mi_sem_steps mi_in186 (mi_calok_none _ _) 1 _ (42, [(0, .ref 116), (1, .int a2)], [.int 0], (0, 0), mi_G) (by rfl) ?_
      exact mi_sem_ret (cal := fun _ _ _ => none) mi_in186 (by rfl)
    refine mi_sem_call mi_in187 (i := (.invokevirtual 308, 3, 186, 0, 9, 0, 438)) (by rfl) (by rfl) hM824 (by decide) ⟨Nat.le_of_ble_eq_true rfl, Nat.le_of_ble_eq_true rfl⟩ ?_
    refine mi_sem_steps mi_in187 (mi_calok_none _ _) 2 _ (16, [(0, .ref 116), (1, .int a1), (2, .int a2)], [.int (-1)], (0, 0), mi_G) (by rfl) ?_
    exact mi_sem_ret (cal := fun _ _ _ => none) mi_in187 (by rfl)

set_option maxRecDepth 100000 in
set_option maxHeartbeats 4000000 in
theorem mp_flow_2 (a1 : Int32) (a2 : Int32) (r0 : (-2147483648) ≤ (a2).toInt ∧ (a2).toInt ≤ (-1)) (r1 : 6 ≤ (a1).toInt ∧ (a1).toInt ≤ 2147483647) : mi_P 95 187 [.int a1, .int a2] := by
  refine ⟨.int (-1), mi_G, mi_G, (mi_h95, mi_c95), (mi_h187, mi_c187), 2, 3, rfl, rfl, rfl, by decide, by decide, ?_, ?_⟩
  · refine mi_met_of (y := 95) (q := (mi_h95, mi_c95)) rfl (by decide) (Nat.le_of_ble_eq_true rfl) ?_
    refine mi_sem_steps mi_in95 (mi_calok_none _ _) 2 _ (2, [(0, .ref 0), (1, .int a1), (2, .int a2)], [.int a2, .ref 0], (0, 0), mi_G) (by rfl) ?_
    have hM825 : mi_Met mi_N0 1 mi_h124 [.ref 0, .int a2] mi_G (some (.int 0)) mi_G := by
      refine mi_met_of (y := 124) (q := (mi_h124, mi_c124)) rfl (by decide) (Nat.le_of_ble_eq_true rfl) ?_
      refine mi_sem_steps mi_in124 (mi_calok_none _ _) 1 _ (1, [(0, .ref 0), (1, .int a2)], [.int a2], (0, 0), mi_G) (by rfl) ?_
      refine mi_sem_b mi_in124 (decide (a2 < 0)) true (mi_ltT (0) (by decide) (by omega)) 41 4 ([(0, .ref 0), (1, .int a2)], [], (0, 0), mi_G) (by rfl) ?_
      refine mi_sem_steps mi_in124 (mi_calok_none _ _) 1 _ (42, [(0, .ref 0), (1, .int a2)], [.int 0], (0, 0), mi_G) (by rfl) ?_
      exact mi_sem_ret (cal := fun _ _ _ => none) mi_in124 (by rfl)
    refine mi_sem_call mi_in95 (i := (.invokevirtual 200, 3, 124, 0, 9, 0, 254)) (by rfl) (by rfl) hM825 (by decide) ⟨Nat.le_of_ble_eq_true rfl, Nat.le_of_ble_eq_true rfl⟩ ?_
    refine mi_sem_steps mi_in95 (mi_calok_none _ _) 2 _ (9, [(0, .ref 0), (1, .int a1), (2, .int a2)], [.int (-1)], (0, 0), mi_G) (by rfl) ?_
    exact mi_sem_ret (cal := fun _ _ _ => none) mi_in95 (by rfl)
  · refine mi_met_of (y := 187) (q := (mi_h187, mi_c187)) rfl (by decide) (Nat.le_of_ble_eq_true rfl) ?_
    refine mi_sem_steps mi_in187 (mi_calok_none _ _) 1 _ (1, [(0, .ref 116), (1, .int a1), (2, .int a2)], [.int a1], (0, 0), mi_G) (by rfl) ?_
    have hM827 : mi_Met mi_N0 2 mi_h133 [.int a1] mi_G (some (.int 0)) mi_G := by
      refine mi_met_of (y := 133) (q := (mi_h133, mi_c133)) rfl (by decide) (Nat.le_of_ble_eq_true rfl) ?_
      refine mi_sem_steps mi_in133 (mi_calok_none _ _) 3 _ (3, [(0, .int a1)], [.int 5, .int 0, .int a1], (0, 0), mi_G) (by rfl) ?_
      have hM826 : mi_Met mi_N0 1 mi_h131 [.int a1, .int 0, .int 5] mi_G (some (.int 0)) mi_G := by
        refine mi_met_of (y := 131) (q := (mi_h131, mi_c131)) rfl (by decide) (Nat.le_of_ble_eq_true rfl) ?_
        refine mi_sem_steps mi_in131 (mi_calok_none _ _) 2 _ (2, [(0, .int a1), (1, .int 0), (2, .int 5)], [.int 0, .int a1], (0, 0), mi_G) (by rfl) ?_
        refine mi_sem_b mi_in131 (decide (a1 < 0)) false (mi_ltF (0) (by decide) (by omega)) 14 5 ([(0, .int a1), (1, .int 0), (2, .int 5)], [], (0, 0), mi_G) (by rfl) ?_
        refine mi_sem_steps mi_in131 (mi_calok_none _ _) 2 _ (7, [(0, .int a1), (1, .int 0), (2, .int 5)], [.int 5, .int a1], (0, 0), mi_G) (by rfl) ?_
        refine mi_sem_b mi_in131 (decide (5 < a1)) true (mi_ltT2 (5) (by decide) (by omega)) 14 10 ([(0, .int a1), (1, .int 0), (2, .int 5)], [], (0, 0), mi_G) (by rfl) ?_
        refine mi_sem_steps mi_in131 (mi_calok_none _ _) 1 _ (15, [(0, .int a1), (1, .int 0), (2, .int 5)], [.int 0], (0, 0), mi_G) (by rfl) ?_
        exact mi_sem_ret (cal := fun _ _ _ => none) mi_in131 (by rfl)
      refine mi_sem_call mi_in133 (i := (.invokestatic 119, 3, 131, 0, 9, 0, 379)) (by rfl) (by rfl) hM826 (by decide) ⟨Nat.le_of_ble_eq_true rfl, Nat.le_of_ble_eq_true rfl⟩ ?_
      exact mi_sem_ret (cal := fun _ _ _ => none) mi_in133 (by rfl)
    refine mi_sem_call mi_in187 (i := (.invokestatic 127, 3, 133, 0, 9, 0, 382)) (by rfl) (by rfl) hM827 (by decide) ⟨Nat.le_of_ble_eq_true rfl, Nat.le_of_ble_eq_true rfl⟩ ?_
    refine mi_sem_steps mi_in187 (mi_calok_none _ _) 2 _ (16, [(0, .ref 116), (1, .int a1), (2, .int a2)], [.int (-1)], (0, 0), mi_G) (by rfl) ?_
    exact mi_sem_ret (cal := fun _ _ _ => none) mi_in187 (by rfl)

set_option maxRecDepth 100000 in
set_option maxHeartbeats 4000000 in
theorem mp_flow_3 (a1 : Int32) (a2 : Int32) (r0 : 0 ≤ (a2).toInt ∧ (a2).toInt ≤ 2147483647) (r1 : (-2147483648) ≤ ((a2 / 10)).toInt ∧ ((a2 / 10)).toInt ≤ (-1)) (r2 : (-2147483648) ≤ (a1).toInt ∧ (a1).toInt ≤ (-1)) : mi_P 95 187 [.int a1, .int a2] := by
  refine ⟨.int (-1), mi_G, mi_G, (mi_h95, mi_c95), (mi_h187, mi_c187), 4, 3, rfl, rfl, rfl, by decide, by decide, ?_, ?_⟩
  · refine mi_met_of (y := 95) (q := (mi_h95, mi_c95)) rfl (by decide) (Nat.le_of_ble_eq_true rfl) ?_
    refine mi_sem_steps mi_in95 (mi_calok_none _ _) 2 _ (2, [(0, .ref 0), (1, .int a1), (2, .int a2)], [.int a2, .ref 0], (0, 0), mi_G) (by rfl) ?_
    have hM833 : mi_Met mi_N0 3 mi_h124 [.ref 0, .int a2] mi_G (some (.int 0)) mi_G := by
      refine mi_met_of (y := 124) (q := (mi_h124, mi_c124)) rfl (by decide) (Nat.le_of_ble_eq_true rfl) ?_
      refine mi_sem_steps mi_in124 (mi_calok_none _ _) 1 _ (1, [(0, .ref 0), (1, .int a2)], [.int a2], (0, 0), mi_G) (by rfl) ?_
      refine mi_sem_b mi_in124 (decide (a2 < 0)) false (mi_ltF (0) (by decide) (by omega)) 41 4 ([(0, .ref 0), (1, .int a2)], [], (0, 0), mi_G) (by rfl) ?_
      refine mi_sem_steps mi_in124 (mi_calok_none _ _) 4 _ (9, [(0, .ref 0), (1, .int a2)], [.int ((a2 / 10)), .ref 0], (0, 0), mi_G) (by rfl) ?_
      have hM832 : mi_Met mi_N0 2 mi_h123 [.ref 0, .int ((a2 / 10))] mi_G (some (.int 0)) mi_G := by
        refine mi_met_of (y := 123) (q := (mi_h123, mi_c123)) rfl (by decide) (Nat.le_of_ble_eq_true rfl) ?_
        refine mi_sem_steps mi_in123 (mi_calok_none _ _) 3 _ (5, [(0, .ref 0), (1, .int ((a2 / 10)))], [.int ((a2 / 10)), .ref 1], (0, 0), mi_G) (by rfl) ?_
        have hM831 : mi_Met mi_N0 1 mi_h24 [.ref 1, .int ((a2 / 10))] mi_G (some (.int 0)) mi_G := by
          refine mi_met_of (y := 24) (q := (mi_h24, mi_c24)) rfl (by decide) (Nat.le_of_ble_eq_true rfl) ?_
          refine mi_sem_steps mi_in24 (mi_calok_none _ _) 1 _ (1, [(0, .ref 1), (1, .int ((a2 / 10)))], [.int ((a2 / 10))], (0, 0), mi_G) (by rfl) ?_
          refine mi_sem_b mi_in24 (decide (((a2 / 10)) < 0)) true (mi_ltT (0) (by decide) (by omega)) 22 4 ([(0, .ref 1), (1, .int ((a2 / 10)))], [], (0, 0), mi_G) (by rfl) ?_
          refine mi_sem_steps mi_in24 (mi_calok_none _ _) 1 _ (23, [(0, .ref 1), (1, .int ((a2 / 10)))], [.int 0], (0, 0), mi_G) (by rfl) ?_
          exact mi_sem_ret (cal := fun _ _ _ => none) mi_in24 (by rfl)
        refine mi_sem_call mi_in123 (i := (.invokevirtual 342, 3, 24, 0, 9, 0, 163)) (by rfl) (by rfl) hM831 (by decide) ⟨Nat.le_of_ble_eq_true rfl, Nat.le_of_ble_eq_true rfl⟩ ?_
        exact mi_sem_ret (cal := fun _ _ _ => none) mi_in123 (by rfl)
      refine mi_sem_call mi_in124 (i := (.invokevirtual 141, 3, 123, 0, 9, 0, 162)) (by rfl) (by rfl) hM832 (by decide) ⟨Nat.le_of_ble_eq_true rfl, Nat.le_of_ble_eq_true rfl⟩ ?_
      refine mi_sem_steps mi_in124 (mi_calok_none _ _) 2 _ (42, [(0, .ref 0), (1, .int a2)], [.int 0], (0, 0), mi_G) (by rfl) ?_
      exact mi_sem_ret (cal := fun _ _ _ => none) mi_in124 (by rfl)
    refine mi_sem_call mi_in95 (i := (.invokevirtual 200, 3, 124, 0, 9, 0, 254)) (by rfl) (by rfl) hM833 (by decide) ⟨Nat.le_of_ble_eq_true rfl, Nat.le_of_ble_eq_true rfl⟩ ?_
    refine mi_sem_steps mi_in95 (mi_calok_none _ _) 2 _ (9, [(0, .ref 0), (1, .int a1), (2, .int a2)], [.int (-1)], (0, 0), mi_G) (by rfl) ?_
    exact mi_sem_ret (cal := fun _ _ _ => none) mi_in95 (by rfl)
  · refine mi_met_of (y := 187) (q := (mi_h187, mi_c187)) rfl (by decide) (Nat.le_of_ble_eq_true rfl) ?_
    refine mi_sem_steps mi_in187 (mi_calok_none _ _) 1 _ (1, [(0, .ref 116), (1, .int a1), (2, .int a2)], [.int a1], (0, 0), mi_G) (by rfl) ?_
    have hM835 : mi_Met mi_N0 2 mi_h133 [.int a1] mi_G (some (.int 0)) mi_G := by
      refine mi_met_of (y := 133) (q := (mi_h133, mi_c133)) rfl (by decide) (Nat.le_of_ble_eq_true rfl) ?_
      refine mi_sem_steps mi_in133 (mi_calok_none _ _) 3 _ (3, [(0, .int a1)], [.int 5, .int 0, .int a1], (0, 0), mi_G) (by rfl) ?_
      have hM834 : mi_Met mi_N0 1 mi_h131 [.int a1, .int 0, .int 5] mi_G (some (.int 0)) mi_G := by
        refine mi_met_of (y := 131) (q := (mi_h131, mi_c131)) rfl (by decide) (Nat.le_of_ble_eq_true rfl) ?_
        refine mi_sem_steps mi_in131 (mi_calok_none _ _) 2 _ (2, [(0, .int a1), (1, .int 0), (2, .int 5)], [.int 0, .int a1], (0, 0), mi_G) (by rfl) ?_
        refine mi_sem_b mi_in131 (decide (a1 < 0)) true (mi_ltT (0) (by decide) (by omega)) 14 5 ([(0, .int a1), (1, .int 0), (2, .int 5)], [], (0, 0), mi_G) (by rfl) ?_
        refine mi_sem_steps mi_in131 (mi_calok_none _ _) 1 _ (15, [(0, .int a1), (1, .int 0), (2, .int 5)], [.int 0], (0, 0), mi_G) (by rfl) ?_
        exact mi_sem_ret (cal := fun _ _ _ => none) mi_in131 (by rfl)
      refine mi_sem_call mi_in133 (i := (.invokestatic 119, 3, 131, 0, 9, 0, 379)) (by rfl) (by rfl) hM834 (by decide) ⟨Nat.le_of_ble_eq_true rfl, Nat.le_of_ble_eq_true rfl⟩ ?_
      exact mi_sem_ret (cal := fun _ _ _ => none) mi_in133 (by rfl)
    refine mi_sem_call mi_in187 (i := (.invokestatic 127, 3, 133, 0, 9, 0, 382)) (by rfl) (by rfl) hM835 (by decide) ⟨Nat.le_of_ble_eq_true rfl, Nat.le_of_ble_eq_true rfl⟩ ?_
    refine mi_sem_steps mi_in187 (mi_calok_none _ _) 2 _ (16, [(0, .ref 116), (1, .int a1), (2, .int a2)], [.int (-1)], (0, 0), mi_G) (by rfl) ?_
    exact mi_sem_ret (cal := fun _ _ _ => none) mi_in187 (by rfl)

set_option maxRecDepth 100000 in
set_option maxHeartbeats 4000000 in
theorem mp_flow_4 (a1 : Int32) (a2 : Int32) (r0 : 0 ≤ (a2).toInt ∧ (a2).toInt ≤ 2147483647) (r1 : (-2147483648) ≤ ((a2 / 10)).toInt ∧ ((a2 / 10)).toInt ≤ (-1)) (r2 : 0 ≤ (a1).toInt ∧ (a1).toInt ≤ 5) : mi_P 95 187 [.int a1, .int a2] := by
  refine ⟨.int (-1), mi_G, mi_G, (mi_h95, mi_c95), (mi_h187, mi_c187), 4, 4, rfl, rfl, rfl, by decide, by decide, ?_, ?_⟩
  · refine mi_met_of (y := 95) (q := (mi_h95, mi_c95)) rfl (by decide) (Nat.le_of_ble_eq_true rfl) ?_
    refine mi_sem_steps mi_in95 (mi_calok_none _ _) 2 _ (2, [(0, .ref 0), (1, .int a1), (2, .int a2)], [.int a2, .ref 0], (0, 0), mi_G) (by rfl) ?_
    have hM841 : mi_Met mi_N0 3 mi_h124 [.ref 0, .int a2] mi_G (some (.int 0)) mi_G := by
      refine mi_met_of (y := 124) (q := (mi_h124, mi_c124)) rfl (by decide) (Nat.le_of_ble_eq_true rfl) ?_
      refine mi_sem_steps mi_in124 (mi_calok_none _ _) 1 _ (1, [(0, .ref 0), (1, .int a2)], [.int a2], (0, 0), mi_G) (by rfl) ?_
      refine mi_sem_b mi_in124 (decide (a2 < 0)) false (mi_ltF (0) (by decide) (by omega)) 41 4 ([(0, .ref 0), (1, .int a2)], [], (0, 0), mi_G) (by rfl) ?_
      refine mi_sem_steps mi_in124 (mi_calok_none _ _) 4 _ (9, [(0, .ref 0), (1, .int a2)], [.int ((a2 / 10)), .ref 0], (0, 0), mi_G) (by rfl) ?_
      have hM840 : mi_Met mi_N0 2 mi_h123 [.ref 0, .int ((a2 / 10))] mi_G (some (.int 0)) mi_G := by
        refine mi_met_of (y := 123) (q := (mi_h123, mi_c123)) rfl (by decide) (Nat.le_of_ble_eq_true rfl) ?_
        refine mi_sem_steps mi_in123 (mi_calok_none _ _) 3 _ (5, [(0, .ref 0), (1, .int ((a2 / 10)))], [.int ((a2 / 10)), .ref 1], (0, 0), mi_G) (by rfl) ?_
        have hM839 : mi_Met mi_N0 1 mi_h24 [.ref 1, .int ((a2 / 10))] mi_G (some (.int 0)) mi_G := by
          refine mi_met_of (y := 24) (q := (mi_h24, mi_c24)) rfl (by decide) (Nat.le_of_ble_eq_true rfl) ?_
          refine mi_sem_steps mi_in24 (mi_calok_none _ _) 1 _ (1, [(0, .ref 1), (1, .int ((a2 / 10)))], [.int ((a2 / 10))], (0, 0), mi_G) (by rfl) ?_
          refine mi_sem_b mi_in24 (decide (((a2 / 10)) < 0)) true (mi_ltT (0) (by decide) (by omega)) 22 4 ([(0, .ref 1), (1, .int ((a2 / 10)))], [], (0, 0), mi_G) (by rfl) ?_
          refine mi_sem_steps mi_in24 (mi_calok_none _ _) 1 _ (23, [(0, .ref 1), (1, .int ((a2 / 10)))], [.int 0], (0, 0), mi_G) (by rfl) ?_
          exact mi_sem_ret (cal := fun _ _ _ => none) mi_in24 (by rfl)
        refine mi_sem_call mi_in123 (i := (.invokevirtual 342, 3, 24, 0, 9, 0, 163)) (by rfl) (by rfl) hM839 (by decide) ⟨Nat.le_of_ble_eq_true rfl, Nat.le_of_ble_eq_true rfl⟩ ?_
        exact mi_sem_ret (cal := fun _ _ _ => none) mi_in123 (by rfl)
      refine mi_sem_call mi_in124 (i := (.invokevirtual 141, 3, 123, 0, 9, 0, 162)) (by rfl) (by rfl) hM840 (by decide) ⟨Nat.le_of_ble_eq_true rfl, Nat.le_of_ble_eq_true rfl⟩ ?_
      refine mi_sem_steps mi_in124 (mi_calok_none _ _) 2 _ (42, [(0, .ref 0), (1, .int a2)], [.int 0], (0, 0), mi_G) (by rfl) ?_
      exact mi_sem_ret (cal := fun _ _ _ => none) mi_in124 (by rfl)
    refine mi_sem_call mi_in95 (i := (.invokevirtual 200, 3, 124, 0, 9, 0, 254)) (by rfl) (by rfl) hM841 (by decide) ⟨Nat.le_of_ble_eq_true rfl, Nat.le_of_ble_eq_true rfl⟩ ?_
    refine mi_sem_steps mi_in95 (mi_calok_none _ _) 2 _ (9, [(0, .ref 0), (1, .int a1), (2, .int a2)], [.int (-1)], (0, 0), mi_G) (by rfl) ?_
    exact mi_sem_ret (cal := fun _ _ _ => none) mi_in95 (by rfl)
  · refine mi_met_of (y := 187) (q := (mi_h187, mi_c187)) rfl (by decide) (Nat.le_of_ble_eq_true rfl) ?_
    refine mi_sem_steps mi_in187 (mi_calok_none _ _) 1 _ (1, [(0, .ref 116), (1, .int a1), (2, .int a2)], [.int a1], (0, 0), mi_G) (by rfl) ?_
    have hM843 : mi_Met mi_N0 2 mi_h133 [.int a1] mi_G (some (.int 1)) mi_G := by
      refine mi_met_of (y := 133) (q := (mi_h133, mi_c133)) rfl (by decide) (Nat.le_of_ble_eq_true rfl) ?_
      refine mi_sem_steps mi_in133 (mi_calok_none _ _) 3 _ (3, [(0, .int a1)], [.int 5, .int 0, .int a1], (0, 0), mi_G) (by rfl) ?_
      have hM842 : mi_Met mi_N0 1 mi_h131 [.int a1, .int 0, .int 5] mi_G (some (.int 1)) mi_G := by
        refine mi_met_of (y := 131) (q := (mi_h131, mi_c131)) rfl (by decide) (Nat.le_of_ble_eq_true rfl) ?_
        refine mi_sem_steps mi_in131 (mi_calok_none _ _) 2 _ (2, [(0, .int a1), (1, .int 0), (2, .int 5)], [.int 0, .int a1], (0, 0), mi_G) (by rfl) ?_
        refine mi_sem_b mi_in131 (decide (a1 < 0)) false (mi_ltF (0) (by decide) (by omega)) 14 5 ([(0, .int a1), (1, .int 0), (2, .int 5)], [], (0, 0), mi_G) (by rfl) ?_
        refine mi_sem_steps mi_in131 (mi_calok_none _ _) 2 _ (7, [(0, .int a1), (1, .int 0), (2, .int 5)], [.int 5, .int a1], (0, 0), mi_G) (by rfl) ?_
        refine mi_sem_b mi_in131 (decide (5 < a1)) false (mi_ltF2 (5) (by decide) (by omega)) 14 10 ([(0, .int a1), (1, .int 0), (2, .int 5)], [], (0, 0), mi_G) (by rfl) ?_
        refine mi_sem_steps mi_in131 (mi_calok_none _ _) 2 _ (15, [(0, .int a1), (1, .int 0), (2, .int 5)], [.int 1], (0, 0), mi_G) (by rfl) ?_
        exact mi_sem_ret (cal := fun _ _ _ => none) mi_in131 (by rfl)
      refine mi_sem_call mi_in133 (i := (.invokestatic 119, 3, 131, 0, 9, 0, 379)) (by rfl) (by rfl) hM842 (by decide) ⟨Nat.le_of_ble_eq_true rfl, Nat.le_of_ble_eq_true rfl⟩ ?_
      exact mi_sem_ret (cal := fun _ _ _ => none) mi_in133 (by rfl)
    refine mi_sem_call mi_in187 (i := (.invokestatic 127, 3, 133, 0, 9, 0, 382)) (by rfl) (by rfl) hM843 (by decide) ⟨Nat.le_of_ble_eq_true rfl, Nat.le_of_ble_eq_true rfl⟩ ?_
    refine mi_sem_steps mi_in187 (mi_calok_none _ _) 3 _ (9, [(0, .ref 116), (1, .int a1), (2, .int a2)], [.int a2, .ref 116], (0, 0), mi_G) (by rfl) ?_
    have hM846 : mi_Met mi_N0 3 mi_h186 [.ref 116, .int a2] mi_G (some (.int 0)) mi_G := by
      refine mi_met_of (y := 186) (q := (mi_h186, mi_c186)) rfl (by decide) (Nat.le_of_ble_eq_true rfl) ?_
      refine mi_sem_steps mi_in186 (mi_calok_none _ _) 1 _ (1, [(0, .ref 116), (1, .int a2)], [.int a2], (0, 0), mi_G) (by rfl) ?_
      refine mi_sem_b mi_in186 (decide (a2 < 0)) false (mi_ltF (0) (by decide) (by omega)) 41 4 ([(0, .ref 116), (1, .int a2)], [], (0, 0), mi_G) (by rfl) ?_
      refine mi_sem_steps mi_in186 (mi_calok_none _ _) 4 _ (9, [(0, .ref 116), (1, .int a2)], [.int ((a2 / 10)), .ref 116], (0, 0), mi_G) (by rfl) ?_
      have hM845 : mi_Met mi_N0 2 mi_h132 [.ref 116, .int ((a2 / 10))] mi_G (some (.int 0)) mi_G := by
        refine mi_met_of (y := 132) (q := (mi_h132, mi_c132)) rfl (by decide) (Nat.le_of_ble_eq_true rfl) ?_
        refine mi_sem_steps mi_in132 (mi_calok_none _ _) 6 _ (8, [(0, .ref 116), (1, .int ((a2 / 10)))], [.int (-1), .int 0, .int ((a2 / 10))], (0, 0), mi_G) (by rfl) ?_
        have hM844 : mi_Met mi_N0 1 mi_h131 [.int ((a2 / 10)), .int 0, .int (-1)] mi_G (some (.int 0)) mi_G := by
          refine mi_met_of (y := 131) (q := (mi_h131, mi_c131)) rfl (by decide) (Nat.le_of_ble_eq_true rfl) ?_
          refine mi_sem_steps mi_in131 (mi_calok_none _ _) 2 _ (2, [(0, .int ((a2 / 10))), (1, .int 0), (2, .int (-1))], [.int 0, .int ((a2 / 10))], (0, 0), mi_G) (by rfl) ?_
          refine mi_sem_b mi_in131 (decide (((a2 / 10)) < 0)) true (mi_ltT (0) (by decide) (by omega)) 14 5 ([(0, .int ((a2 / 10))), (1, .int 0), (2, .int (-1))], [], (0, 0), mi_G) (by rfl) ?_
          refine mi_sem_steps mi_in131 (mi_calok_none _ _) 1 _ (15, [(0, .int ((a2 / 10))), (1, .int 0), (2, .int (-1))], [.int 0], (0, 0), mi_G) (by rfl) ?_
          exact mi_sem_ret (cal := fun _ _ _ => none) mi_in131 (by rfl)
        refine mi_sem_call mi_in132 (i := (.invokestatic 119, 3, 131, 0, 9, 0, 379)) (by rfl) (by rfl) hM844 (by decide) ⟨Nat.le_of_ble_eq_true rfl, Nat.le_of_ble_eq_true rfl⟩ ?_
        exact mi_sem_ret (cal := fun _ _ _ => none) mi_in132 (by rfl)
      refine mi_sem_call mi_in186 (i := (.invokevirtual 137, 3, 132, 0, 9, 0, 387)) (by rfl) (by rfl) hM845 (by decide) ⟨Nat.le_of_ble_eq_true rfl, Nat.le_of_ble_eq_true rfl⟩ ?_
      refine mi_sem_steps mi_in186 (mi_calok_none _ _) 2 _ (42, [(0, .ref 116), (1, .int a2)], [.int 0], (0, 0), mi_G) (by rfl) ?_
      exact mi_sem_ret (cal := fun _ _ _ => none) mi_in186 (by rfl)
    refine mi_sem_call mi_in187 (i := (.invokevirtual 308, 3, 186, 0, 9, 0, 438)) (by rfl) (by rfl) hM846 (by decide) ⟨Nat.le_of_ble_eq_true rfl, Nat.le_of_ble_eq_true rfl⟩ ?_
    refine mi_sem_steps mi_in187 (mi_calok_none _ _) 2 _ (16, [(0, .ref 116), (1, .int a1), (2, .int a2)], [.int (-1)], (0, 0), mi_G) (by rfl) ?_
    exact mi_sem_ret (cal := fun _ _ _ => none) mi_in187 (by rfl)

set_option maxRecDepth 100000 in
set_option maxHeartbeats 4000000 in
theorem mp_flow_5 (a1 : Int32) (a2 : Int32) (r0 : 0 ≤ (a2).toInt ∧ (a2).toInt ≤ 2147483647) (r1 : (-2147483648) ≤ ((a2 / 10)).toInt ∧ ((a2 / 10)).toInt ≤ (-1)) (r2 : 6 ≤ (a1).toInt ∧ (a1).toInt ≤ 2147483647) : mi_P 95 187 [.int a1, .int a2] := by
  refine ⟨.int (-1), mi_G, mi_G, (mi_h95, mi_c95), (mi_h187, mi_c187), 4, 3, rfl, rfl, rfl, by decide, by decide, ?_, ?_⟩
  · refine mi_met_of (y := 95) (q := (mi_h95, mi_c95)) rfl (by decide) (Nat.le_of_ble_eq_true rfl) ?_
    refine mi_sem_steps mi_in95 (mi_calok_none _ _) 2 _ (2, [(0, .ref 0), (1, .int a1), (2, .int a2)], [.int a2, .ref 0], (0, 0), mi_G) (by rfl) ?_
    have hM849 : mi_Met mi_N0 3 mi_h124 [.ref 0, .int a2] mi_G (some (.int 0)) mi_G := by
      refine mi_met_of (y := 124) (q := (mi_h124, mi_c124)) rfl (by decide) (Nat.le_of_ble_eq_true rfl) ?_
      refine mi_sem_steps mi_in124 (mi_calok_none _ _) 1 _ (1, [(0, .ref 0), (1, .int a2)], [.int a2], (0, 0), mi_G) (by rfl) ?_
      refine mi_sem_b mi_in124 (decide (a2 < 0)) false (mi_ltF (0) (by decide) (by omega)) 41 4 ([(0, .ref 0), (1, .int a2)], [], (0, 0), mi_G) (by rfl) ?_
      refine mi_sem_steps mi_in124 (mi_calok_none _ _) 4 _ (9, [(0, .ref 0), (1, .int a2)], [.int ((a2 / 10)), .ref 0], (0, 0), mi_G) (by rfl) ?_
      have hM848 : mi_Met mi_N0 2 mi_h123 [.ref 0, .int ((a2 / 10))] mi_G (some (.int 0)) mi_G := by
        refine mi_met_of (y := 123) (q := (mi_h123, mi_c123)) rfl (by decide) (Nat.le_of_ble_eq_true rfl) ?_
        refine mi_sem_steps mi_in123 (mi_calok_none _ _) 3 _ (5, [(0, .ref 0), (1, .int ((a2 / 10)))], [.int ((a2 / 10)), .ref 1], (0, 0), mi_G) (by rfl) ?_
        have hM847 : mi_Met mi_N0 1 mi_h24 [.ref 1, .int ((a2 / 10))] mi_G (some (.int 0)) mi_G := by
          refine mi_met_of (y := 24) (q := (mi_h24, mi_c24)) rfl (by decide) (Nat.le_of_ble_eq_true rfl) ?_
          refine mi_sem_steps mi_in24 (mi_calok_none _ _) 1 _ (1, [(0, .ref 1), (1, .int ((a2 / 10)))], [.int ((a2 / 10))], (0, 0), mi_G) (by rfl) ?_
          refine mi_sem_b mi_in24 (decide (((a2 / 10)) < 0)) true (mi_ltT (0) (by decide) (by omega)) 22 4 ([(0, .ref 1), (1, .int ((a2 / 10)))], [], (0, 0), mi_G) (by rfl) ?_
          refine mi_sem_steps mi_in24 (mi_calok_none _ _) 1 _ (23, [(0, .ref 1), (1, .int ((a2 / 10)))], [.int 0], (0, 0), mi_G) (by rfl) ?_
          exact mi_sem_ret (cal := fun _ _ _ => none) mi_in24 (by rfl)
        refine mi_sem_call mi_in123 (i := (.invokevirtual 342, 3, 24, 0, 9, 0, 163)) (by rfl) (by rfl) hM847 (by decide) ⟨Nat.le_of_ble_eq_true rfl, Nat.le_of_ble_eq_true rfl⟩ ?_
        exact mi_sem_ret (cal := fun _ _ _ => none) mi_in123 (by rfl)
      refine mi_sem_call mi_in124 (i := (.invokevirtual 141, 3, 123, 0, 9, 0, 162)) (by rfl) (by rfl) hM848 (by decide) ⟨Nat.le_of_ble_eq_true rfl, Nat.le_of_ble_eq_true rfl⟩ ?_
      refine mi_sem_steps mi_in124 (mi_calok_none _ _) 2 _ (42, [(0, .ref 0), (1, .int a2)], [.int 0], (0, 0), mi_G) (by rfl) ?_
      exact mi_sem_ret (cal := fun _ _ _ => none) mi_in124 (by rfl)
    refine mi_sem_call mi_in95 (i := (.invokevirtual 200, 3, 124, 0, 9, 0, 254)) (by rfl) (by rfl) hM849 (by decide) ⟨Nat.le_of_ble_eq_true rfl, Nat.le_of_ble_eq_true rfl⟩ ?_
    refine mi_sem_steps mi_in95 (mi_calok_none _ _) 2 _ (9, [(0, .ref 0), (1, .int a1), (2, .int a2)], [.int (-1)], (0, 0), mi_G) (by rfl) ?_
    exact mi_sem_ret (cal := fun _ _ _ => none) mi_in95 (by rfl)
  · refine mi_met_of (y := 187) (q := (mi_h187, mi_c187)) rfl (by decide) (Nat.le_of_ble_eq_true rfl) ?_
    refine mi_sem_steps mi_in187 (mi_calok_none _ _) 1 _ (1, [(0, .ref 116), (1, .int a1), (2, .int a2)], [.int a1], (0, 0), mi_G) (by rfl) ?_
    have hM851 : mi_Met mi_N0 2 mi_h133 [.int a1] mi_G (some (.int 0)) mi_G := by
      refine mi_met_of (y := 133) (q := (mi_h133, mi_c133)) rfl (by decide) (Nat.le_of_ble_eq_true rfl) ?_
      refine mi_sem_steps mi_in133 (mi_calok_none _ _) 3 _ (3, [(0, .int a1)], [.int 5, .int 0, .int a1], (0, 0), mi_G) (by rfl) ?_
      have hM850 : mi_Met mi_N0 1 mi_h131 [.int a1, .int 0, .int 5] mi_G (some (.int 0)) mi_G := by
        refine mi_met_of (y := 131) (q := (mi_h131, mi_c131)) rfl (by decide) (Nat.le_of_ble_eq_true rfl) ?_
        refine mi_sem_steps mi_in131 (mi_calok_none _ _) 2 _ (2, [(0, .int a1), (1, .int 0), (2, .int 5)], [.int 0, .int a1], (0, 0), mi_G) (by rfl) ?_
        refine mi_sem_b mi_in131 (decide (a1 < 0)) false (mi_ltF (0) (by decide) (by omega)) 14 5 ([(0, .int a1), (1, .int 0), (2, .int 5)], [], (0, 0), mi_G) (by rfl) ?_
        refine mi_sem_steps mi_in131 (mi_calok_none _ _) 2 _ (7, [(0, .int a1), (1, .int 0), (2, .int 5)], [.int 5, .int a1], (0, 0), mi_G) (by rfl) ?_
        refine mi_sem_b mi_in131 (decide (5 < a1)) true (mi_ltT2 (5) (by decide) (by omega)) 14 10 ([(0, .int a1), (1, .int 0), (2, .int 5)], [], (0, 0), mi_G) (by rfl) ?_
        refine mi_sem_steps mi_in131 (mi_calok_none _ _) 1 _ (15, [(0, .int a1), (1, .int 0), (2, .int 5)], [.int 0], (0, 0), mi_G) (by rfl) ?_
        exact mi_sem_ret (cal := fun _ _ _ => none) mi_in131 (by rfl)
      refine mi_sem_call mi_in133 (i := (.invokestatic 119, 3, 131, 0, 9, 0, 379)) (by rfl) (by rfl) hM850 (by decide) ⟨Nat.le_of_ble_eq_true rfl, Nat.le_of_ble_eq_true rfl⟩ ?_
      exact mi_sem_ret (cal := fun _ _ _ => none) mi_in133 (by rfl)
    refine mi_sem_call mi_in187 (i := (.invokestatic 127, 3, 133, 0, 9, 0, 382)) (by rfl) (by rfl) hM851 (by decide) ⟨Nat.le_of_ble_eq_true rfl, Nat.le_of_ble_eq_true rfl⟩ ?_
    refine mi_sem_steps mi_in187 (mi_calok_none _ _) 2 _ (16, [(0, .ref 116), (1, .int a1), (2, .int a2)], [.int (-1)], (0, 0), mi_G) (by rfl) ?_
    exact mi_sem_ret (cal := fun _ _ _ => none) mi_in187 (by rfl)

set_option maxRecDepth 100000 in
set_option maxHeartbeats 4000000 in
theorem mp_flow_6 (a1 : Int32) (a2 : Int32) (r0 : 0 ≤ (a2).toInt ∧ (a2).toInt ≤ 2147483647) (r1 : 0 ≤ ((a2 / 10)).toInt ∧ ((a2 / 10)).toInt ≤ 2147483647) (r2 : (-2147483648) ≤ (a1).toInt ∧ (a1).toInt ≤ (-1)) : mi_P 95 187 [.int a1, .int a2] := by
  refine ⟨.int (-1), mi_G, mi_G, (mi_h95, mi_c95), (mi_h187, mi_c187), 4, 3, rfl, rfl, rfl, by decide, by decide, ?_, ?_⟩
  · refine mi_met_of (y := 95) (q := (mi_h95, mi_c95)) rfl (by decide) (Nat.le_of_ble_eq_true rfl) ?_
    refine mi_sem_steps mi_in95 (mi_calok_none _ _) 2 _ (2, [(0, .ref 0), (1, .int a1), (2, .int a2)], [.int a2, .ref 0], (0, 0), mi_G) (by rfl) ?_
    have hM857 : mi_Met mi_N0 3 mi_h124 [.ref 0, .int a2] mi_G (some (.int 0)) mi_G := by
      refine mi_met_of (y := 124) (q := (mi_h124, mi_c124)) rfl (by decide) (Nat.le_of_ble_eq_true rfl) ?_
      refine mi_sem_steps mi_in124 (mi_calok_none _ _) 1 _ (1, [(0, .ref 0), (1, .int a2)], [.int a2], (0, 0), mi_G) (by rfl) ?_
      refine mi_sem_b mi_in124 (decide (a2 < 0)) false (mi_ltF (0) (by decide) (by omega)) 41 4 ([(0, .ref 0), (1, .int a2)], [], (0, 0), mi_G) (by rfl) ?_
      refine mi_sem_steps mi_in124 (mi_calok_none _ _) 4 _ (9, [(0, .ref 0), (1, .int a2)], [.int ((a2 / 10)), .ref 0], (0, 0), mi_G) (by rfl) ?_
      have hM856 : mi_Met mi_N0 2 mi_h123 [.ref 0, .int ((a2 / 10))] mi_G (some (.int 0)) mi_G := by
        refine mi_met_of (y := 123) (q := (mi_h123, mi_c123)) rfl (by decide) (Nat.le_of_ble_eq_true rfl) ?_
        refine mi_sem_steps mi_in123 (mi_calok_none _ _) 3 _ (5, [(0, .ref 0), (1, .int ((a2 / 10)))], [.int ((a2 / 10)), .ref 1], (0, 0), mi_G) (by rfl) ?_
        have hM855 : mi_Met mi_N0 1 mi_h24 [.ref 1, .int ((a2 / 10))] mi_G (some (.int 0)) mi_G := by
          refine mi_met_of (y := 24) (q := (mi_h24, mi_c24)) rfl (by decide) (Nat.le_of_ble_eq_true rfl) ?_
          refine mi_sem_steps mi_in24 (mi_calok_none _ _) 1 _ (1, [(0, .ref 1), (1, .int ((a2 / 10)))], [.int ((a2 / 10))], (0, 0), mi_G) (by rfl) ?_
          refine mi_sem_b mi_in24 (decide (((a2 / 10)) < 0)) false (mi_ltF (0) (by decide) (by omega)) 22 4 ([(0, .ref 1), (1, .int ((a2 / 10)))], [], (0, 0), mi_G) (by rfl) ?_
          refine mi_sem_steps mi_in24 (mi_calok_none _ _) 3 _ (9, [(0, .ref 1), (1, .int ((a2 / 10)))], [.int 0, .int ((a2 / 10))], (0, 0), mi_G) (by rfl) ?_
          refine mi_sem_b mi_in24 (decide (0 ≤ ((a2 / 10)))) true (mi_leT2 (0) (by decide) (by omega)) 22 12 ([(0, .ref 1), (1, .int ((a2 / 10)))], [], (0, 0), mi_G) (by rfl) ?_
          refine mi_sem_steps mi_in24 (mi_calok_none _ _) 1 _ (23, [(0, .ref 1), (1, .int ((a2 / 10)))], [.int 0], (0, 0), mi_G) (by rfl) ?_
          exact mi_sem_ret (cal := fun _ _ _ => none) mi_in24 (by rfl)
        refine mi_sem_call mi_in123 (i := (.invokevirtual 342, 3, 24, 0, 9, 0, 163)) (by rfl) (by rfl) hM855 (by decide) ⟨Nat.le_of_ble_eq_true rfl, Nat.le_of_ble_eq_true rfl⟩ ?_
        exact mi_sem_ret (cal := fun _ _ _ => none) mi_in123 (by rfl)
      refine mi_sem_call mi_in124 (i := (.invokevirtual 141, 3, 123, 0, 9, 0, 162)) (by rfl) (by rfl) hM856 (by decide) ⟨Nat.le_of_ble_eq_true rfl, Nat.le_of_ble_eq_true rfl⟩ ?_
      refine mi_sem_steps mi_in124 (mi_calok_none _ _) 2 _ (42, [(0, .ref 0), (1, .int a2)], [.int 0], (0, 0), mi_G) (by rfl) ?_
      exact mi_sem_ret (cal := fun _ _ _ => none) mi_in124 (by rfl)
    refine mi_sem_call mi_in95 (i := (.invokevirtual 200, 3, 124, 0, 9, 0, 254)) (by rfl) (by rfl) hM857 (by decide) ⟨Nat.le_of_ble_eq_true rfl, Nat.le_of_ble_eq_true rfl⟩ ?_
    refine mi_sem_steps mi_in95 (mi_calok_none _ _) 2 _ (9, [(0, .ref 0), (1, .int a1), (2, .int a2)], [.int (-1)], (0, 0), mi_G) (by rfl) ?_
    exact mi_sem_ret (cal := fun _ _ _ => none) mi_in95 (by rfl)
  · refine mi_met_of (y := 187) (q := (mi_h187, mi_c187)) rfl (by decide) (Nat.le_of_ble_eq_true rfl) ?_
    refine mi_sem_steps mi_in187 (mi_calok_none _ _) 1 _ (1, [(0, .ref 116), (1, .int a1), (2, .int a2)], [.int a1], (0, 0), mi_G) (by rfl) ?_
    have hM859 : mi_Met mi_N0 2 mi_h133 [.int a1] mi_G (some (.int 0)) mi_G := by
      refine mi_met_of (y := 133) (q := (mi_h133, mi_c133)) rfl (by decide) (Nat.le_of_ble_eq_true rfl) ?_
      refine mi_sem_steps mi_in133 (mi_calok_none _ _) 3 _ (3, [(0, .int a1)], [.int 5, .int 0, .int a1], (0, 0), mi_G) (by rfl) ?_
      have hM858 : mi_Met mi_N0 1 mi_h131 [.int a1, .int 0, .int 5] mi_G (some (.int 0)) mi_G := by
        refine mi_met_of (y := 131) (q := (mi_h131, mi_c131)) rfl (by decide) (Nat.le_of_ble_eq_true rfl) ?_
        refine mi_sem_steps mi_in131 (mi_calok_none _ _) 2 _ (2, [(0, .int a1), (1, .int 0), (2, .int 5)], [.int 0, .int a1], (0, 0), mi_G) (by rfl) ?_
        refine mi_sem_b mi_in131 (decide (a1 < 0)) true (mi_ltT (0) (by decide) (by omega)) 14 5 ([(0, .int a1), (1, .int 0), (2, .int 5)], [], (0, 0), mi_G) (by rfl) ?_
        refine mi_sem_steps mi_in131 (mi_calok_none _ _) 1 _ (15, [(0, .int a1), (1, .int 0), (2, .int 5)], [.int 0], (0, 0), mi_G) (by rfl) ?_
        exact mi_sem_ret (cal := fun _ _ _ => none) mi_in131 (by rfl)
      refine mi_sem_call mi_in133 (i := (.invokestatic 119, 3, 131, 0, 9, 0, 379)) (by rfl) (by rfl) hM858 (by decide) ⟨Nat.le_of_ble_eq_true rfl, Nat.le_of_ble_eq_true rfl⟩ ?_
      exact mi_sem_ret (cal := fun _ _ _ => none) mi_in133 (by rfl)
    refine mi_sem_call mi_in187 (i := (.invokestatic 127, 3, 133, 0, 9, 0, 382)) (by rfl) (by rfl) hM859 (by decide) ⟨Nat.le_of_ble_eq_true rfl, Nat.le_of_ble_eq_true rfl⟩ ?_
    refine mi_sem_steps mi_in187 (mi_calok_none _ _) 2 _ (16, [(0, .ref 116), (1, .int a1), (2, .int a2)], [.int (-1)], (0, 0), mi_G) (by rfl) ?_
    exact mi_sem_ret (cal := fun _ _ _ => none) mi_in187 (by rfl)

set_option maxRecDepth 100000 in
set_option maxHeartbeats 4000000 in
theorem mp_flow_7 (a1 : Int32) (a2 : Int32) (r0 : 0 ≤ (a2).toInt ∧ (a2).toInt ≤ 2147483647) (r1 : 0 ≤ ((a2 / 10)).toInt ∧ ((a2 / 10)).toInt ≤ 2147483647) (r2 : 0 ≤ (a1).toInt ∧ (a1).toInt ≤ 5) : mi_P 95 187 [.int a1, .int a2] := by
  refine ⟨.int (-1), mi_G, mi_G, (mi_h95, mi_c95), (mi_h187, mi_c187), 4, 4, rfl, rfl, rfl, by decide, by decide, ?_, ?_⟩
  · refine mi_met_of (y := 95) (q := (mi_h95, mi_c95)) rfl (by decide) (Nat.le_of_ble_eq_true rfl) ?_
    refine mi_sem_steps mi_in95 (mi_calok_none _ _) 2 _ (2, [(0, .ref 0), (1, .int a1), (2, .int a2)], [.int a2, .ref 0], (0, 0), mi_G) (by rfl) ?_
    have hM865 : mi_Met mi_N0 3 mi_h124 [.ref 0, .int a2] mi_G (some (.int 0)) mi_G := by
      refine mi_met_of (y := 124) (q := (mi_h124, mi_c124)) rfl (by decide) (Nat.le_of_ble_eq_true rfl) ?_
      refine mi_sem_steps mi_in124 (mi_calok_none _ _) 1 _ (1, [(0, .ref 0), (1, .int a2)], [.int a2], (0, 0), mi_G) (by rfl) ?_
      refine mi_sem_b mi_in124 (decide (a2 < 0)) false (mi_ltF (0) (by decide) (by omega)) 41 4 ([(0, .ref 0), (1, .int a2)], [], (0, 0), mi_G) (by rfl) ?_
      refine mi_sem_steps mi_in124 (mi_calok_none _ _) 4 _ (9, [(0, .ref 0), (1, .int a2)], [.int ((a2 / 10)), .ref 0], (0, 0), mi_G) (by rfl) ?_
      have hM864 : mi_Met mi_N0 2 mi_h123 [.ref 0, .int ((a2 / 10))] mi_G (some (.int 0)) mi_G := by
        refine mi_met_of (y := 123) (q := (mi_h123, mi_c123)) rfl (by decide) (Nat.le_of_ble_eq_true rfl) ?_
        refine mi_sem_steps mi_in123 (mi_calok_none _ _) 3 _ (5, [(0, .ref 0), (1, .int ((a2 / 10)))], [.int ((a2 / 10)), .ref 1], (0, 0), mi_G) (by rfl) ?_
        have hM863 : mi_Met mi_N0 1 mi_h24 [.ref 1, .int ((a2 / 10))] mi_G (some (.int 0)) mi_G := by
          refine mi_met_of (y := 24) (q := (mi_h24, mi_c24)) rfl (by decide) (Nat.le_of_ble_eq_true rfl) ?_
          refine mi_sem_steps mi_in24 (mi_calok_none _ _) 1 _ (1, [(0, .ref 1), (1, .int ((a2 / 10)))], [.int ((a2 / 10))], (0, 0), mi_G) (by rfl) ?_
          refine mi_sem_b mi_in24 (decide (((a2 / 10)) < 0)) false (mi_ltF (0) (by decide) (by omega)) 22 4 ([(0, .ref 1), (1, .int ((a2 / 10)))], [], (0, 0), mi_G) (by rfl) ?_
          refine mi_sem_steps mi_in24 (mi_calok_none _ _) 3 _ (9, [(0, .ref 1), (1, .int ((a2 / 10)))], [.int 0, .int ((a2 / 10))], (0, 0), mi_G) (by rfl) ?_
          refine mi_sem_b mi_in24 (decide (0 ≤ ((a2 / 10)))) true (mi_leT2 (0) (by decide) (by omega)) 22 12 ([(0, .ref 1), (1, .int ((a2 / 10)))], [], (0, 0), mi_G) (by rfl) ?_
          refine mi_sem_steps mi_in24 (mi_calok_none _ _) 1 _ (23, [(0, .ref 1), (1, .int ((a2 / 10)))], [.int 0], (0, 0), mi_G) (by rfl) ?_
          exact mi_sem_ret (cal := fun _ _ _ => none) mi_in24 (by rfl)
        refine mi_sem_call mi_in123 (i := (.invokevirtual 342, 3, 24, 0, 9, 0, 163)) (by rfl) (by rfl) hM863 (by decide) ⟨Nat.le_of_ble_eq_true rfl, Nat.le_of_ble_eq_true rfl⟩ ?_
        exact mi_sem_ret (cal := fun _ _ _ => none) mi_in123 (by rfl)
      refine mi_sem_call mi_in124 (i := (.invokevirtual 141, 3, 123, 0, 9, 0, 162)) (by rfl) (by rfl) hM864 (by decide) ⟨Nat.le_of_ble_eq_true rfl, Nat.le_of_ble_eq_true rfl⟩ ?_
      refine mi_sem_steps mi_in124 (mi_calok_none _ _) 2 _ (42, [(0, .ref 0), (1, .int a2)], [.int 0], (0, 0), mi_G) (by rfl) ?_
      exact mi_sem_ret (cal := fun _ _ _ => none) mi_in124 (by rfl)
    refine mi_sem_call mi_in95 (i := (.invokevirtual 200, 3, 124, 0, 9, 0, 254)) (by rfl) (by rfl) hM865 (by decide) ⟨Nat.le_of_ble_eq_true rfl, Nat.le_of_ble_eq_true rfl⟩ ?_
    refine mi_sem_steps mi_in95 (mi_calok_none _ _) 2 _ (9, [(0, .ref 0), (1, .int a1), (2, .int a2)], [.int (-1)], (0, 0), mi_G) (by rfl) ?_
    exact mi_sem_ret (cal := fun _ _ _ => none) mi_in95 (by rfl)
  · refine mi_met_of (y := 187) (q := (mi_h187, mi_c187)) rfl (by decide) (Nat.le_of_ble_eq_true rfl) ?_
    refine mi_sem_steps mi_in187 (mi_calok_none _ _) 1 _ (1, [(0, .ref 116), (1, .int a1), (2, .int a2)], [.int a1], (0, 0), mi_G) (by rfl) ?_
    have hM867 : mi_Met mi_N0 2 mi_h133 [.int a1] mi_G (some (.int 1)) mi_G := by
      refine mi_met_of (y := 133) (q := (mi_h133, mi_c133)) rfl (by decide) (Nat.le_of_ble_eq_true rfl) ?_
      refine mi_sem_steps mi_in133 (mi_calok_none _ _) 3 _ (3, [(0, .int a1)], [.int 5, .int 0, .int a1], (0, 0), mi_G) (by rfl) ?_
      have hM866 : mi_Met mi_N0 1 mi_h131 [.int a1, .int 0, .int 5] mi_G (some (.int 1)) mi_G := by
        refine mi_met_of (y := 131) (q := (mi_h131, mi_c131)) rfl (by decide) (Nat.le_of_ble_eq_true rfl) ?_
        refine mi_sem_steps mi_in131 (mi_calok_none _ _) 2 _ (2, [(0, .int a1), (1, .int 0), (2, .int 5)], [.int 0, .int a1], (0, 0), mi_G) (by rfl) ?_
        refine mi_sem_b mi_in131 (decide (a1 < 0)) false (mi_ltF (0) (by decide) (by omega)) 14 5 ([(0, .int a1), (1, .int 0), (2, .int 5)], [], (0, 0), mi_G) (by rfl) ?_
        refine mi_sem_steps mi_in131 (mi_calok_none _ _) 2 _ (7, [(0, .int a1), (1, .int 0), (2, .int 5)], [.int 5, .int a1], (0, 0), mi_G) (by rfl) ?_
        refine mi_sem_b mi_in131 (decide (5 < a1)) false (mi_ltF2 (5) (by decide) (by omega)) 14 10 ([(0, .int a1), (1, .int 0), (2, .int 5)], [], (0, 0), mi_G) (by rfl) ?_
        refine mi_sem_steps mi_in131 (mi_calok_none _ _) 2 _ (15, [(0, .int a1), (1, .int 0), (2, .int 5)], [.int 1], (0, 0), mi_G) (by rfl) ?_
        exact mi_sem_ret (cal := fun _ _ _ => none) mi_in131 (by rfl)
      refine mi_sem_call mi_in133 (i := (.invokestatic 119, 3, 131, 0, 9, 0, 379)) (by rfl) (by rfl) hM866 (by decide) ⟨Nat.le_of_ble_eq_true rfl, Nat.le_of_ble_eq_true rfl⟩ ?_
      exact mi_sem_ret (cal := fun _ _ _ => none) mi_in133 (by rfl)
    refine mi_sem_call mi_in187 (i := (.invokestatic 127, 3, 133, 0, 9, 0, 382)) (by rfl) (by rfl) hM867 (by decide) ⟨Nat.le_of_ble_eq_true rfl, Nat.le_of_ble_eq_true rfl⟩ ?_
    refine mi_sem_steps mi_in187 (mi_calok_none _ _) 3 _ (9, [(0, .ref 116), (1, .int a1), (2, .int a2)], [.int a2, .ref 116], (0, 0), mi_G) (by rfl) ?_
    have hM870 : mi_Met mi_N0 3 mi_h186 [.ref 116, .int a2] mi_G (some (.int 0)) mi_G := by
      refine mi_met_of (y := 186) (q := (mi_h186, mi_c186)) rfl (by decide) (Nat.le_of_ble_eq_true rfl) ?_
      refine mi_sem_steps mi_in186 (mi_calok_none _ _) 1 _ (1, [(0, .ref 116), (1, .int a2)], [.int a2], (0, 0), mi_G) (by rfl) ?_
      refine mi_sem_b mi_in186 (decide (a2 < 0)) false (mi_ltF (0) (by decide) (by omega)) 41 4 ([(0, .ref 116), (1, .int a2)], [], (0, 0), mi_G) (by rfl) ?_
      refine mi_sem_steps mi_in186 (mi_calok_none _ _) 4 _ (9, [(0, .ref 116), (1, .int a2)], [.int ((a2 / 10)), .ref 116], (0, 0), mi_G) (by rfl) ?_
      have hM869 : mi_Met mi_N0 2 mi_h132 [.ref 116, .int ((a2 / 10))] mi_G (some (.int 0)) mi_G := by
        refine mi_met_of (y := 132) (q := (mi_h132, mi_c132)) rfl (by decide) (Nat.le_of_ble_eq_true rfl) ?_
        refine mi_sem_steps mi_in132 (mi_calok_none _ _) 6 _ (8, [(0, .ref 116), (1, .int ((a2 / 10)))], [.int (-1), .int 0, .int ((a2 / 10))], (0, 0), mi_G) (by rfl) ?_
        have hM868 : mi_Met mi_N0 1 mi_h131 [.int ((a2 / 10)), .int 0, .int (-1)] mi_G (some (.int 0)) mi_G := by
          refine mi_met_of (y := 131) (q := (mi_h131, mi_c131)) rfl (by decide) (Nat.le_of_ble_eq_true rfl) ?_
          refine mi_sem_steps mi_in131 (mi_calok_none _ _) 2 _ (2, [(0, .int ((a2 / 10))), (1, .int 0), (2, .int (-1))], [.int 0, .int ((a2 / 10))], (0, 0), mi_G) (by rfl) ?_
          refine mi_sem_b mi_in131 (decide (((a2 / 10)) < 0)) false (mi_ltF (0) (by decide) (by omega)) 14 5 ([(0, .int ((a2 / 10))), (1, .int 0), (2, .int (-1))], [], (0, 0), mi_G) (by rfl) ?_
          refine mi_sem_steps mi_in131 (mi_calok_none _ _) 2 _ (7, [(0, .int ((a2 / 10))), (1, .int 0), (2, .int (-1))], [.int (-1), .int ((a2 / 10))], (0, 0), mi_G) (by rfl) ?_
          refine mi_sem_b mi_in131 (decide ((-1) < ((a2 / 10)))) true (mi_ltT2 (-1) (by decide) (by omega)) 14 10 ([(0, .int ((a2 / 10))), (1, .int 0), (2, .int (-1))], [], (0, 0), mi_G) (by rfl) ?_
          refine mi_sem_steps mi_in131 (mi_calok_none _ _) 1 _ (15, [(0, .int ((a2 / 10))), (1, .int 0), (2, .int (-1))], [.int 0], (0, 0), mi_G) (by rfl) ?_
          exact mi_sem_ret (cal := fun _ _ _ => none) mi_in131 (by rfl)
        refine mi_sem_call mi_in132 (i := (.invokestatic 119, 3, 131, 0, 9, 0, 379)) (by rfl) (by rfl) hM868 (by decide) ⟨Nat.le_of_ble_eq_true rfl, Nat.le_of_ble_eq_true rfl⟩ ?_
        exact mi_sem_ret (cal := fun _ _ _ => none) mi_in132 (by rfl)
      refine mi_sem_call mi_in186 (i := (.invokevirtual 137, 3, 132, 0, 9, 0, 387)) (by rfl) (by rfl) hM869 (by decide) ⟨Nat.le_of_ble_eq_true rfl, Nat.le_of_ble_eq_true rfl⟩ ?_
      refine mi_sem_steps mi_in186 (mi_calok_none _ _) 2 _ (42, [(0, .ref 116), (1, .int a2)], [.int 0], (0, 0), mi_G) (by rfl) ?_
      exact mi_sem_ret (cal := fun _ _ _ => none) mi_in186 (by rfl)
    refine mi_sem_call mi_in187 (i := (.invokevirtual 308, 3, 186, 0, 9, 0, 438)) (by rfl) (by rfl) hM870 (by decide) ⟨Nat.le_of_ble_eq_true rfl, Nat.le_of_ble_eq_true rfl⟩ ?_
    refine mi_sem_steps mi_in187 (mi_calok_none _ _) 2 _ (16, [(0, .ref 116), (1, .int a1), (2, .int a2)], [.int (-1)], (0, 0), mi_G) (by rfl) ?_
    exact mi_sem_ret (cal := fun _ _ _ => none) mi_in187 (by rfl)

set_option maxRecDepth 100000 in
set_option maxHeartbeats 4000000 in
theorem mp_flow_8 (a1 : Int32) (a2 : Int32) (r0 : 0 ≤ (a2).toInt ∧ (a2).toInt ≤ 2147483647) (r1 : 0 ≤ ((a2 / 10)).toInt ∧ ((a2 / 10)).toInt ≤ 2147483647) (r2 : 6 ≤ (a1).toInt ∧ (a1).toInt ≤ 2147483647) : mi_P 95 187 [.int a1, .int a2] := by
  refine ⟨.int (-1), mi_G, mi_G, (mi_h95, mi_c95), (mi_h187, mi_c187), 4, 3, rfl, rfl, rfl, by decide, by decide, ?_, ?_⟩
  · refine mi_met_of (y := 95) (q := (mi_h95, mi_c95)) rfl (by decide) (Nat.le_of_ble_eq_true rfl) ?_
    refine mi_sem_steps mi_in95 (mi_calok_none _ _) 2 _ (2, [(0, .ref 0), (1, .int a1), (2, .int a2)], [.int a2, .ref 0], (0, 0), mi_G) (by rfl) ?_
    have hM873 : mi_Met mi_N0 3 mi_h124 [.ref 0, .int a2] mi_G (some (.int 0)) mi_G := by
      refine mi_met_of (y := 124) (q := (mi_h124, mi_c124)) rfl (by decide) (Nat.le_of_ble_eq_true rfl) ?_
      refine mi_sem_steps mi_in124 (mi_calok_none _ _) 1 _ (1, [(0, .ref 0), (1, .int a2)], [.int a2], (0, 0), mi_G) (by rfl) ?_
      refine mi_sem_b mi_in124 (decide (a2 < 0)) false (mi_ltF (0) (by decide) (by omega)) 41 4 ([(0, .ref 0), (1, .int a2)], [], (0, 0), mi_G) (by rfl) ?_
      refine mi_sem_steps mi_in124 (mi_calok_none _ _) 4 _ (9, [(0, .ref 0), (1, .int a2)], [.int ((a2 / 10)), .ref 0], (0, 0), mi_G) (by rfl) ?_
      have hM872 : mi_Met mi_N0 2 mi_h123 [.ref 0, .int ((a2 / 10))] mi_G (some (.int 0)) mi_G := by
        refine mi_met_of (y := 123) (q := (mi_h123, mi_c123)) rfl (by decide) (Nat.le_of_ble_eq_true rfl) ?_
        refine mi_sem_steps mi_in123 (mi_calok_none _ _) 3 _ (5, [(0, .ref 0), (1, .int ((a2 / 10)))], [.int ((a2 / 10)), .ref 1], (0, 0), mi_G) (by rfl) ?_
        have hM871 : mi_Met mi_N0 1 mi_h24 [.ref 1, .int ((a2 / 10))] mi_G (some (.int 0)) mi_G := by
          refine mi_met_of (y := 24) (q := (mi_h24, mi_c24)) rfl (by decide) (Nat.le_of_ble_eq_true rfl) ?_
          refine mi_sem_steps mi_in24 (mi_calok_none _ _) 1 _ (1, [(0, .ref 1), (1, .int ((a2 / 10)))], [.int ((a2 / 10))], (0, 0), mi_G) (by rfl) ?_
          refine mi_sem_b mi_in24 (decide (((a2 / 10)) < 0)) false (mi_ltF (0) (by decide) (by omega)) 22 4 ([(0, .ref 1), (1, .int ((a2 / 10)))], [], (0, 0), mi_G) (by rfl) ?_
          refine mi_sem_steps mi_in24 (mi_calok_none _ _) 3 _ (9, [(0, .ref 1), (1, .int ((a2 / 10)))], [.int 0, .int ((a2 / 10))], (0, 0), mi_G) (by rfl) ?_
          refine mi_sem_b mi_in24 (decide (0 ≤ ((a2 / 10)))) true (mi_leT2 (0) (by decide) (by omega)) 22 12 ([(0, .ref 1), (1, .int ((a2 / 10)))], [], (0, 0), mi_G) (by rfl) ?_
          refine mi_sem_steps mi_in24 (mi_calok_none _ _) 1 _ (23, [(0, .ref 1), (1, .int ((a2 / 10)))], [.int 0], (0, 0), mi_G) (by rfl) ?_
          exact mi_sem_ret (cal := fun _ _ _ => none) mi_in24 (by rfl)
        refine mi_sem_call mi_in123 (i := (.invokevirtual 342, 3, 24, 0, 9, 0, 163)) (by rfl) (by rfl) hM871 (by decide) ⟨Nat.le_of_ble_eq_true rfl, Nat.le_of_ble_eq_true rfl⟩ ?_
        exact mi_sem_ret (cal := fun _ _ _ => none) mi_in123 (by rfl)
      refine mi_sem_call mi_in124 (i := (.invokevirtual 141, 3, 123, 0, 9, 0, 162)) (by rfl) (by rfl) hM872 (by decide) ⟨Nat.le_of_ble_eq_true rfl, Nat.le_of_ble_eq_true rfl⟩ ?_
      refine mi_sem_steps mi_in124 (mi_calok_none _ _) 2 _ (42, [(0, .ref 0), (1, .int a2)], [.int 0], (0, 0), mi_G) (by rfl) ?_
      exact mi_sem_ret (cal := fun _ _ _ => none) mi_in124 (by rfl)
    refine mi_sem_call mi_in95 (i := (.invokevirtual 200, 3, 124, 0, 9, 0, 254)) (by rfl) (by rfl) hM873 (by decide) ⟨Nat.le_of_ble_eq_true rfl, Nat.le_of_ble_eq_true rfl⟩ ?_
    refine mi_sem_steps mi_in95 (mi_calok_none _ _) 2 _ (9, [(0, .ref 0), (1, .int a1), (2, .int a2)], [.int (-1)], (0, 0), mi_G) (by rfl) ?_
    exact mi_sem_ret (cal := fun _ _ _ => none) mi_in95 (by rfl)
  · refine mi_met_of (y := 187) (q := (mi_h187, mi_c187)) rfl (by decide) (Nat.le_of_ble_eq_true rfl) ?_
    refine mi_sem_steps mi_in187 (mi_calok_none _ _) 1 _ (1, [(0, .ref 116), (1, .int a1), (2, .int a2)], [.int a1], (0, 0), mi_G) (by rfl) ?_
    have hM875 : mi_Met mi_N0 2 mi_h133 [.int a1] mi_G (some (.int 0)) mi_G := by
      refine mi_met_of (y := 133) (q := (mi_h133, mi_c133)) rfl (by decide) (Nat.le_of_ble_eq_true rfl) ?_
      refine mi_sem_steps mi_in133 (mi_calok_none _ _) 3 _ (3, [(0, .int a1)], [.int 5, .int 0, .int a1], (0, 0), mi_G) (by rfl) ?_
      have hM874 : mi_Met mi_N0 1 mi_h131 [.int a1, .int 0, .int 5] mi_G (some (.int 0)) mi_G := by
        refine mi_met_of (y := 131) (q := (mi_h131, mi_c131)) rfl (by decide) (Nat.le_of_ble_eq_true rfl) ?_
        refine mi_sem_steps mi_in131 (mi_calok_none _ _) 2 _ (2, [(0, .int a1), (1, .int 0), (2, .int 5)], [.int 0, .int a1], (0, 0), mi_G) (by rfl) ?_
        refine mi_sem_b mi_in131 (decide (a1 < 0)) false (mi_ltF (0) (by decide) (by omega)) 14 5 ([(0, .int a1), (1, .int 0), (2, .int 5)], [], (0, 0), mi_G) (by rfl) ?_
        refine mi_sem_steps mi_in131 (mi_calok_none _ _) 2 _ (7, [(0, .int a1), (1, .int 0), (2, .int 5)], [.int 5, .int a1], (0, 0), mi_G) (by rfl) ?_
        refine mi_sem_b mi_in131 (decide (5 < a1)) true (mi_ltT2 (5) (by decide) (by omega)) 14 10 ([(0, .int a1), (1, .int 0), (2, .int 5)], [], (0, 0), mi_G) (by rfl) ?_
        refine mi_sem_steps mi_in131 (mi_calok_none _ _) 1 _ (15, [(0, .int a1), (1, .int 0), (2, .int 5)], [.int 0], (0, 0), mi_G) (by rfl) ?_
        exact mi_sem_ret (cal := fun _ _ _ => none) mi_in131 (by rfl)
      refine mi_sem_call mi_in133 (i := (.invokestatic 119, 3, 131, 0, 9, 0, 379)) (by rfl) (by rfl) hM874 (by decide) ⟨Nat.le_of_ble_eq_true rfl, Nat.le_of_ble_eq_true rfl⟩ ?_
      exact mi_sem_ret (cal := fun _ _ _ => none) mi_in133 (by rfl)
    refine mi_sem_call mi_in187 (i := (.invokestatic 127, 3, 133, 0, 9, 0, 382)) (by rfl) (by rfl) hM875 (by decide) ⟨Nat.le_of_ble_eq_true rfl, Nat.le_of_ble_eq_true rfl⟩ ?_
    refine mi_sem_steps mi_in187 (mi_calok_none _ _) 2 _ (16, [(0, .ref 116), (1, .int a1), (2, .int a2)], [.int (-1)], (0, 0), mi_G) (by rfl) ?_
    exact mi_sem_ret (cal := fun _ _ _ => none) mi_in187 (by rfl)

set_option maxRecDepth 100000 in
set_option maxHeartbeats 4000000 in
theorem mp_flow (a1 : Int32) (a2 : Int32) : mi_P 95 187 [.int a1, .int a2] := by
  have b0 := Int32.toInt_lt ((a2 / 10))
  have c0 := Int32.le_toInt ((a2 / 10))
  have b1 := Int32.toInt_lt (a1)
  have c1 := Int32.le_toInt (a1)
  have b2 := Int32.toInt_lt (a2)
  have c2 := Int32.le_toInt (a2)
  rcases Int.lt_or_le (a2).toInt 0 with _hh | _hh
  ·
    rcases Int.lt_or_le (a1).toInt 0 with _hh | _hh
    ·
      exact mp_flow_0 a1 a2 ⟨by omega, by omega⟩ ⟨by omega, by omega⟩
    ·
      rcases Int.lt_or_le (a1).toInt 6 with _hh | _hh
      ·
        exact mp_flow_1 a1 a2 ⟨by omega, by omega⟩ ⟨by omega, by omega⟩
      ·
        exact mp_flow_2 a1 a2 ⟨by omega, by omega⟩ ⟨by omega, by omega⟩
  ·
    rcases Int.lt_or_le ((a2 / 10)).toInt 0 with _hh | _hh
    ·
      rcases Int.lt_or_le (a1).toInt 0 with _hh | _hh
      ·
        exact mp_flow_3 a1 a2 ⟨by omega, by omega⟩ ⟨by omega, by omega⟩ ⟨by omega, by omega⟩
      ·
        rcases Int.lt_or_le (a1).toInt 6 with _hh | _hh
        ·
          exact mp_flow_4 a1 a2 ⟨by omega, by omega⟩ ⟨by omega, by omega⟩ ⟨by omega, by omega⟩
        ·
          exact mp_flow_5 a1 a2 ⟨by omega, by omega⟩ ⟨by omega, by omega⟩ ⟨by omega, by omega⟩
    ·
      rcases Int.lt_or_le (a1).toInt 0 with _hh | _hh
      ·
        exact mp_flow_6 a1 a2 ⟨by omega, by omega⟩ ⟨by omega, by omega⟩ ⟨by omega, by omega⟩
      ·
        rcases Int.lt_or_le (a1).toInt 6 with _hh | _hh
        ·
          exact mp_flow_7 a1 a2 ⟨by omega, by omega⟩ ⟨by omega, by omega⟩ ⟨by omega, by omega⟩
        ·
          exact mp_flow_8 a1 a2 ⟨by omega, by omega⟩ ⟨by omega, by omega⟩ ⟨by omega, by omega⟩

set_option maxRecDepth 100000 in
set_option maxHeartbeats 4000000 in
theorem mp_round_0 (a1 : Int32) (a2 : Int32) (r0 : (-2147483648) ≤ (a2).toInt ∧ (a2).toInt ≤ (-1)) (r1 : (-2147483648) ≤ (a1).toInt ∧ (a1).toInt ≤ (-1)) : mi_P 96 189 [.int a1, .int a2] := by
  refine ⟨.int (-1), mi_G, mi_G, (mi_h96, mi_c96), (mi_h189, mi_c189), 2, 3, rfl, rfl, rfl, by decide, by decide, ?_, ?_⟩
  · refine mi_met_of (y := 96) (q := (mi_h96, mi_c96)) rfl (by decide) (Nat.le_of_ble_eq_true rfl) ?_
    refine mi_sem_steps mi_in96 (mi_calok_none _ _) 3 _ (3, [(0, .ref 0), (1, .int a1), (2, .int a2)], [.int 1, .int 0, .int a2], (0, 0), mi_G) (by rfl) ?_
    have hM877 : mi_Met mi_N0 1 mi_h120 [.int a2, .int 0, .int 1] mi_G (some (.int 0)) mi_G := by
      refine mi_met_of (y := 120) (q := (mi_h120, mi_c120)) rfl (by decide) (Nat.le_of_ble_eq_true rfl) ?_
      refine mi_sem_steps mi_in120 (mi_calok_none _ _) 2 _ (2, [(0, .int a2), (1, .int 0), (2, .int 1)], [.int 0, .int a2], (0, 0), mi_G) (by rfl) ?_
      refine mi_sem_b mi_in120 (decide (a2 < 0)) true (mi_ltT (0) (by decide) (by omega)) 14 5 ([(0, .int a2), (1, .int 0), (2, .int 1)], [], (0, 0), mi_G) (by rfl) ?_
      refine mi_sem_steps mi_in120 (mi_calok_none _ _) 1 _ (15, [(0, .int a2), (1, .int 0), (2, .int 1)], [.int 0], (0, 0), mi_G) (by rfl) ?_
      exact mi_sem_ret (cal := fun _ _ _ => none) mi_in120 (by rfl)
    refine mi_sem_call mi_in96 (i := (.invokestatic 74, 3, 120, 0, 9, 0, 152)) (by rfl) (by rfl) hM877 (by decide) ⟨Nat.le_of_ble_eq_true rfl, Nat.le_of_ble_eq_true rfl⟩ ?_
    refine mi_sem_steps mi_in96 (mi_calok_none _ _) 2 _ (10, [(0, .ref 0), (1, .int a1), (2, .int a2)], [.int (-1)], (0, 0), mi_G) (by rfl) ?_
    exact mi_sem_ret (cal := fun _ _ _ => none) mi_in96 (by rfl)
  · refine mi_met_of (y := 189) (q := (mi_h189, mi_c189)) rfl (by decide) (Nat.le_of_ble_eq_true rfl) ?_
    refine mi_sem_steps mi_in189 (mi_calok_none _ _) 1 _ (1, [(0, .ref 116), (1, .int a1), (2, .int a2)], [.int a1], (0, 0), mi_G) (by rfl) ?_
    have hM879 : mi_Met mi_N0 2 mi_h133 [.int a1] mi_G (some (.int 0)) mi_G := by
      refine mi_met_of (y := 133) (q := (mi_h133, mi_c133)) rfl (by decide) (Nat.le_of_ble_eq_true rfl) ?_
      refine mi_sem_steps mi_in133 (mi_calok_none _ _) 3 _ (3, [(0, .int a1)], [.int 5, .int 0, .int a1], (0, 0), mi_G) (by rfl) ?_
      have hM878 : mi_Met mi_N0 1 mi_h131 [.int a1, .int 0, .int 5] mi_G (some (.int 0)) mi_G := by
        refine mi_met_of (y := 131) (q := (mi_h131, mi_c131)) rfl (by decide) (Nat.le_of_ble_eq_true rfl) ?_
        refine mi_sem_steps mi_in131 (mi_calok_none _ _) 2 _ (2, [(0, .int a1), (1, .int 0), (2, .int 5)], [.int 0, .int a1], (0, 0), mi_G) (by rfl) ?_
        refine mi_sem_b mi_in131 (decide (a1 < 0)) true (mi_ltT (0) (by decide) (by omega)) 14 5 ([(0, .int a1), (1, .int 0), (2, .int 5)], [], (0, 0), mi_G) (by rfl) ?_
        refine mi_sem_steps mi_in131 (mi_calok_none _ _) 1 _ (15, [(0, .int a1), (1, .int 0), (2, .int 5)], [.int 0], (0, 0), mi_G) (by rfl) ?_
        exact mi_sem_ret (cal := fun _ _ _ => none) mi_in131 (by rfl)
      refine mi_sem_call mi_in133 (i := (.invokestatic 119, 3, 131, 0, 9, 0, 379)) (by rfl) (by rfl) hM878 (by decide) ⟨Nat.le_of_ble_eq_true rfl, Nat.le_of_ble_eq_true rfl⟩ ?_
      exact mi_sem_ret (cal := fun _ _ _ => none) mi_in133 (by rfl)
    refine mi_sem_call mi_in189 (i := (.invokestatic 127, 3, 133, 0, 9, 0, 382)) (by rfl) (by rfl) hM879 (by decide) ⟨Nat.le_of_ble_eq_true rfl, Nat.le_of_ble_eq_true rfl⟩ ?_
    refine mi_sem_steps mi_in189 (mi_calok_none _ _) 2 _ (17, [(0, .ref 116), (1, .int a1), (2, .int a2)], [.int (-1)], (0, 0), mi_G) (by rfl) ?_
    exact mi_sem_ret (cal := fun _ _ _ => none) mi_in189 (by rfl)

set_option maxRecDepth 100000 in
set_option maxHeartbeats 4000000 in
theorem mp_round_1 (a1 : Int32) (a2 : Int32) (r0 : (-2147483648) ≤ (a2).toInt ∧ (a2).toInt ≤ (-1)) (r1 : 0 ≤ (a1).toInt ∧ (a1).toInt ≤ 5) : mi_P 96 189 [.int a1, .int a2] := by
  refine ⟨.int (-1), mi_G, mi_G, (mi_h96, mi_c96), (mi_h189, mi_c189), 2, 3, rfl, rfl, rfl, by decide, by decide, ?_, ?_⟩
  · refine mi_met_of (y := 96) (q := (mi_h96, mi_c96)) rfl (by decide) (Nat.le_of_ble_eq_true rfl) ?_
    refine mi_sem_steps mi_in96 (mi_calok_none _ _) 3 _ (3, [(0, .ref 0), (1, .int a1), (2, .int a2)], [.int 1, .int 0, .int a2], (0, 0), mi_G) (by rfl) ?_
    have hM881 : mi_Met mi_N0 1 mi_h120 [.int a2, .int 0, .int 1] mi_G (some (.int 0)) mi_G := by
      refine mi_met_of (y := 120) (q := (mi_h120, mi_c120)) rfl (by decide) (Nat.le_of_ble_eq_true rfl) ?_
      refine mi_sem_steps mi_in120 (mi_calok_none _ _) 2 _ (2, [(0, .int a2), (1, .int 0), (2, .int 1)], [.int 0, .int a2], (0, 0), mi_G) (by rfl) ?_
      refine mi_sem_b mi_in120 (decide (a2 < 0)) true (mi_ltT (0) (by decide) (by omega)) 14 5 ([(0, .int a2), (1, .int 0), (2, .int 1)], [], (0, 0), mi_G) (by rfl) ?_
      refine mi_sem_steps mi_in120 (mi_calok_none _ _) 1 _ (15, [(0, .int a2), (1, .int 0), (2, .int 1)], [.int 0], (0, 0), mi_G) (by rfl) ?_
      exact mi_sem_ret (cal := fun _ _ _ => none) mi_in120 (by rfl)
    refine mi_sem_call mi_in96 (i := (.invokestatic 74, 3, 120, 0, 9, 0, 152)) (by rfl) (by rfl) hM881 (by decide) ⟨Nat.le_of_ble_eq_true rfl, Nat.le_of_ble_eq_true rfl⟩ ?_
    refine mi_sem_steps mi_in96 (mi_calok_none _ _) 2 _ (10, [(0, .ref 0), (1, .int a1), (2, .int a2)], [.int (-1)], (0, 0), mi_G) (by rfl) ?_
    exact mi_sem_ret (cal := fun _ _ _ => none) mi_in96 (by rfl)
  · refine mi_met_of (y := 189) (q := (mi_h189, mi_c189)) rfl (by decide) (Nat.le_of_ble_eq_true rfl) ?_
    refine mi_sem_steps mi_in189 (mi_calok_none _ _) 1 _ (1, [(0, .ref 116), (1, .int a1), (2, .int a2)], [.int a1], (0, 0), mi_G) (by rfl) ?_
    have hM883 : mi_Met mi_N0 2 mi_h133 [.int a1] mi_G (some (.int 1)) mi_G := by
      refine mi_met_of (y := 133) (q := (mi_h133, mi_c133)) rfl (by decide) (Nat.le_of_ble_eq_true rfl) ?_
      refine mi_sem_steps mi_in133 (mi_calok_none _ _) 3 _ (3, [(0, .int a1)], [.int 5, .int 0, .int a1], (0, 0), mi_G) (by rfl) ?_
      have hM882 : mi_Met mi_N0 1 mi_h131 [.int a1, .int 0, .int 5] mi_G (some (.int 1)) mi_G := by
        refine mi_met_of (y := 131) (q := (mi_h131, mi_c131)) rfl (by decide) (Nat.le_of_ble_eq_true rfl) ?_
        refine mi_sem_steps mi_in131 (mi_calok_none _ _) 2 _ (2, [(0, .int a1), (1, .int 0), (2, .int 5)], [.int 0, .int a1], (0, 0), mi_G) (by rfl) ?_
        refine mi_sem_b mi_in131 (decide (a1 < 0)) false (mi_ltF (0) (by decide) (by omega)) 14 5 ([(0, .int a1), (1, .int 0), (2, .int 5)], [], (0, 0), mi_G) (by rfl) ?_
        refine mi_sem_steps mi_in131 (mi_calok_none _ _) 2 _ (7, [(0, .int a1), (1, .int 0), (2, .int 5)], [.int 5, .int a1], (0, 0), mi_G) (by rfl) ?_
        refine mi_sem_b mi_in131 (decide (5 < a1)) false (mi_ltF2 (5) (by decide) (by omega)) 14 10 ([(0, .int a1), (1, .int 0), (2, .int 5)], [], (0, 0), mi_G) (by rfl) ?_
        refine mi_sem_steps mi_in131 (mi_calok_none _ _) 2 _ (15, [(0, .int a1), (1, .int 0), (2, .int 5)], [.int 1], (0, 0), mi_G) (by rfl) ?_
        exact mi_sem_ret (cal := fun _ _ _ => none) mi_in131 (by rfl)
      refine mi_sem_call mi_in133 (i := (.invokestatic 119, 3, 131, 0, 9, 0, 379)) (by rfl) (by rfl) hM882 (by decide) ⟨Nat.le_of_ble_eq_true rfl, Nat.le_of_ble_eq_true rfl⟩ ?_
      exact mi_sem_ret (cal := fun _ _ _ => none) mi_in133 (by rfl)
    refine mi_sem_call mi_in189 (i := (.invokestatic 127, 3, 133, 0, 9, 0, 382)) (by rfl) (by rfl) hM883 (by decide) ⟨Nat.le_of_ble_eq_true rfl, Nat.le_of_ble_eq_true rfl⟩ ?_
    refine mi_sem_steps mi_in189 (mi_calok_none _ _) 4 _ (10, [(0, .ref 116), (1, .int a1), (2, .int a2)], [.int 1, .int 0, .int a2], (0, 0), mi_G) (by rfl) ?_
    have hM884 : mi_Met mi_N0 1 mi_h131 [.int a2, .int 0, .int 1] mi_G (some (.int 0)) mi_G := by
      refine mi_met_of (y := 131) (q := (mi_h131, mi_c131)) rfl (by decide) (Nat.le_of_ble_eq_true rfl) ?_
      refine mi_sem_steps mi_in131 (mi_calok_none _ _) 2 _ (2, [(0, .int a2), (1, .int 0), (2, .int 1)], [.int 0, .int a2], (0, 0), mi_G) (by rfl) ?_
      refine mi_sem_b mi_in131 (decide (a2 < 0)) true (mi_ltT (0) (by decide) (by omega)) 14 5 ([(0, .int a2), (1, .int 0), (2, .int 1)], [], (0, 0), mi_G) (by rfl) ?_
      refine mi_sem_steps mi_in131 (mi_calok_none _ _) 1 _ (15, [(0, .int a2), (1, .int 0), (2, .int 1)], [.int 0], (0, 0), mi_G) (by rfl) ?_
      exact mi_sem_ret (cal := fun _ _ _ => none) mi_in131 (by rfl)
    refine mi_sem_call mi_in189 (i := (.invokestatic 119, 3, 131, 0, 9, 0, 379)) (by rfl) (by rfl) hM884 (by decide) ⟨Nat.le_of_ble_eq_true rfl, Nat.le_of_ble_eq_true rfl⟩ ?_
    refine mi_sem_steps mi_in189 (mi_calok_none _ _) 2 _ (17, [(0, .ref 116), (1, .int a1), (2, .int a2)], [.int (-1)], (0, 0), mi_G) (by rfl) ?_
    exact mi_sem_ret (cal := fun _ _ _ => none) mi_in189 (by rfl)

set_option maxRecDepth 100000 in
set_option maxHeartbeats 4000000 in
theorem mp_round_2 (a1 : Int32) (a2 : Int32) (r0 : (-2147483648) ≤ (a2).toInt ∧ (a2).toInt ≤ (-1)) (r1 : 6 ≤ (a1).toInt ∧ (a1).toInt ≤ 2147483647) : mi_P 96 189 [.int a1, .int a2] := by
  refine ⟨.int (-1), mi_G, mi_G, (mi_h96, mi_c96), (mi_h189, mi_c189), 2, 3, rfl, rfl, rfl, by decide, by decide, ?_, ?_⟩
  · refine mi_met_of (y := 96) (q := (mi_h96, mi_c96)) rfl (by decide) (Nat.le_of_ble_eq_true rfl) ?_
    refine mi_sem_steps mi_in96 (mi_calok_none _ _) 3 _ (3, [(0, .ref 0), (1, .int a1), (2, .int a2)], [.int 1, .int 0, .int a2], (0, 0), mi_G) (by rfl) ?_
    have hM885 : mi_Met mi_N0 1 mi_h120 [.int a2, .int 0, .int 1] mi_G (some (.int 0)) mi_G := by
      refine mi_met_of (y := 120) (q := (mi_h120, mi_c120)) rfl (by decide) (Nat.le_of_ble_eq_true rfl) ?_
      refine mi_sem_steps mi_in120 (mi_calok_none _ _) 2 _ (2, [(0, .int a2), (1, .int 0), (2, .int 1)], [.int 0, .int a2], (0, 0), mi_G) (by rfl) ?_
      refine mi_sem_b mi_in120 (decide (a2 < 0)) true (mi_ltT (0) (by decide) (by omega)) 14 5 ([(0, .int a2), (1, .int 0), (2, .int 1)], [], (0, 0), mi_G) (by rfl) ?_
      refine mi_sem_steps mi_in120 (mi_calok_none _ _) 1 _ (15, [(0, .int a2), (1, .int 0), (2, .int 1)], [.int 0], (0, 0), mi_G) (by rfl) ?_
      exact mi_sem_ret (cal := fun _ _ _ => none) mi_in120 (by rfl)
    refine mi_sem_call mi_in96 (i := (.invokestatic 74, 3, 120, 0, 9, 0, 152)) (by rfl) (by rfl) hM885 (by decide) ⟨Nat.le_of_ble_eq_true rfl, Nat.le_of_ble_eq_true rfl⟩ ?_
    refine mi_sem_steps mi_in96 (mi_calok_none _ _) 2 _ (10, [(0, .ref 0), (1, .int a1), (2, .int a2)], [.int (-1)], (0, 0), mi_G) (by rfl) ?_
    exact mi_sem_ret (cal := fun _ _ _ => none) mi_in96 (by rfl)
  · refine mi_met_of (y := 189) (q := (mi_h189, mi_c189)) rfl (by decide) (Nat.le_of_ble_eq_true rfl) ?_
    refine mi_sem_steps mi_in189 (mi_calok_none _ _) 1 _ (1, [(0, .ref 116), (1, .int a1), (2, .int a2)], [.int a1], (0, 0), mi_G) (by rfl) ?_
    have hM887 : mi_Met mi_N0 2 mi_h133 [.int a1] mi_G (some (.int 0)) mi_G := by
      refine mi_met_of (y := 133) (q := (mi_h133, mi_c133)) rfl (by decide) (Nat.le_of_ble_eq_true rfl) ?_
      refine mi_sem_steps mi_in133 (mi_calok_none _ _) 3 _ (3, [(0, .int a1)], [.int 5, .int 0, .int a1], (0, 0), mi_G) (by rfl) ?_
      have hM886 : mi_Met mi_N0 1 mi_h131 [.int a1, .int 0, .int 5] mi_G (some (.int 0)) mi_G := by
        refine mi_met_of (y := 131) (q := (mi_h131, mi_c131)) rfl (by decide) (Nat.le_of_ble_eq_true rfl) ?_
        refine mi_sem_steps mi_in131 (mi_calok_none _ _) 2 _ (2, [(0, .int a1), (1, .int 0), (2, .int 5)], [.int 0, .int a1], (0, 0), mi_G) (by rfl) ?_
        refine mi_sem_b mi_in131 (decide (a1 < 0)) false (mi_ltF (0) (by decide) (by omega)) 14 5 ([(0, .int a1), (1, .int 0), (2, .int 5)], [], (0, 0), mi_G) (by rfl) ?_
        refine mi_sem_steps mi_in131 (mi_calok_none _ _) 2 _ (7, [(0, .int a1), (1, .int 0), (2, .int 5)], [.int 5, .int a1], (0, 0), mi_G) (by rfl) ?_
        refine mi_sem_b mi_in131 (decide (5 < a1)) true (mi_ltT2 (5) (by decide) (by omega)) 14 10 ([(0, .int a1), (1, .int 0), (2, .int 5)], [], (0, 0), mi_G) (by rfl) ?_
        refine mi_sem_steps mi_in131 (mi_calok_none _ _) 1 _ (15, [(0, .int a1), (1, .int 0), (2, .int 5)], [.int 0], (0, 0), mi_G) (by rfl) ?_
        exact mi_sem_ret (cal := fun _ _ _ => none) mi_in131 (by rfl)
      refine mi_sem_call mi_in133 (i := (.invokestatic 119, 3, 131, 0, 9, 0, 379)) (by rfl) (by rfl) hM886 (by decide) ⟨Nat.le_of_ble_eq_true rfl, Nat.le_of_ble_eq_true rfl⟩ ?_
      exact mi_sem_ret (cal := fun _ _ _ => none) mi_in133 (by rfl)
    refine mi_sem_call mi_in189 (i := (.invokestatic 127, 3, 133, 0, 9, 0, 382)) (by rfl) (by rfl) hM887 (by decide) ⟨Nat.le_of_ble_eq_true rfl, Nat.le_of_ble_eq_true rfl⟩ ?_
    refine mi_sem_steps mi_in189 (mi_calok_none _ _) 2 _ (17, [(0, .ref 116), (1, .int a1), (2, .int a2)], [.int (-1)], (0, 0), mi_G) (by rfl) ?_
    exact mi_sem_ret (cal := fun _ _ _ => none) mi_in189 (by rfl)

set_option maxRecDepth 100000 in
set_option maxHeartbeats 4000000 in
theorem mp_round_3 (a1 : Int32) (a2 : Int32) (r0 : 0 ≤ (a2).toInt ∧ (a2).toInt ≤ 1) (r1 : (-2147483648) ≤ (a1).toInt ∧ (a1).toInt ≤ (-1)) : mi_P 96 189 [.int a1, .int a2] := by
  refine ⟨.int (-1), mi_G, mi_G, (mi_h96, mi_c96), (mi_h189, mi_c189), 5, 3, rfl, rfl, rfl, by decide, by decide, ?_, ?_⟩
  · refine mi_met_of (y := 96) (q := (mi_h96, mi_c96)) rfl (by decide) (Nat.le_of_ble_eq_true rfl) ?_
    refine mi_sem_steps mi_in96 (mi_calok_none _ _) 3 _ (3, [(0, .ref 0), (1, .int a1), (2, .int a2)], [.int 1, .int 0, .int a2], (0, 0), mi_G) (by rfl) ?_
    have hM889 : mi_Met mi_N0 1 mi_h120 [.int a2, .int 0, .int 1] mi_G (some (.int 1)) mi_G := by
      refine mi_met_of (y := 120) (q := (mi_h120, mi_c120)) rfl (by decide) (Nat.le_of_ble_eq_true rfl) ?_
      refine mi_sem_steps mi_in120 (mi_calok_none _ _) 2 _ (2, [(0, .int a2), (1, .int 0), (2, .int 1)], [.int 0, .int a2], (0, 0), mi_G) (by rfl) ?_
      refine mi_sem_b mi_in120 (decide (a2 < 0)) false (mi_ltF (0) (by decide) (by omega)) 14 5 ([(0, .int a2), (1, .int 0), (2, .int 1)], [], (0, 0), mi_G) (by rfl) ?_
      refine mi_sem_steps mi_in120 (mi_calok_none _ _) 2 _ (7, [(0, .int a2), (1, .int 0), (2, .int 1)], [.int 1, .int a2], (0, 0), mi_G) (by rfl) ?_
      refine mi_sem_b mi_in120 (decide (1 < a2)) false (mi_ltF2 (1) (by decide) (by omega)) 14 10 ([(0, .int a2), (1, .int 0), (2, .int 1)], [], (0, 0), mi_G) (by rfl) ?_
      refine mi_sem_steps mi_in120 (mi_calok_none _ _) 2 _ (15, [(0, .int a2), (1, .int 0), (2, .int 1)], [.int 1], (0, 0), mi_G) (by rfl) ?_
      exact mi_sem_ret (cal := fun _ _ _ => none) mi_in120 (by rfl)
    refine mi_sem_call mi_in96 (i := (.invokestatic 74, 3, 120, 0, 9, 0, 152)) (by rfl) (by rfl) hM889 (by decide) ⟨Nat.le_of_ble_eq_true rfl, Nat.le_of_ble_eq_true rfl⟩ ?_
    refine mi_sem_steps mi_in96 (mi_calok_none _ _) 3 _ (13, [(0, .ref 0), (1, .int a1), (2, .int a2)], [.int a1, .ref 0], (0, 0), mi_G) (by rfl) ?_
    have hM893 : mi_Met mi_N0 4 mi_h129 [.ref 0, .int a1] mi_G (some (.int (-1))) mi_G := by
      refine mi_met_of (y := 129) (q := (mi_h129, mi_c129)) rfl (by decide) (Nat.le_of_ble_eq_true rfl) ?_
      refine mi_sem_steps mi_in129 (mi_calok_none _ _) 2 _ (2, [(0, .ref 0), (1, .int a1)], [.int a1, .ref 0], (0, 0), mi_G) (by rfl) ?_
      have hM892 : mi_Met mi_N0 3 mi_h127 [.ref 0, .int a1] mi_G (some (.int (-1))) mi_G := by
        refine mi_met_of (y := 127) (q := (mi_h127, mi_c127)) rfl (by decide) (Nat.le_of_ble_eq_true rfl) ?_
        refine mi_sem_steps mi_in127 (mi_calok_none _ _) 1 _ (1, [(0, .ref 0), (1, .int a1)], [.int a1], (0, 0), mi_G) (by rfl) ?_
        have hM891 : mi_Met mi_N0 2 mi_h121 [.int a1] mi_G (some (.int 0)) mi_G := by
          refine mi_met_of (y := 121) (q := (mi_h121, mi_c121)) rfl (by decide) (Nat.le_of_ble_eq_true rfl) ?_
          refine mi_sem_steps mi_in121 (mi_calok_none _ _) 3 _ (3, [(0, .int a1)], [.int 5, .int 0, .int a1], (0, 0), mi_G) (by rfl) ?_
          have hM890 : mi_Met mi_N0 1 mi_h120 [.int a1, .int 0, .int 5] mi_G (some (.int 0)) mi_G := by
            refine mi_met_of (y := 120) (q := (mi_h120, mi_c120)) rfl (by decide) (Nat.le_of_ble_eq_true rfl) ?_
            refine mi_sem_steps mi_in120 (mi_calok_none _ _) 2 _ (2, [(0, .int a1), (1, .int 0), (2, .int 5)], [.int 0, .int a1], (0, 0), mi_G) (by rfl) ?_
            refine mi_sem_b mi_in120 (decide (a1 < 0)) true (mi_ltT (0) (by decide) (by omega)) 14 5 ([(0, .int a1), (1, .int 0), (2, .int 5)], [], (0, 0), mi_G) (by rfl) ?_
            refine mi_sem_steps mi_in120 (mi_calok_none _ _) 1 _ (15, [(0, .int a1), (1, .int 0), (2, .int 5)], [.int 0], (0, 0), mi_G) (by rfl) ?_
            exact mi_sem_ret (cal := fun _ _ _ => none) mi_in120 (by rfl)
          refine mi_sem_call mi_in121 (i := (.invokestatic 74, 3, 120, 0, 9, 0, 152)) (by rfl) (by rfl) hM890 (by decide) ⟨Nat.le_of_ble_eq_true rfl, Nat.le_of_ble_eq_true rfl⟩ ?_
          exact mi_sem_ret (cal := fun _ _ _ => none) mi_in121 (by rfl)
        refine mi_sem_call mi_in127 (i := (.invokestatic 70, 3, 121, 0, 9, 0, 157)) (by rfl) (by rfl) hM891 (by decide) ⟨Nat.le_of_ble_eq_true rfl, Nat.le_of_ble_eq_true rfl⟩ ?_
        refine mi_sem_steps mi_in127 (mi_calok_none _ _) 2 _ (8, [(0, .ref 0), (1, .int a1)], [.int (-1)], (0, 0), mi_G) (by rfl) ?_
        exact mi_sem_ret (cal := fun _ _ _ => none) mi_in127 (by rfl)
      refine mi_sem_call mi_in129 (i := (.invokevirtual 217, 3, 127, 0, 9, 0, 209)) (by rfl) (by rfl) hM892 (by decide) ⟨Nat.le_of_ble_eq_true rfl, Nat.le_of_ble_eq_true rfl⟩ ?_
      refine mi_sem_steps mi_in129 (mi_calok_none _ _) 4 _ (31, [(2, .int (-1)), (0, .ref 0), (1, .int a1)], [.int (-1)], (0, 0), mi_G) (by rfl) ?_
      exact mi_sem_ret (cal := fun _ _ _ => none) mi_in129 (by rfl)
    refine mi_sem_call mi_in96 (i := (.invokevirtual 144, 3, 129, 0, 9, 0, 208)) (by rfl) (by rfl) hM893 (by decide) ⟨Nat.le_of_ble_eq_true rfl, Nat.le_of_ble_eq_true rfl⟩ ?_
    refine mi_sem_steps mi_in96 (mi_calok_none _ _) 4 _ (22, [(3, .int (-1)), (0, .ref 0), (1, .int a1), (2, .int a2)], [.int (-1)], (0, 0), mi_G) (by rfl) ?_
    exact mi_sem_ret (cal := fun _ _ _ => none) mi_in96 (by rfl)
  · refine mi_met_of (y := 189) (q := (mi_h189, mi_c189)) rfl (by decide) (Nat.le_of_ble_eq_true rfl) ?_
    refine mi_sem_steps mi_in189 (mi_calok_none _ _) 1 _ (1, [(0, .ref 116), (1, .int a1), (2, .int a2)], [.int a1], (0, 0), mi_G) (by rfl) ?_
    have hM895 : mi_Met mi_N0 2 mi_h133 [.int a1] mi_G (some (.int 0)) mi_G := by
      refine mi_met_of (y := 133) (q := (mi_h133, mi_c133)) rfl (by decide) (Nat.le_of_ble_eq_true rfl) ?_
      refine mi_sem_steps mi_in133 (mi_calok_none _ _) 3 _ (3, [(0, .int a1)], [.int 5, .int 0, .int a1], (0, 0), mi_G) (by rfl) ?_
      have hM894 : mi_Met mi_N0 1 mi_h131 [.int a1, .int 0, .int 5] mi_G (some (.int 0)) mi_G := by
        refine mi_met_of (y := 131) (q := (mi_h131, mi_c131)) rfl (by decide) (Nat.le_of_ble_eq_true rfl) ?_
        refine mi_sem_steps mi_in131 (mi_calok_none _ _) 2 _ (2, [(0, .int a1), (1, .int 0), (2, .int 5)], [.int 0, .int a1], (0, 0), mi_G) (by rfl) ?_
        refine mi_sem_b mi_in131 (decide (a1 < 0)) true (mi_ltT (0) (by decide) (by omega)) 14 5 ([(0, .int a1), (1, .int 0), (2, .int 5)], [], (0, 0), mi_G) (by rfl) ?_
        refine mi_sem_steps mi_in131 (mi_calok_none _ _) 1 _ (15, [(0, .int a1), (1, .int 0), (2, .int 5)], [.int 0], (0, 0), mi_G) (by rfl) ?_
        exact mi_sem_ret (cal := fun _ _ _ => none) mi_in131 (by rfl)
      refine mi_sem_call mi_in133 (i := (.invokestatic 119, 3, 131, 0, 9, 0, 379)) (by rfl) (by rfl) hM894 (by decide) ⟨Nat.le_of_ble_eq_true rfl, Nat.le_of_ble_eq_true rfl⟩ ?_
      exact mi_sem_ret (cal := fun _ _ _ => none) mi_in133 (by rfl)
    refine mi_sem_call mi_in189 (i := (.invokestatic 127, 3, 133, 0, 9, 0, 382)) (by rfl) (by rfl) hM895 (by decide) ⟨Nat.le_of_ble_eq_true rfl, Nat.le_of_ble_eq_true rfl⟩ ?_
    refine mi_sem_steps mi_in189 (mi_calok_none _ _) 2 _ (17, [(0, .ref 116), (1, .int a1), (2, .int a2)], [.int (-1)], (0, 0), mi_G) (by rfl) ?_
    exact mi_sem_ret (cal := fun _ _ _ => none) mi_in189 (by rfl)

set_option maxRecDepth 100000 in
set_option maxHeartbeats 4000000 in
theorem mp_round_4 (a2 : Int32) (r0 : 0 ≤ (a2).toInt ∧ (a2).toInt ≤ 1) : mi_P 96 189 [.int 0, .int a2] := by
  refine ⟨.int (-11), mi_G, mi_G, (mi_h96, mi_c96), (mi_h189, mi_c189), 5, 3, rfl, rfl, rfl, by decide, by decide, ?_, ?_⟩
  · refine mi_met_of (y := 96) (q := (mi_h96, mi_c96)) rfl (by decide) (Nat.le_of_ble_eq_true rfl) ?_
    refine mi_sem_steps mi_in96 (mi_calok_none _ _) 3 _ (3, [(0, .ref 0), (1, .int 0), (2, .int a2)], [.int 1, .int 0, .int a2], (0, 0), mi_G) (by rfl) ?_
    have hM900 : mi_Met mi_N0 1 mi_h120 [.int a2, .int 0, .int 1] mi_G (some (.int 1)) mi_G := by
      refine mi_met_of (y := 120) (q := (mi_h120, mi_c120)) rfl (by decide) (Nat.le_of_ble_eq_true rfl) ?_
      refine mi_sem_steps mi_in120 (mi_calok_none _ _) 2 _ (2, [(0, .int a2), (1, .int 0), (2, .int 1)], [.int 0, .int a2], (0, 0), mi_G) (by rfl) ?_
      refine mi_sem_b mi_in120 (decide (a2 < 0)) false (mi_ltF (0) (by decide) (by omega)) 14 5 ([(0, .int a2), (1, .int 0), (2, .int 1)], [], (0, 0), mi_G) (by rfl) ?_
      refine mi_sem_steps mi_in120 (mi_calok_none _ _) 2 _ (7, [(0, .int a2), (1, .int 0), (2, .int 1)], [.int 1, .int a2], (0, 0), mi_G) (by rfl) ?_
      refine mi_sem_b mi_in120 (decide (1 < a2)) false (mi_ltF2 (1) (by decide) (by omega)) 14 10 ([(0, .int a2), (1, .int 0), (2, .int 1)], [], (0, 0), mi_G) (by rfl) ?_
      refine mi_sem_steps mi_in120 (mi_calok_none _ _) 2 _ (15, [(0, .int a2), (1, .int 0), (2, .int 1)], [.int 1], (0, 0), mi_G) (by rfl) ?_
      exact mi_sem_ret (cal := fun _ _ _ => none) mi_in120 (by rfl)
    refine mi_sem_call mi_in96 (i := (.invokestatic 74, 3, 120, 0, 9, 0, 152)) (by rfl) (by rfl) hM900 (by decide) ⟨Nat.le_of_ble_eq_true rfl, Nat.le_of_ble_eq_true rfl⟩ ?_
    refine mi_sem_steps mi_in96 (mi_calok_none _ _) 3 _ (13, [(0, .ref 0), (1, .int 0), (2, .int a2)], [.int 0, .ref 0], (0, 0), mi_G) (by rfl) ?_
    have hM901 : mi_Met mi_N0 4 mi_h129 [.ref 0, .int 0] mi_G (some (.int (-11))) mi_G := mi_fun_ok mi_N0 4 129 (mi_h129, mi_c129) _ _ _ _ rfl (mi_eR_ok (by decide +kernel))
    refine mi_sem_call mi_in96 (i := (.invokevirtual 144, 3, 129, 0, 9, 0, 208)) (by rfl) (by rfl) hM901 (by decide) ⟨Nat.le_of_ble_eq_true rfl, Nat.le_of_ble_eq_true rfl⟩ ?_
    refine mi_sem_steps mi_in96 (mi_calok_none _ _) 4 _ (22, [(3, .int (-11)), (0, .ref 0), (1, .int 0), (2, .int a2)], [.int (-11)], (0, 0), mi_G) (by rfl) ?_
    exact mi_sem_ret (cal := fun _ _ _ => none) mi_in96 (by rfl)
  · refine mi_met_of (y := 189) (q := (mi_h189, mi_c189)) rfl (by decide) (Nat.le_of_ble_eq_true rfl) ?_
    refine mi_sem_steps mi_in189 (mi_calok_none _ _) 1 _ (1, [(0, .ref 116), (1, .int 0), (2, .int a2)], [.int 0], (0, 0), mi_G) (by rfl) ?_
    have hM902 : mi_Met mi_N0 2 mi_h133 [.int 0] mi_G (some (.int 1)) mi_G := mi_fun_ok mi_N0 2 133 (mi_h133, mi_c133) _ _ _ _ rfl (mi_eR_ok (by decide +kernel))
    refine mi_sem_call mi_in189 (i := (.invokestatic 127, 3, 133, 0, 9, 0, 382)) (by rfl) (by rfl) hM902 (by decide) ⟨Nat.le_of_ble_eq_true rfl, Nat.le_of_ble_eq_true rfl⟩ ?_
    refine mi_sem_steps mi_in189 (mi_calok_none _ _) 4 _ (10, [(0, .ref 116), (1, .int 0), (2, .int a2)], [.int 1, .int 0, .int a2], (0, 0), mi_G) (by rfl) ?_
    have hM903 : mi_Met mi_N0 1 mi_h131 [.int a2, .int 0, .int 1] mi_G (some (.int 1)) mi_G := by
      refine mi_met_of (y := 131) (q := (mi_h131, mi_c131)) rfl (by decide) (Nat.le_of_ble_eq_true rfl) ?_
      refine mi_sem_steps mi_in131 (mi_calok_none _ _) 2 _ (2, [(0, .int a2), (1, .int 0), (2, .int 1)], [.int 0, .int a2], (0, 0), mi_G) (by rfl) ?_
      refine mi_sem_b mi_in131 (decide (a2 < 0)) false (mi_ltF (0) (by decide) (by omega)) 14 5 ([(0, .int a2), (1, .int 0), (2, .int 1)], [], (0, 0), mi_G) (by rfl) ?_
      refine mi_sem_steps mi_in131 (mi_calok_none _ _) 2 _ (7, [(0, .int a2), (1, .int 0), (2, .int 1)], [.int 1, .int a2], (0, 0), mi_G) (by rfl) ?_
      refine mi_sem_b mi_in131 (decide (1 < a2)) false (mi_ltF2 (1) (by decide) (by omega)) 14 10 ([(0, .int a2), (1, .int 0), (2, .int 1)], [], (0, 0), mi_G) (by rfl) ?_
      refine mi_sem_steps mi_in131 (mi_calok_none _ _) 2 _ (15, [(0, .int a2), (1, .int 0), (2, .int 1)], [.int 1], (0, 0), mi_G) (by rfl) ?_
      exact mi_sem_ret (cal := fun _ _ _ => none) mi_in131 (by rfl)
    refine mi_sem_call mi_in189 (i := (.invokestatic 119, 3, 131, 0, 9, 0, 379)) (by rfl) (by rfl) hM903 (by decide) ⟨Nat.le_of_ble_eq_true rfl, Nat.le_of_ble_eq_true rfl⟩ ?_
    refine mi_sem_steps mi_in189 (mi_calok_none _ _) 3 _ (20, [(0, .ref 116), (1, .int 0), (2, .int a2)], [.int 0, .ref 116], (0, 0), mi_G) (by rfl) ?_
    have hM904 : mi_Met mi_N0 1 mi_h173 [.ref 116, .int 0] mi_G (some (.int (-11))) mi_G := mi_fun_ok mi_N0 1 173 (mi_h173, mi_c173) _ _ _ _ rfl (mi_eR_ok (by decide +kernel))
    refine mi_sem_call mi_in189 (i := (.invokevirtual 276, 3, 173, 0, 9, 0, 410)) (by rfl) (by rfl) hM904 (by decide) ⟨Nat.le_of_ble_eq_true rfl, Nat.le_of_ble_eq_true rfl⟩ ?_
    refine mi_sem_steps mi_in189 (mi_calok_none _ _) 4 _ (29, [(3, .int (-11)), (0, .ref 116), (1, .int 0), (2, .int a2)], [.int (-11)], (0, 0), mi_G) (by rfl) ?_
    exact mi_sem_ret (cal := fun _ _ _ => none) mi_in189 (by rfl)

set_option maxRecDepth 100000 in
set_option maxHeartbeats 4000000 in
theorem mp_round_5 (a2 : Int32) (r0 : 0 ≤ (a2).toInt ∧ (a2).toInt ≤ 1) : mi_P 96 189 [.int 1, .int a2] := by
  refine ⟨.int (-11), mi_G, mi_G, (mi_h96, mi_c96), (mi_h189, mi_c189), 5, 3, rfl, rfl, rfl, by decide, by decide, ?_, ?_⟩
  · refine mi_met_of (y := 96) (q := (mi_h96, mi_c96)) rfl (by decide) (Nat.le_of_ble_eq_true rfl) ?_
    refine mi_sem_steps mi_in96 (mi_calok_none _ _) 3 _ (3, [(0, .ref 0), (1, .int 1), (2, .int a2)], [.int 1, .int 0, .int a2], (0, 0), mi_G) (by rfl) ?_
    have hM908 : mi_Met mi_N0 1 mi_h120 [.int a2, .int 0, .int 1] mi_G (some (.int 1)) mi_G := by
      refine mi_met_of (y := 120) (q := (mi_h120, mi_c120)) rfl (by decide) (Nat.le_of_ble_eq_true rfl) ?_
      refine mi_sem_steps mi_in120 (mi_calok_none _ _) 2 _ (2, [(0, .int a2), (1, .int 0), (2, .int 1)], [.int 0, .int a2], (0, 0), mi_G) (by rfl) ?_
      refine mi_sem_b mi_in120 (decide (a2 < 0)) false (mi_ltF (0) (by decide) (by omega)) 14 5 ([(0, .int a2), (1, .int 0), (2, .int 1)], [], (0, 0), mi_G) (by rfl) ?_
      refine mi_sem_steps mi_in120 (mi_calok_none _ _) 2 _ (7, [(0, .int a2), (1, .int 0), (2, .int 1)], [.int 1, .int a2], (0, 0), mi_G) (by rfl) ?_
      refine mi_sem_b mi_in120 (decide (1 < a2)) false (mi_ltF2 (1) (by decide) (by omega)) 14 10 ([(0, .int a2), (1, .int 0), (2, .int 1)], [], (0, 0), mi_G) (by rfl) ?_
      refine mi_sem_steps mi_in120 (mi_calok_none _ _) 2 _ (15, [(0, .int a2), (1, .int 0), (2, .int 1)], [.int 1], (0, 0), mi_G) (by rfl) ?_
      exact mi_sem_ret (cal := fun _ _ _ => none) mi_in120 (by rfl)
    refine mi_sem_call mi_in96 (i := (.invokestatic 74, 3, 120, 0, 9, 0, 152)) (by rfl) (by rfl) hM908 (by decide) ⟨Nat.le_of_ble_eq_true rfl, Nat.le_of_ble_eq_true rfl⟩ ?_
    refine mi_sem_steps mi_in96 (mi_calok_none _ _) 3 _ (13, [(0, .ref 0), (1, .int 1), (2, .int a2)], [.int 1, .ref 0], (0, 0), mi_G) (by rfl) ?_
    have hM909 : mi_Met mi_N0 4 mi_h129 [.ref 0, .int 1] mi_G (some (.int (-11))) mi_G := mi_fun_ok mi_N0 4 129 (mi_h129, mi_c129) _ _ _ _ rfl (mi_eR_ok (by decide +kernel))
    refine mi_sem_call mi_in96 (i := (.invokevirtual 144, 3, 129, 0, 9, 0, 208)) (by rfl) (by rfl) hM909 (by decide) ⟨Nat.le_of_ble_eq_true rfl, Nat.le_of_ble_eq_true rfl⟩ ?_
    refine mi_sem_steps mi_in96 (mi_calok_none _ _) 4 _ (22, [(3, .int (-11)), (0, .ref 0), (1, .int 1), (2, .int a2)], [.int (-11)], (0, 0), mi_G) (by rfl) ?_
    exact mi_sem_ret (cal := fun _ _ _ => none) mi_in96 (by rfl)
  · refine mi_met_of (y := 189) (q := (mi_h189, mi_c189)) rfl (by decide) (Nat.le_of_ble_eq_true rfl) ?_
    refine mi_sem_steps mi_in189 (mi_calok_none _ _) 1 _ (1, [(0, .ref 116), (1, .int 1), (2, .int a2)], [.int 1], (0, 0), mi_G) (by rfl) ?_
    have hM910 : mi_Met mi_N0 2 mi_h133 [.int 1] mi_G (some (.int 1)) mi_G := mi_fun_ok mi_N0 2 133 (mi_h133, mi_c133) _ _ _ _ rfl (mi_eR_ok (by decide +kernel))
    refine mi_sem_call mi_in189 (i := (.invokestatic 127, 3, 133, 0, 9, 0, 382)) (by rfl) (by rfl) hM910 (by decide) ⟨Nat.le_of_ble_eq_true rfl, Nat.le_of_ble_eq_true rfl⟩ ?_
    refine mi_sem_steps mi_in189 (mi_calok_none _ _) 4 _ (10, [(0, .ref 116), (1, .int 1), (2, .int a2)], [.int 1, .int 0, .int a2], (0, 0), mi_G) (by rfl) ?_
    have hM911 : mi_Met mi_N0 1 mi_h131 [.int a2, .int 0, .int 1] mi_G (some (.int 1)) mi_G := by
      refine mi_met_of (y := 131) (q := (mi_h131, mi_c131)) rfl (by decide) (Nat.le_of_ble_eq_true rfl) ?_
      refine mi_sem_steps mi_in131 (mi_calok_none _ _) 2 _ (2, [(0, .int a2), (1, .int 0), (2, .int 1)], [.int 0, .int a2], (0, 0), mi_G) (by rfl) ?_
      refine mi_sem_b mi_in131 (decide (a2 < 0)) false (mi_ltF (0) (by decide) (by omega)) 14 5 ([(0, .int a2), (1, .int 0), (2, .int 1)], [], (0, 0), mi_G) (by rfl) ?_
      refine mi_sem_steps mi_in131 (mi_calok_none _ _) 2 _ (7, [(0, .int a2), (1, .int 0), (2, .int 1)], [.int 1, .int a2], (0, 0), mi_G) (by rfl) ?_
      refine mi_sem_b mi_in131 (decide (1 < a2)) false (mi_ltF2 (1) (by decide) (by omega)) 14 10 ([(0, .int a2), (1, .int 0), (2, .int 1)], [], (0, 0), mi_G) (by rfl) ?_
      refine mi_sem_steps mi_in131 (mi_calok_none _ _) 2 _ (15, [(0, .int a2), (1, .int 0), (2, .int 1)], [.int 1], (0, 0), mi_G) (by rfl) ?_
      exact mi_sem_ret (cal := fun _ _ _ => none) mi_in131 (by rfl)
    refine mi_sem_call mi_in189 (i := (.invokestatic 119, 3, 131, 0, 9, 0, 379)) (by rfl) (by rfl) hM911 (by decide) ⟨Nat.le_of_ble_eq_true rfl, Nat.le_of_ble_eq_true rfl⟩ ?_
    refine mi_sem_steps mi_in189 (mi_calok_none _ _) 3 _ (20, [(0, .ref 116), (1, .int 1), (2, .int a2)], [.int 1, .ref 116], (0, 0), mi_G) (by rfl) ?_
    have hM912 : mi_Met mi_N0 1 mi_h173 [.ref 116, .int 1] mi_G (some (.int (-11))) mi_G := mi_fun_ok mi_N0 1 173 (mi_h173, mi_c173) _ _ _ _ rfl (mi_eR_ok (by decide +kernel))
    refine mi_sem_call mi_in189 (i := (.invokevirtual 276, 3, 173, 0, 9, 0, 410)) (by rfl) (by rfl) hM912 (by decide) ⟨Nat.le_of_ble_eq_true rfl, Nat.le_of_ble_eq_true rfl⟩ ?_
    refine mi_sem_steps mi_in189 (mi_calok_none _ _) 4 _ (29, [(3, .int (-11)), (0, .ref 116), (1, .int 1), (2, .int a2)], [.int (-11)], (0, 0), mi_G) (by rfl) ?_
    exact mi_sem_ret (cal := fun _ _ _ => none) mi_in189 (by rfl)

set_option maxRecDepth 100000 in
set_option maxHeartbeats 4000000 in
theorem mp_round_6 (a2 : Int32) (r0 : 0 ≤ (a2).toInt ∧ (a2).toInt ≤ 1) : mi_P 96 189 [.int 2, .int a2] := by
  refine ⟨.int (-11), mi_G, mi_G, (mi_h96, mi_c96), (mi_h189, mi_c189), 5, 3, rfl, rfl, rfl, by decide, by decide, ?_, ?_⟩
  · refine mi_met_of (y := 96) (q := (mi_h96, mi_c96)) rfl (by decide) (Nat.le_of_ble_eq_true rfl) ?_
    refine mi_sem_steps mi_in96 (mi_calok_none _ _) 3 _ (3, [(0, .ref 0), (1, .int 2), (2, .int a2)], [.int 1, .int 0, .int a2], (0, 0), mi_G) (by rfl) ?_
    have hM916 : mi_Met mi_N0 1 mi_h120 [.int a2, .int 0, .int 1] mi_G (some (.int 1)) mi_G := by
      refine mi_met_of (y := 120) (q := (mi_h120, mi_c120)) rfl (by decide) (Nat.le_of_ble_eq_true rfl) ?_
      refine mi_sem_steps mi_in120 (mi_calok_none _ _) 2 _ (2, [(0, .int a2), (1, .int 0), (2, .int 1)], [.int 0, .int a2], (0, 0), mi_G) (by rfl) ?_
      refine mi_sem_b mi_in120 (decide (a2 < 0)) false (mi_ltF (0) (by decide) (by omega)) 14 5 ([(0, .int a2), (1, .int 0), (2, .int 1)], [], (0, 0), mi_G) (by rfl) ?_
      refine mi_sem_steps mi_in120 (mi_calok_none _ _) 2 _ (7, [(0, .int a2), (1, .int 0), (2, .int 1)], [.int 1, .int a2], (0, 0), mi_G) (by rfl) ?_
      refine mi_sem_b mi_in120 (decide (1 < a2)) false (mi_ltF2 (1) (by decide) (by omega)) 14 10 ([(0, .int a2), (1, .int 0), (2, .int 1)], [], (0, 0), mi_G) (by rfl) ?_
      refine mi_sem_steps mi_in120 (mi_calok_none _ _) 2 _ (15, [(0, .int a2), (1, .int 0), (2, .int 1)], [.int 1], (0, 0), mi_G) (by rfl) ?_
      exact mi_sem_ret (cal := fun _ _ _ => none) mi_in120 (by rfl)
    refine mi_sem_call mi_in96 (i := (.invokestatic 74, 3, 120, 0, 9, 0, 152)) (by rfl) (by rfl) hM916 (by decide) ⟨Nat.le_of_ble_eq_true rfl, Nat.le_of_ble_eq_true rfl⟩ ?_
    refine mi_sem_steps mi_in96 (mi_calok_none _ _) 3 _ (13, [(0, .ref 0), (1, .int 2), (2, .int a2)], [.int 2, .ref 0], (0, 0), mi_G) (by rfl) ?_
    have hM917 : mi_Met mi_N0 4 mi_h129 [.ref 0, .int 2] mi_G (some (.int (-11))) mi_G := mi_fun_ok mi_N0 4 129 (mi_h129, mi_c129) _ _ _ _ rfl (mi_eR_ok (by decide +kernel))
    refine mi_sem_call mi_in96 (i := (.invokevirtual 144, 3, 129, 0, 9, 0, 208)) (by rfl) (by rfl) hM917 (by decide) ⟨Nat.le_of_ble_eq_true rfl, Nat.le_of_ble_eq_true rfl⟩ ?_
    refine mi_sem_steps mi_in96 (mi_calok_none _ _) 4 _ (22, [(3, .int (-11)), (0, .ref 0), (1, .int 2), (2, .int a2)], [.int (-11)], (0, 0), mi_G) (by rfl) ?_
    exact mi_sem_ret (cal := fun _ _ _ => none) mi_in96 (by rfl)
  · refine mi_met_of (y := 189) (q := (mi_h189, mi_c189)) rfl (by decide) (Nat.le_of_ble_eq_true rfl) ?_
    refine mi_sem_steps mi_in189 (mi_calok_none _ _) 1 _ (1, [(0, .ref 116), (1, .int 2), (2, .int a2)], [.int 2], (0, 0), mi_G) (by rfl) ?_
    have hM918 : mi_Met mi_N0 2 mi_h133 [.int 2] mi_G (some (.int 1)) mi_G := mi_fun_ok mi_N0 2 133 (mi_h133, mi_c133) _ _ _ _ rfl (mi_eR_ok (by decide +kernel))
    refine mi_sem_call mi_in189 (i := (.invokestatic 127, 3, 133, 0, 9, 0, 382)) (by rfl) (by rfl) hM918 (by decide) ⟨Nat.le_of_ble_eq_true rfl, Nat.le_of_ble_eq_true rfl⟩ ?_
    refine mi_sem_steps mi_in189 (mi_calok_none _ _) 4 _ (10, [(0, .ref 116), (1, .int 2), (2, .int a2)], [.int 1, .int 0, .int a2], (0, 0), mi_G) (by rfl) ?_
    have hM919 : mi_Met mi_N0 1 mi_h131 [.int a2, .int 0, .int 1] mi_G (some (.int 1)) mi_G := by
      refine mi_met_of (y := 131) (q := (mi_h131, mi_c131)) rfl (by decide) (Nat.le_of_ble_eq_true rfl) ?_
      refine mi_sem_steps mi_in131 (mi_calok_none _ _) 2 _ (2, [(0, .int a2), (1, .int 0), (2, .int 1)], [.int 0, .int a2], (0, 0), mi_G) (by rfl) ?_
      refine mi_sem_b mi_in131 (decide (a2 < 0)) false (mi_ltF (0) (by decide) (by omega)) 14 5 ([(0, .int a2), (1, .int 0), (2, .int 1)], [], (0, 0), mi_G) (by rfl) ?_
      refine mi_sem_steps mi_in131 (mi_calok_none _ _) 2 _ (7, [(0, .int a2), (1, .int 0), (2, .int 1)], [.int 1, .int a2], (0, 0), mi_G) (by rfl) ?_
      refine mi_sem_b mi_in131 (decide (1 < a2)) false (mi_ltF2 (1) (by decide) (by omega)) 14 10 ([(0, .int a2), (1, .int 0), (2, .int 1)], [], (0, 0), mi_G) (by rfl) ?_
      refine mi_sem_steps mi_in131 (mi_calok_none _ _) 2 _ (15, [(0, .int a2), (1, .int 0), (2, .int 1)], [.int 1], (0, 0), mi_G) (by rfl) ?_
      exact mi_sem_ret (cal := fun _ _ _ => none) mi_in131 (by rfl)
    refine mi_sem_call mi_in189 (i := (.invokestatic 119, 3, 131, 0, 9, 0, 379)) (by rfl) (by rfl) hM919 (by decide) ⟨Nat.le_of_ble_eq_true rfl, Nat.le_of_ble_eq_true rfl⟩ ?_
    refine mi_sem_steps mi_in189 (mi_calok_none _ _) 3 _ (20, [(0, .ref 116), (1, .int 2), (2, .int a2)], [.int 2, .ref 116], (0, 0), mi_G) (by rfl) ?_
    have hM920 : mi_Met mi_N0 1 mi_h173 [.ref 116, .int 2] mi_G (some (.int (-11))) mi_G := mi_fun_ok mi_N0 1 173 (mi_h173, mi_c173) _ _ _ _ rfl (mi_eR_ok (by decide +kernel))
    refine mi_sem_call mi_in189 (i := (.invokevirtual 276, 3, 173, 0, 9, 0, 410)) (by rfl) (by rfl) hM920 (by decide) ⟨Nat.le_of_ble_eq_true rfl, Nat.le_of_ble_eq_true rfl⟩ ?_
    refine mi_sem_steps mi_in189 (mi_calok_none _ _) 4 _ (29, [(3, .int (-11)), (0, .ref 116), (1, .int 2), (2, .int a2)], [.int (-11)], (0, 0), mi_G) (by rfl) ?_
    exact mi_sem_ret (cal := fun _ _ _ => none) mi_in189 (by rfl)

set_option maxRecDepth 100000 in
set_option maxHeartbeats 4000000 in
theorem mp_round_7 (a2 : Int32) (r0 : 0 ≤ (a2).toInt ∧ (a2).toInt ≤ 1) : mi_P 96 189 [.int 3, .int a2] := by
  refine ⟨.int (-11), mi_G, mi_G, (mi_h96, mi_c96), (mi_h189, mi_c189), 5, 3, rfl, rfl, rfl, by decide, by decide, ?_, ?_⟩
  · refine mi_met_of (y := 96) (q := (mi_h96, mi_c96)) rfl (by decide) (Nat.le_of_ble_eq_true rfl) ?_
    refine mi_sem_steps mi_in96 (mi_calok_none _ _) 3 _ (3, [(0, .ref 0), (1, .int 3), (2, .int a2)], [.int 1, .int 0, .int a2], (0, 0), mi_G) (by rfl) ?_
    have hM924 : mi_Met mi_N0 1 mi_h120 [.int a2, .int 0, .int 1] mi_G (some (.int 1)) mi_G := by
      refine mi_met_of (y := 120) (q := (mi_h120, mi_c120)) rfl (by decide) (Nat.le_of_ble_eq_true rfl) ?_
      refine mi_sem_steps mi_in120 (mi_calok_none _ _) 2 _ (2, [(0, .int a2), (1, .int 0), (2, .int 1)], [.int 0, .int a2], (0, 0), mi_G) (by rfl) ?_
      refine mi_sem_b mi_in120 (decide (a2 < 0)) false (mi_ltF (0) (by decide) (by omega)) 14 5 ([(0, .int a2), (1, .int 0), (2, .int 1)], [], (0, 0), mi_G) (by rfl) ?_
      refine mi_sem_steps mi_in120 (mi_calok_none _ _) 2 _ (7, [(0, .int a2), (1, .int 0), (2, .int 1)], [.int 1, .int a2], (0, 0), mi_G) (by rfl) ?_
      refine mi_sem_b mi_in120 (decide (1 < a2)) false (mi_ltF2 (1) (by decide) (by omega)) 14 10 ([(0, .int a2), (1, .int 0), (2, .int 1)], [], (0, 0), mi_G) (by rfl) ?_
      refine mi_sem_steps mi_in120 (mi_calok_none _ _) 2 _ (15, [(0, .int a2), (1, .int 0), (2, .int 1)], [.int 1], (0, 0), mi_G) (by rfl) ?_
      exact mi_sem_ret (cal := fun _ _ _ => none) mi_in120 (by rfl)
    refine mi_sem_call mi_in96 (i := (.invokestatic 74, 3, 120, 0, 9, 0, 152)) (by rfl) (by rfl) hM924 (by decide) ⟨Nat.le_of_ble_eq_true rfl, Nat.le_of_ble_eq_true rfl⟩ ?_
    refine mi_sem_steps mi_in96 (mi_calok_none _ _) 3 _ (13, [(0, .ref 0), (1, .int 3), (2, .int a2)], [.int 3, .ref 0], (0, 0), mi_G) (by rfl) ?_
    have hM925 : mi_Met mi_N0 4 mi_h129 [.ref 0, .int 3] mi_G (some (.int (-11))) mi_G := mi_fun_ok mi_N0 4 129 (mi_h129, mi_c129) _ _ _ _ rfl (mi_eR_ok (by decide +kernel))
    refine mi_sem_call mi_in96 (i := (.invokevirtual 144, 3, 129, 0, 9, 0, 208)) (by rfl) (by rfl) hM925 (by decide) ⟨Nat.le_of_ble_eq_true rfl, Nat.le_of_ble_eq_true rfl⟩ ?_
    refine mi_sem_steps mi_in96 (mi_calok_none _ _) 4 _ (22, [(3, .int (-11)), (0, .ref 0), (1, .int 3), (2, .int a2)], [.int (-11)], (0, 0), mi_G) (by rfl) ?_
    exact mi_sem_ret (cal := fun _ _ _ => none) mi_in96 (by rfl)
  · refine mi_met_of (y := 189) (q := (mi_h189, mi_c189)) rfl (by decide) (Nat.le_of_ble_eq_true rfl) ?_
    refine mi_sem_steps mi_in189 (mi_calok_none _ _) 1 _ (1, [(0, .ref 116), (1, .int 3), (2, .int a2)], [.int 3], (0, 0), mi_G) (by rfl) ?_
    have hM926 : mi_Met mi_N0 2 mi_h133 [.int 3] mi_G (some (.int 1)) mi_G := mi_fun_ok mi_N0 2 133 (mi_h133, mi_c133) _ _ _ _ rfl (mi_eR_ok (by decide +kernel))
    refine mi_sem_call mi_in189 (i := (.invokestatic 127, 3, 133, 0, 9, 0, 382)) (by rfl) (by rfl) hM926 (by decide) ⟨Nat.le_of_ble_eq_true rfl, Nat.le_of_ble_eq_true rfl⟩ ?_
    refine mi_sem_steps mi_in189 (mi_calok_none _ _) 4 _ (10, [(0, .ref 116), (1, .int 3), (2, .int a2)], [.int 1, .int 0, .int a2], (0, 0), mi_G) (by rfl) ?_
    have hM927 : mi_Met mi_N0 1 mi_h131 [.int a2, .int 0, .int 1] mi_G (some (.int 1)) mi_G := by
      refine mi_met_of (y := 131) (q := (mi_h131, mi_c131)) rfl (by decide) (Nat.le_of_ble_eq_true rfl) ?_
      refine mi_sem_steps mi_in131 (mi_calok_none _ _) 2 _ (2, [(0, .int a2), (1, .int 0), (2, .int 1)], [.int 0, .int a2], (0, 0), mi_G) (by rfl) ?_
      refine mi_sem_b mi_in131 (decide (a2 < 0)) false (mi_ltF (0) (by decide) (by omega)) 14 5 ([(0, .int a2), (1, .int 0), (2, .int 1)], [], (0, 0), mi_G) (by rfl) ?_
      refine mi_sem_steps mi_in131 (mi_calok_none _ _) 2 _ (7, [(0, .int a2), (1, .int 0), (2, .int 1)], [.int 1, .int a2], (0, 0), mi_G) (by rfl) ?_
      refine mi_sem_b mi_in131 (decide (1 < a2)) false (mi_ltF2 (1) (by decide) (by omega)) 14 10 ([(0, .int a2), (1, .int 0), (2, .int 1)], [], (0, 0), mi_G) (by rfl) ?_
      refine mi_sem_steps mi_in131 (mi_calok_none _ _) 2 _ (15, [(0, .int a2), (1, .int 0), (2, .int 1)], [.int 1], (0, 0), mi_G) (by rfl) ?_
      exact mi_sem_ret (cal := fun _ _ _ => none) mi_in131 (by rfl)
    refine mi_sem_call mi_in189 (i := (.invokestatic 119, 3, 131, 0, 9, 0, 379)) (by rfl) (by rfl) hM927 (by decide) ⟨Nat.le_of_ble_eq_true rfl, Nat.le_of_ble_eq_true rfl⟩ ?_
    refine mi_sem_steps mi_in189 (mi_calok_none _ _) 3 _ (20, [(0, .ref 116), (1, .int 3), (2, .int a2)], [.int 3, .ref 116], (0, 0), mi_G) (by rfl) ?_
    have hM928 : mi_Met mi_N0 1 mi_h173 [.ref 116, .int 3] mi_G (some (.int (-11))) mi_G := mi_fun_ok mi_N0 1 173 (mi_h173, mi_c173) _ _ _ _ rfl (mi_eR_ok (by decide +kernel))
    refine mi_sem_call mi_in189 (i := (.invokevirtual 276, 3, 173, 0, 9, 0, 410)) (by rfl) (by rfl) hM928 (by decide) ⟨Nat.le_of_ble_eq_true rfl, Nat.le_of_ble_eq_true rfl⟩ ?_
    refine mi_sem_steps mi_in189 (mi_calok_none _ _) 4 _ (29, [(3, .int (-11)), (0, .ref 116), (1, .int 3), (2, .int a2)], [.int (-11)], (0, 0), mi_G) (by rfl) ?_
    exact mi_sem_ret (cal := fun _ _ _ => none) mi_in189 (by rfl)

set_option maxRecDepth 100000 in
set_option maxHeartbeats 4000000 in
theorem mp_round_8 (a2 : Int32) (r0 : 0 ≤ (a2).toInt ∧ (a2).toInt ≤ 1) : mi_P 96 189 [.int 4, .int a2] := by
  refine ⟨.int (-11), mi_G, mi_G, (mi_h96, mi_c96), (mi_h189, mi_c189), 5, 3, rfl, rfl, rfl, by decide, by decide, ?_, ?_⟩
  · refine mi_met_of (y := 96) (q := (mi_h96, mi_c96)) rfl (by decide) (Nat.le_of_ble_eq_true rfl) ?_
    refine mi_sem_steps mi_in96 (mi_calok_none _ _) 3 _ (3, [(0, .ref 0), (1, .int 4), (2, .int a2)], [.int 1, .int 0, .int a2], (0, 0), mi_G) (by rfl) ?_
    have hM932 : mi_Met mi_N0 1 mi_h120 [.int a2, .int 0, .int 1] mi_G (some (.int 1)) mi_G := by
      refine mi_met_of (y := 120) (q := (mi_h120, mi_c120)) rfl (by decide) (Nat.le_of_ble_eq_true rfl) ?_
      refine mi_sem_steps mi_in120 (mi_calok_none _ _) 2 _ (2, [(0, .int a2), (1, .int 0), (2, .int 1)], [.int 0, .int a2], (0, 0), mi_G) (by rfl) ?_
      refine mi_sem_b mi_in120 (decide (a2 < 0)) false (mi_ltF (0) (by decide) (by omega)) 14 5 ([(0, .int a2), (1, .int 0), (2, .int 1)], [], (0, 0), mi_G) (by rfl) ?_
      refine mi_sem_steps mi_in120 (mi_calok_none _ _) 2 _ (7, [(0, .int a2), (1, .int 0), (2, .int 1)], [.int 1, .int a2], (0, 0), mi_G) (by rfl) ?_
      refine mi_sem_b mi_in120 (decide (1 < a2)) false (mi_ltF2 (1) (by decide) (by omega)) 14 10 ([(0, .int a2), (1, .int 0), (2, .int 1)], [], (0, 0), mi_G) (by rfl) ?_
      refine mi_sem_steps mi_in120 (mi_calok_none _ _) 2 _ (15, [(0, .int a2), (1, .int 0), (2, .int 1)], [.int 1], (0, 0), mi_G) (by rfl) ?_
      exact mi_sem_ret (cal := fun _ _ _ => none) mi_in120 (by rfl)
    refine mi_sem_call mi_in96 (i := (.invokestatic 74, 3, 120, 0, 9, 0, 152)) (by rfl) (by rfl) hM932 (by decide) ⟨Nat.le_of_ble_eq_true rfl, Nat.le_of_ble_eq_true rfl⟩ ?_
    refine mi_sem_steps mi_in96 (mi_calok_none _ _) 3 _ (13, [(0, .ref 0), (1, .int 4), (2, .int a2)], [.int 4, .ref 0], (0, 0), mi_G) (by rfl) ?_
    have hM933 : mi_Met mi_N0 4 mi_h129 [.ref 0, .int 4] mi_G (some (.int (-11))) mi_G := mi_fun_ok mi_N0 4 129 (mi_h129, mi_c129) _ _ _ _ rfl (mi_eR_ok (by decide +kernel))
    refine mi_sem_call mi_in96 (i := (.invokevirtual 144, 3, 129, 0, 9, 0, 208)) (by rfl) (by rfl) hM933 (by decide) ⟨Nat.le_of_ble_eq_true rfl, Nat.le_of_ble_eq_true rfl⟩ ?_
    refine mi_sem_steps mi_in96 (mi_calok_none _ _) 4 _ (22, [(3, .int (-11)), (0, .ref 0), (1, .int 4), (2, .int a2)], [.int (-11)], (0, 0), mi_G) (by rfl) ?_
    exact mi_sem_ret (cal := fun _ _ _ => none) mi_in96 (by rfl)
  · refine mi_met_of (y := 189) (q := (mi_h189, mi_c189)) rfl (by decide) (Nat.le_of_ble_eq_true rfl) ?_
    refine mi_sem_steps mi_in189 (mi_calok_none _ _) 1 _ (1, [(0, .ref 116), (1, .int 4), (2, .int a2)], [.int 4], (0, 0), mi_G) (by rfl) ?_
    have hM934 : mi_Met mi_N0 2 mi_h133 [.int 4] mi_G (some (.int 1)) mi_G := mi_fun_ok mi_N0 2 133 (mi_h133, mi_c133) _ _ _ _ rfl (mi_eR_ok (by decide +kernel))
    refine mi_sem_call mi_in189 (i := (.invokestatic 127, 3, 133, 0, 9, 0, 382)) (by rfl) (by rfl) hM934 (by decide) ⟨Nat.le_of_ble_eq_true rfl, Nat.le_of_ble_eq_true rfl⟩ ?_
    refine mi_sem_steps mi_in189 (mi_calok_none _ _) 4 _ (10, [(0, .ref 116), (1, .int 4), (2, .int a2)], [.int 1, .int 0, .int a2], (0, 0), mi_G) (by rfl) ?_
    have hM935 : mi_Met mi_N0 1 mi_h131 [.int a2, .int 0, .int 1] mi_G (some (.int 1)) mi_G := by
      refine mi_met_of (y := 131) (q := (mi_h131, mi_c131)) rfl (by decide) (Nat.le_of_ble_eq_true rfl) ?_
      refine mi_sem_steps mi_in131 (mi_calok_none _ _) 2 _ (2, [(0, .int a2), (1, .int 0), (2, .int 1)], [.int 0, .int a2], (0, 0), mi_G) (by rfl) ?_
      refine mi_sem_b mi_in131 (decide (a2 < 0)) false (mi_ltF (0) (by decide) (by omega)) 14 5 ([(0, .int a2), (1, .int 0), (2, .int 1)], [], (0, 0), mi_G) (by rfl) ?_
      refine mi_sem_steps mi_in131 (mi_calok_none _ _) 2 _ (7, [(0, .int a2), (1, .int 0), (2, .int 1)], [.int 1, .int a2], (0, 0), mi_G) (by rfl) ?_
      refine mi_sem_b mi_in131 (decide (1 < a2)) false (mi_ltF2 (1) (by decide) (by omega)) 14 10 ([(0, .int a2), (1, .int 0), (2, .int 1)], [], (0, 0), mi_G) (by rfl) ?_
      refine mi_sem_steps mi_in131 (mi_calok_none _ _) 2 _ (15, [(0, .int a2), (1, .int 0), (2, .int 1)], [.int 1], (0, 0), mi_G) (by rfl) ?_
      exact mi_sem_ret (cal := fun _ _ _ => none) mi_in131 (by rfl)
    refine mi_sem_call mi_in189 (i := (.invokestatic 119, 3, 131, 0, 9, 0, 379)) (by rfl) (by rfl) hM935 (by decide) ⟨Nat.le_of_ble_eq_true rfl, Nat.le_of_ble_eq_true rfl⟩ ?_
    refine mi_sem_steps mi_in189 (mi_calok_none _ _) 3 _ (20, [(0, .ref 116), (1, .int 4), (2, .int a2)], [.int 4, .ref 116], (0, 0), mi_G) (by rfl) ?_
    have hM936 : mi_Met mi_N0 1 mi_h173 [.ref 116, .int 4] mi_G (some (.int (-11))) mi_G := mi_fun_ok mi_N0 1 173 (mi_h173, mi_c173) _ _ _ _ rfl (mi_eR_ok (by decide +kernel))
    refine mi_sem_call mi_in189 (i := (.invokevirtual 276, 3, 173, 0, 9, 0, 410)) (by rfl) (by rfl) hM936 (by decide) ⟨Nat.le_of_ble_eq_true rfl, Nat.le_of_ble_eq_true rfl⟩ ?_
    refine mi_sem_steps mi_in189 (mi_calok_none _ _) 4 _ (29, [(3, .int (-11)), (0, .ref 116), (1, .int 4), (2, .int a2)], [.int (-11)], (0, 0), mi_G) (by rfl) ?_
    exact mi_sem_ret (cal := fun _ _ _ => none) mi_in189 (by rfl)

set_option maxRecDepth 100000 in
set_option maxHeartbeats 4000000 in
theorem mp_round_9 (a2 : Int32) (r0 : 0 ≤ (a2).toInt ∧ (a2).toInt ≤ 1) : mi_P 96 189 [.int 5, .int a2] := by
  refine ⟨.int (-11), mi_G, mi_G, (mi_h96, mi_c96), (mi_h189, mi_c189), 5, 3, rfl, rfl, rfl, by decide, by decide, ?_, ?_⟩
  · refine mi_met_of (y := 96) (q := (mi_h96, mi_c96)) rfl (by decide) (Nat.le_of_ble_eq_true rfl) ?_
    refine mi_sem_steps mi_in96 (mi_calok_none _ _) 3 _ (3, [(0, .ref 0), (1, .int 5), (2, .int a2)], [.int 1, .int 0, .int a2], (0, 0), mi_G) (by rfl) ?_
    have hM937 : mi_Met mi_N0 1 mi_h120 [.int a2, .int 0, .int 1] mi_G (some (.int 1)) mi_G := by
      refine mi_met_of (y := 120) (q := (mi_h120, mi_c120)) rfl (by decide) (Nat.le_of_ble_eq_true rfl) ?_
      refine mi_sem_steps mi_in120 (mi_calok_none _ _) 2 _ (2, [(0, .int a2), (1, .int 0), (2, .int 1)], [.int 0, .int a2], (0, 0), mi_G) (by rfl) ?_
      refine mi_sem_b mi_in120 (decide (a2 < 0)) false (mi_ltF (0) (by decide) (by omega)) 14 5 ([(0, .int a2), (1, .int 0), (2, .int 1)], [], (0, 0), mi_G) (by rfl) ?_
      refine mi_sem_steps mi_in120 (mi_calok_none _ _) 2 _ (7, [(0, .int a2), (1, .int 0), (2, .int 1)], [.int 1, .int a2], (0, 0), mi_G) (by rfl) ?_
      refine mi_sem_b mi_in120 (decide (1 < a2)) false (mi_ltF2 (1) (by decide) (by omega)) 14 10 ([(0, .int a2), (1, .int 0), (2, .int 1)], [], (0, 0), mi_G) (by rfl) ?_
      refine mi_sem_steps mi_in120 (mi_calok_none _ _) 2 _ (15, [(0, .int a2), (1, .int 0), (2, .int 1)], [.int 1], (0, 0), mi_G) (by rfl) ?_
      exact mi_sem_ret (cal := fun _ _ _ => none) mi_in120 (by rfl)
    refine mi_sem_call mi_in96 (i := (.invokestatic 74, 3, 120, 0, 9, 0, 152)) (by rfl) (by rfl) hM937 (by decide) ⟨Nat.le_of_ble_eq_true rfl, Nat.le_of_ble_eq_true rfl⟩ ?_
    refine mi_sem_steps mi_in96 (mi_calok_none _ _) 3 _ (13, [(0, .ref 0), (1, .int 5), (2, .int a2)], [.int 5, .ref 0], (0, 0), mi_G) (by rfl) ?_
    have hM938 : mi_Met mi_N0 4 mi_h129 [.ref 0, .int 5] mi_G (some (.int (-11))) mi_G := mi_fun_ok mi_N0 4 129 (mi_h129, mi_c129) _ _ _ _ rfl (mi_eR_ok (by decide +kernel))
    refine mi_sem_call mi_in96 (i := (.invokevirtual 144, 3, 129, 0, 9, 0, 208)) (by rfl) (by rfl) hM938 (by decide) ⟨Nat.le_of_ble_eq_true rfl, Nat.le_of_ble_eq_true rfl⟩ ?_
    refine mi_sem_steps mi_in96 (mi_calok_none _ _) 4 _ (22, [(3, .int (-11)), (0, .ref 0), (1, .int 5), (2, .int a2)], [.int (-11)], (0, 0), mi_G) (by rfl) ?_
    exact mi_sem_ret (cal := fun _ _ _ => none) mi_in96 (by rfl)
  · refine mi_met_of (y := 189) (q := (mi_h189, mi_c189)) rfl (by decide) (Nat.le_of_ble_eq_true rfl) ?_
    refine mi_sem_steps mi_in189 (mi_calok_none _ _) 1 _ (1, [(0, .ref 116), (1, .int 5), (2, .int a2)], [.int 5], (0, 0), mi_G) (by rfl) ?_
    have hM939 : mi_Met mi_N0 2 mi_h133 [.int 5] mi_G (some (.int 1)) mi_G := mi_fun_ok mi_N0 2 133 (mi_h133, mi_c133) _ _ _ _ rfl (mi_eR_ok (by decide +kernel))
    refine mi_sem_call mi_in189 (i := (.invokestatic 127, 3, 133, 0, 9, 0, 382)) (by rfl) (by rfl) hM939 (by decide) ⟨Nat.le_of_ble_eq_true rfl, Nat.le_of_ble_eq_true rfl⟩ ?_
    refine mi_sem_steps mi_in189 (mi_calok_none _ _) 4 _ (10, [(0, .ref 116), (1, .int 5), (2, .int a2)], [.int 1, .int 0, .int a2], (0, 0), mi_G) (by rfl) ?_
    have hM940 : mi_Met mi_N0 1 mi_h131 [.int a2, .int 0, .int 1] mi_G (some (.int 1)) mi_G := by
      refine mi_met_of (y := 131) (q := (mi_h131, mi_c131)) rfl (by decide) (Nat.le_of_ble_eq_true rfl) ?_
      refine mi_sem_steps mi_in131 (mi_calok_none _ _) 2 _ (2, [(0, .int a2), (1, .int 0), (2, .int 1)], [.int 0, .int a2], (0, 0), mi_G) (by rfl) ?_
      refine mi_sem_b mi_in131 (decide (a2 < 0)) false (mi_ltF (0) (by decide) (by omega)) 14 5 ([(0, .int a2), (1, .int 0), (2, .int 1)], [], (0, 0), mi_G) (by rfl) ?_
      refine mi_sem_steps mi_in131 (mi_calok_none _ _) 2 _ (7, [(0, .int a2), (1, .int 0), (2, .int 1)], [.int 1, .int a2], (0, 0), mi_G) (by rfl) ?_
      refine mi_sem_b mi_in131 (decide (1 < a2)) false (mi_ltF2 (1) (by decide) (by omega)) 14 10 ([(0, .int a2), (1, .int 0), (2, .int 1)], [], (0, 0), mi_G) (by rfl) ?_
      refine mi_sem_steps mi_in131 (mi_calok_none _ _) 2 _ (15, [(0, .int a2), (1, .int 0), (2, .int 1)], [.int 1], (0, 0), mi_G) (by rfl) ?_
      exact mi_sem_ret (cal := fun _ _ _ => none) mi_in131 (by rfl)
    refine mi_sem_call mi_in189 (i := (.invokestatic 119, 3, 131, 0, 9, 0, 379)) (by rfl) (by rfl) hM940 (by decide) ⟨Nat.le_of_ble_eq_true rfl, Nat.le_of_ble_eq_true rfl⟩ ?_
    refine mi_sem_steps mi_in189 (mi_calok_none _ _) 3 _ (20, [(0, .ref 116), (1, .int 5), (2, .int a2)], [.int 5, .ref 116], (0, 0), mi_G) (by rfl) ?_
    have hM941 : mi_Met mi_N0 1 mi_h173 [.ref 116, .int 5] mi_G (some (.int (-11))) mi_G := mi_fun_ok mi_N0 1 173 (mi_h173, mi_c173) _ _ _ _ rfl (mi_eR_ok (by decide +kernel))
    refine mi_sem_call mi_in189 (i := (.invokevirtual 276, 3, 173, 0, 9, 0, 410)) (by rfl) (by rfl) hM941 (by decide) ⟨Nat.le_of_ble_eq_true rfl, Nat.le_of_ble_eq_true rfl⟩ ?_
    refine mi_sem_steps mi_in189 (mi_calok_none _ _) 4 _ (29, [(3, .int (-11)), (0, .ref 116), (1, .int 5), (2, .int a2)], [.int (-11)], (0, 0), mi_G) (by rfl) ?_
    exact mi_sem_ret (cal := fun _ _ _ => none) mi_in189 (by rfl)

set_option maxRecDepth 100000 in
set_option maxHeartbeats 4000000 in
theorem mp_round_10 (a1 : Int32) (a2 : Int32) (r0 : 0 ≤ (a2).toInt ∧ (a2).toInt ≤ 1) (r1 : 6 ≤ (a1).toInt ∧ (a1).toInt ≤ 2147483647) : mi_P 96 189 [.int a1, .int a2] := by
  refine ⟨.int (-1), mi_G, mi_G, (mi_h96, mi_c96), (mi_h189, mi_c189), 5, 3, rfl, rfl, rfl, by decide, by decide, ?_, ?_⟩
  · refine mi_met_of (y := 96) (q := (mi_h96, mi_c96)) rfl (by decide) (Nat.le_of_ble_eq_true rfl) ?_
    refine mi_sem_steps mi_in96 (mi_calok_none _ _) 3 _ (3, [(0, .ref 0), (1, .int a1), (2, .int a2)], [.int 1, .int 0, .int a2], (0, 0), mi_G) (by rfl) ?_
    have hM942 : mi_Met mi_N0 1 mi_h120 [.int a2, .int 0, .int 1] mi_G (some (.int 1)) mi_G := by
      refine mi_met_of (y := 120) (q := (mi_h120, mi_c120)) rfl (by decide) (Nat.le_of_ble_eq_true rfl) ?_
      refine mi_sem_steps mi_in120 (mi_calok_none _ _) 2 _ (2, [(0, .int a2), (1, .int 0), (2, .int 1)], [.int 0, .int a2], (0, 0), mi_G) (by rfl) ?_
      refine mi_sem_b mi_in120 (decide (a2 < 0)) false (mi_ltF (0) (by decide) (by omega)) 14 5 ([(0, .int a2), (1, .int 0), (2, .int 1)], [], (0, 0), mi_G) (by rfl) ?_
      refine mi_sem_steps mi_in120 (mi_calok_none _ _) 2 _ (7, [(0, .int a2), (1, .int 0), (2, .int 1)], [.int 1, .int a2], (0, 0), mi_G) (by rfl) ?_
      refine mi_sem_b mi_in120 (decide (1 < a2)) false (mi_ltF2 (1) (by decide) (by omega)) 14 10 ([(0, .int a2), (1, .int 0), (2, .int 1)], [], (0, 0), mi_G) (by rfl) ?_
      refine mi_sem_steps mi_in120 (mi_calok_none _ _) 2 _ (15, [(0, .int a2), (1, .int 0), (2, .int 1)], [.int 1], (0, 0), mi_G) (by rfl) ?_
      exact mi_sem_ret (cal := fun _ _ _ => none) mi_in120 (by rfl)
    refine mi_sem_call mi_in96 (i := (.invokestatic 74, 3, 120, 0, 9, 0, 152)) (by rfl) (by rfl) hM942 (by decide) ⟨Nat.le_of_ble_eq_true rfl, Nat.le_of_ble_eq_true rfl⟩ ?_
    refine mi_sem_steps mi_in96 (mi_calok_none _ _) 3 _ (13, [(0, .ref 0), (1, .int a1), (2, .int a2)], [.int a1, .ref 0], (0, 0), mi_G) (by rfl) ?_
    have hM946 : mi_Met mi_N0 4 mi_h129 [.ref 0, .int a1] mi_G (some (.int (-1))) mi_G := by
      refine mi_met_of (y := 129) (q := (mi_h129, mi_c129)) rfl (by decide) (Nat.le_of_ble_eq_true rfl) ?_
      refine mi_sem_steps mi_in129 (mi_calok_none _ _) 2 _ (2, [(0, .ref 0), (1, .int a1)], [.int a1, .ref 0], (0, 0), mi_G) (by rfl) ?_
      have hM945 : mi_Met mi_N0 3 mi_h127 [.ref 0, .int a1] mi_G (some (.int (-1))) mi_G := by
        refine mi_met_of (y := 127) (q := (mi_h127, mi_c127)) rfl (by decide) (Nat.le_of_ble_eq_true rfl) ?_
        refine mi_sem_steps mi_in127 (mi_calok_none _ _) 1 _ (1, [(0, .ref 0), (1, .int a1)], [.int a1], (0, 0), mi_G) (by rfl) ?_
        have hM944 : mi_Met mi_N0 2 mi_h121 [.int a1] mi_G (some (.int 0)) mi_G := by
          refine mi_met_of (y := 121) (q := (mi_h121, mi_c121)) rfl (by decide) (Nat.le_of_ble_eq_true rfl) ?_
          refine mi_sem_steps mi_in121 (mi_calok_none _ _) 3 _ (3, [(0, .int a1)], [.int 5, .int 0, .int a1], (0, 0), mi_G) (by rfl) ?_
          have hM943 : mi_Met mi_N0 1 mi_h120 [.int a1, .int 0, .int 5] mi_G (some (.int 0)) mi_G := by
            refine mi_met_of (y := 120) (q := (mi_h120, mi_c120)) rfl (by decide) (Nat.le_of_ble_eq_true rfl) ?_
            refine mi_sem_steps mi_in120 (mi_calok_none _ _) 2 _ (2, [(0, .int a1), (1, .int 0), (2, .int 5)], [.int 0, .int a1], (0, 0), mi_G) (by rfl) ?_
            refine mi_sem_b mi_in120 (decide (a1 < 0)) false (mi_ltF (0) (by decide) (by omega)) 14 5 ([(0, .int a1), (1, .int 0), (2, .int 5)], [], (0, 0), mi_G) (by rfl) ?_
            refine mi_sem_steps mi_in120 (mi_calok_none _ _) 2 _ (7, [(0, .int a1), (1, .int 0), (2, .int 5)], [.int 5, .int a1], (0, 0), mi_G) (by rfl) ?_
            refine mi_sem_b mi_in120 (decide (5 < a1)) true (mi_ltT2 (5) (by decide) (by omega)) 14 10 ([(0, .int a1), (1, .int 0), (2, .int 5)], [], (0, 0), mi_G) (by rfl) ?_
            refine mi_sem_steps mi_in120 (mi_calok_none _ _) 1 _ (15, [(0, .int a1), (1, .int 0), (2, .int 5)], [.int 0], (0, 0), mi_G) (by rfl) ?_
            exact mi_sem_ret (cal := fun _ _ _ => none) mi_in120 (by rfl)
          refine mi_sem_call mi_in121 (i := (.invokestatic 74, 3, 120, 0, 9, 0, 152)) (by rfl) (by rfl) hM943 (by decide) ⟨Nat.le_of_ble_eq_true rfl, Nat.le_of_ble_eq_true rfl⟩ ?_
          exact mi_sem_ret (cal := fun _ _ _ => none) mi_in121 (by rfl)
        refine mi_sem_call mi_in127 (i := (.invokestatic 70, 3, 121, 0, 9, 0, 157)) (by rfl) (by rfl) hM944 (by decide) ⟨Nat.le_of_ble_eq_true rfl, Nat.le_of_ble_eq_true rfl⟩ ?_
        refine mi_sem_steps mi_in127 (mi_calok_none _ _) 2 _ (8, [(0, .ref 0), (1, .int a1)], [.int (-1)], (0, 0), mi_G) (by rfl) ?_
        exact mi_sem_ret (cal := fun _ _ _ => none) mi_in127 (by rfl)
      refine mi_sem_call mi_in129 (i := (.invokevirtual 217, 3, 127, 0, 9, 0, 209)) (by rfl) (by rfl) hM945 (by decide) ⟨Nat.le_of_ble_eq_true rfl, Nat.le_of_ble_eq_true rfl⟩ ?_
      refine mi_sem_steps mi_in129 (mi_calok_none _ _) 4 _ (31, [(2, .int (-1)), (0, .ref 0), (1, .int a1)], [.int (-1)], (0, 0), mi_G) (by rfl) ?_
      exact mi_sem_ret (cal := fun _ _ _ => none) mi_in129 (by rfl)
    refine mi_sem_call mi_in96 (i := (.invokevirtual 144, 3, 129, 0, 9, 0, 208)) (by rfl) (by rfl) hM946 (by decide) ⟨Nat.le_of_ble_eq_true rfl, Nat.le_of_ble_eq_true rfl⟩ ?_
    refine mi_sem_steps mi_in96 (mi_calok_none _ _) 4 _ (22, [(3, .int (-1)), (0, .ref 0), (1, .int a1), (2, .int a2)], [.int (-1)], (0, 0), mi_G) (by rfl) ?_
    exact mi_sem_ret (cal := fun _ _ _ => none) mi_in96 (by rfl)
  · refine mi_met_of (y := 189) (q := (mi_h189, mi_c189)) rfl (by decide) (Nat.le_of_ble_eq_true rfl) ?_
    refine mi_sem_steps mi_in189 (mi_calok_none _ _) 1 _ (1, [(0, .ref 116), (1, .int a1), (2, .int a2)], [.int a1], (0, 0), mi_G) (by rfl) ?_
    have hM948 : mi_Met mi_N0 2 mi_h133 [.int a1] mi_G (some (.int 0)) mi_G := by
      refine mi_met_of (y := 133) (q := (mi_h133, mi_c133)) rfl (by decide) (Nat.le_of_ble_eq_true rfl) ?_
      refine mi_sem_steps mi_in133 (mi_calok_none _ _) 3 _ (3, [(0, .int a1)], [.int 5, .int 0, .int a1], (0, 0), mi_G) (by rfl) ?_
      have hM947 : mi_Met mi_N0 1 mi_h131 [.int a1, .int 0, .int 5] mi_G (some (.int 0)) mi_G := by
        refine mi_met_of (y := 131) (q := (mi_h131, mi_c131)) rfl (by decide) (Nat.le_of_ble_eq_true rfl) ?_
        refine mi_sem_steps mi_in131 (mi_calok_none _ _) 2 _ (2, [(0, .int a1), (1, .int 0), (2, .int 5)], [.int 0, .int a1], (0, 0), mi_G) (by rfl) ?_
        refine mi_sem_b mi_in131 (decide (a1 < 0)) false (mi_ltF (0) (by decide) (by omega)) 14 5 ([(0, .int a1), (1, .int 0), (2, .int 5)], [], (0, 0), mi_G) (by rfl) ?_
        refine mi_sem_steps mi_in131 (mi_calok_none _ _) 2 _ (7, [(0, .int a1), (1, .int 0), (2, .int 5)], [.int 5, .int a1], (0, 0), mi_G) (by rfl) ?_
        refine mi_sem_b mi_in131 (decide (5 < a1)) true (mi_ltT2 (5) (by decide) (by omega)) 14 10 ([(0, .int a1), (1, .int 0), (2, .int 5)], [], (0, 0), mi_G) (by rfl) ?_
        refine mi_sem_steps mi_in131 (mi_calok_none _ _) 1 _ (15, [(0, .int a1), (1, .int 0), (2, .int 5)], [.int 0], (0, 0), mi_G) (by rfl) ?_
        exact mi_sem_ret (cal := fun _ _ _ => none) mi_in131 (by rfl)
      refine mi_sem_call mi_in133 (i := (.invokestatic 119, 3, 131, 0, 9, 0, 379)) (by rfl) (by rfl) hM947 (by decide) ⟨Nat.le_of_ble_eq_true rfl, Nat.le_of_ble_eq_true rfl⟩ ?_
      exact mi_sem_ret (cal := fun _ _ _ => none) mi_in133 (by rfl)
    refine mi_sem_call mi_in189 (i := (.invokestatic 127, 3, 133, 0, 9, 0, 382)) (by rfl) (by rfl) hM948 (by decide) ⟨Nat.le_of_ble_eq_true rfl, Nat.le_of_ble_eq_true rfl⟩ ?_
    refine mi_sem_steps mi_in189 (mi_calok_none _ _) 2 _ (17, [(0, .ref 116), (1, .int a1), (2, .int a2)], [.int (-1)], (0, 0), mi_G) (by rfl) ?_
    exact mi_sem_ret (cal := fun _ _ _ => none) mi_in189 (by rfl)

set_option maxRecDepth 100000 in
set_option maxHeartbeats 4000000 in
theorem mp_round_11 (a1 : Int32) (a2 : Int32) (r0 : 2 ≤ (a2).toInt ∧ (a2).toInt ≤ 2147483647) (r1 : (-2147483648) ≤ (a1).toInt ∧ (a1).toInt ≤ (-1)) : mi_P 96 189 [.int a1, .int a2] := by
  refine ⟨.int (-1), mi_G, mi_G, (mi_h96, mi_c96), (mi_h189, mi_c189), 2, 3, rfl, rfl, rfl, by decide, by decide, ?_, ?_⟩
  · refine mi_met_of (y := 96) (q := (mi_h96, mi_c96)) rfl (by decide) (Nat.le_of_ble_eq_true rfl) ?_
    refine mi_sem_steps mi_in96 (mi_calok_none _ _) 3 _ (3, [(0, .ref 0), (1, .int a1), (2, .int a2)], [.int 1, .int 0, .int a2], (0, 0), mi_G) (by rfl) ?_
    have hM950 : mi_Met mi_N0 1 mi_h120 [.int a2, .int 0, .int 1] mi_G (some (.int 0)) mi_G := by
      refine mi_met_of (y := 120) (q := (mi_h120, mi_c120)) rfl (by decide) (Nat.le_of_ble_eq_true rfl) ?_
      refine mi_sem_steps mi_in120 (mi_calok_none _ _) 2 _ (2, [(0, .int a2), (1, .int 0), (2, .int 1)], [.int 0, .int a2], (0, 0), mi_G) (by rfl) ?_
      refine mi_sem_b mi_in120 (decide (a2 < 0)) false (mi_ltF (0) (by decide) (by omega)) 14 5 ([(0, .int a2), (1, .int 0), (2, .int 1)], [], (0, 0), mi_G) (by rfl) ?_
      refine mi_sem_steps mi_in120 (mi_calok_none _ _) 2 _ (7, [(0, .int a2), (1, .int 0), (2, .int 1)], [.int 1, .int a2], (0, 0), mi_G) (by rfl) ?_
      refine mi_sem_b mi_in120 (decide (1 < a2)) true (mi_ltT2 (1) (by decide) (by omega)) 14 10 ([(0, .int a2), (1, .int 0), (2, .int 1)], [], (0, 0), mi_G) (by rfl) ?_
      refine mi_sem_steps mi_in120 (mi_calok_none _ _) 1 _ (15, [(0, .int a2), (1, .int 0), (2, .int 1)], [.int 0], (0, 0), mi_G) (by rfl) ?_
      exact mi_sem_ret (cal := fun _ _ _ => none) mi_in120 (by rfl)
    refine mi_sem_call mi_in96 (i := (.invokestatic 74, 3, 120, 0, 9, 0, 152)) (by rfl) (by rfl) hM950 (by decide) ⟨Nat.le_of_ble_eq_true rfl, Nat.le_of_ble_eq_true rfl⟩ ?_
    refine mi_sem_steps mi_in96 (mi_calok_none _ _) 2 _ (10, [(0, .ref 0), (1, .int a1), (2, .int a2)], [.int (-1)], (0, 0), mi_G) (by rfl) ?_
    exact mi_sem_ret (cal := fun _ _ _ => none) mi_in96 (by rfl)
  · refine mi_met_of (y := 189) (q := (mi_h189, mi_c189)) rfl (by decide) (Nat.le_of_ble_eq_true rfl) ?_
    refine mi_sem_steps mi_in189 (mi_calok_none _ _) 1 _ (1, [(0, .ref 116), (1, .int a1), (2, .int a2)], [.int a1], (0, 0), mi_G) (by rfl) ?_
    have hM952 : mi_Met mi_N0 2 mi_h133 [.int a1] mi_G (some (.int 0)) mi_G := by
      refine mi_met_of (y := 133) (q := (mi_h133, mi_c133)) rfl (by decide) (Nat.le_of_ble_eq_true rfl) ?_
      refine mi_sem_steps mi_in133 (mi_calok_none _ _) 3 _ (3, [(0, .int a1)], [.int 5, .int 0, .int a1], (0, 0), mi_G) (by rfl) ?_
      have hM951 : mi_Met mi_N0 1 mi_h131 [.int a1, .int 0, .int 5] mi_G (some (.int 0)) mi_G := by
        refine mi_met_of (y := 131) (q := (mi_h131, mi_c131)) rfl (by decide) (Nat.le_of_ble_eq_true rfl) ?_
        refine mi_sem_steps mi_in131 (mi_calok_none _ _) 2 _ (2, [(0, .int a1), (1, .int 0), (2, .int 5)], [.int 0, .int a1], (0, 0), mi_G) (by rfl) ?_
        refine mi_sem_b mi_in131 (decide (a1 < 0)) true (mi_ltT (0) (by decide) (by omega)) 14 5 ([(0, .int a1), (1, .int 0), (2, .int 5)], [], (0, 0), mi_G) (by rfl) ?_
        refine mi_sem_steps mi_in131 (mi_calok_none _ _) 1 _ (15, [(0, .int a1), (1, .int 0), (2, .int 5)], [.int 0], (0, 0), mi_G) (by rfl) ?_
        exact mi_sem_ret (cal := fun _ _ _ => none) mi_in131 (by rfl)
      refine mi_sem_call mi_in133 (i := (.invokestatic 119, 3, 131, 0, 9, 0, 379)) (by rfl) (by rfl) hM951 (by decide) ⟨Nat.le_of_ble_eq_true rfl, Nat.le_of_ble_eq_true rfl⟩ ?_
      exact mi_sem_ret (cal := fun _ _ _ => none) mi_in133 (by rfl)
    refine mi_sem_call mi_in189 (i := (.invokestatic 127, 3, 133, 0, 9, 0, 382)) (by rfl) (by rfl) hM952 (by decide) ⟨Nat.le_of_ble_eq_true rfl, Nat.le_of_ble_eq_true rfl⟩ ?_
    refine mi_sem_steps mi_in189 (mi_calok_none _ _) 2 _ (17, [(0, .ref 116), (1, .int a1), (2, .int a2)], [.int (-1)], (0, 0), mi_G) (by rfl) ?_
    exact mi_sem_ret (cal := fun _ _ _ => none) mi_in189 (by rfl)

set_option maxRecDepth 100000 in
set_option maxHeartbeats 4000000 in
theorem mp_round_12 (a1 : Int32) (a2 : Int32) (r0 : 2 ≤ (a2).toInt ∧ (a2).toInt ≤ 2147483647) (r1 : 0 ≤ (a1).toInt ∧ (a1).toInt ≤ 5) : mi_P 96 189 [.int a1, .int a2] := by
  refine ⟨.int (-1), mi_G, mi_G, (mi_h96, mi_c96), (mi_h189, mi_c189), 2, 3, rfl, rfl, rfl, by decide, by decide, ?_, ?_⟩
  · refine mi_met_of (y := 96) (q := (mi_h96, mi_c96)) rfl (by decide) (Nat.le_of_ble_eq_true rfl) ?_
    refine mi_sem_steps mi_in96 (mi_calok_none _ _) 3 _ (3, [(0, .ref 0), (1, .int a1), (2, .int a2)], [.int 1, .int 0, .int a2], (0, 0), mi_G) (by rfl) ?_
    have hM954 : mi_Met mi_N0 1 mi_h120 [.int a2, .int 0, .int 1] mi_G (some (.int 0)) mi_G := by
      refine mi_met_of (y := 120) (q := (mi_h120, mi_c120)) rfl (by decide) (Nat.le_of_ble_eq_true rfl) ?_
      refine mi_sem_steps mi_in120 (mi_calok_none _ _) 2 _ (2, [(0, .int a2), (1, .int 0), (2, .int 1)], [.int 0, .int a2], (0, 0), mi_G) (by rfl) ?_
      refine mi_sem_b mi_in120 (decide (a2 < 0)) false (mi_ltF (0) (by decide) (by omega)) 14 5 ([(0, .int a2), (1, .int 0), (2, .int 1)], [], (0, 0), mi_G) (by rfl) ?_
      refine mi_sem_steps mi_in120 (mi_calok_none _ _) 2 _ (7, [(0, .int a2), (1, .int 0), (2, .int 1)], [.int 1, .int a2], (0, 0), mi_G) (by rfl) ?_
      refine mi_sem_b mi_in120 (decide (1 < a2)) true (mi_ltT2 (1) (by decide) (by omega)) 14 10 ([(0, .int a2), (1, .int 0), (2, .int 1)], [], (0, 0), mi_G) (by rfl) ?_
      refine mi_sem_steps mi_in120 (mi_calok_none _ _) 1 _ (15, [(0, .int a2), (1, .int 0), (2, .int 1)], [.int 0], (0, 0), mi_G) (by rfl) ?_
      exact mi_sem_ret (cal := fun _ _ _ => none) mi_in120 (by rfl)
    refine mi_sem_call mi_in96 (i := (.invokestatic 74, 3, 120, 0, 9, 0, 152)) (by rfl) (by rfl) hM954 (by decide) ⟨Nat.le_of_ble_eq_true rfl, Nat.le_of_ble_eq_true rfl⟩ ?_
    refine mi_sem_steps mi_in96 (mi_calok_none _ _) 2 _ (10, [(0, .ref 0), (1, .int a1), (2, .int a2)], [.int (-1)], (0, 0), mi_G) (by rfl) ?_
    exact mi_sem_ret (cal := fun _ _ _ => none) mi_in96 (by rfl)
  · refine mi_met_of (y := 189) (q := (mi_h189, mi_c189)) rfl (by decide) (Nat.le_of_ble_eq_true rfl) ?_
    refine mi_sem_steps mi_in189 (mi_calok_none _ _) 1 _ (1, [(0, .ref 116), (1, .int a1), (2, .int a2)], [.int a1], (0, 0), mi_G) (by rfl) ?_
    have hM956 : mi_Met mi_N0 2 mi_h133 [.int a1] mi_G (some (.int 1)) mi_G := by
      refine mi_met_of (y := 133) (q := (mi_h133, mi_c133)) rfl (by decide) (Nat.le_of_ble_eq_true rfl) ?_
      refine mi_sem_steps mi_in133 (mi_calok_none _ _) 3 _ (3, [(0, .int a1)], [.int 5, .int 0, .int a1], (0, 0), mi_G) (by rfl) ?_
      have hM955 : mi_Met mi_N0 1 mi_h131 [.int a1, .int 0, .int 5] mi_G (some (.int 1)) mi_G := by
        refine mi_met_of (y := 131) (q := (mi_h131, mi_c131)) rfl (by decide) (Nat.le_of_ble_eq_true rfl) ?_
        refine mi_sem_steps mi_in131 (mi_calok_none _ _) 2 _ (2, [(0, .int a1), (1, .int 0), (2, .int 5)], [.int 0, .int a1], (0, 0), mi_G) (by rfl) ?_
        refine mi_sem_b mi_in131 (decide (a1 < 0)) false (mi_ltF (0) (by decide) (by omega)) 14 5 ([(0, .int a1), (1, .int 0), (2, .int 5)], [], (0, 0), mi_G) (by rfl) ?_
        refine mi_sem_steps mi_in131 (mi_calok_none _ _) 2 _ (7, [(0, .int a1), (1, .int 0), (2, .int 5)], [.int 5, .int a1], (0, 0), mi_G) (by rfl) ?_
        refine mi_sem_b mi_in131 (decide (5 < a1)) false (mi_ltF2 (5) (by decide) (by omega)) 14 10 ([(0, .int a1), (1, .int 0), (2, .int 5)], [], (0, 0), mi_G) (by rfl) ?_
        refine mi_sem_steps mi_in131 (mi_calok_none _ _) 2 _ (15, [(0, .int a1), (1, .int 0), (2, .int 5)], [.int 1], (0, 0), mi_G) (by rfl) ?_
        exact mi_sem_ret (cal := fun _ _ _ => none) mi_in131 (by rfl)
      refine mi_sem_call mi_in133 (i := (.invokestatic 119, 3, 131, 0, 9, 0, 379)) (by rfl) (by rfl) hM955 (by decide) ⟨Nat.le_of_ble_eq_true rfl, Nat.le_of_ble_eq_true rfl⟩ ?_
      exact mi_sem_ret (cal := fun _ _ _ => none) mi_in133 (by rfl)
    refine mi_sem_call mi_in189 (i := (.invokestatic 127, 3, 133, 0, 9, 0, 382)) (by rfl) (by rfl) hM956 (by decide) ⟨Nat.le_of_ble_eq_true rfl, Nat.le_of_ble_eq_true rfl⟩ ?_
    refine mi_sem_steps mi_in189 (mi_calok_none _ _) 4 _ (10, [(0, .ref 116), (1, .int a1), (2, .int a2)], [.int 1, .int 0, .int a2], (0, 0), mi_G) (by rfl) ?_
    have hM957 : mi_Met mi_N0 1 mi_h131 [.int a2, .int 0, .int 1] mi_G (some (.int 0)) mi_G := by
      refine mi_met_of (y := 131) (q := (mi_h131, mi_c131)) rfl (by decide) (Nat.le_of_ble_eq_true rfl) ?_
      refine mi_sem_steps mi_in131 (mi_calok_none _ _) 2 _ (2, [(0, .int a2), (1, .int 0), (2, .int 1)], [.int 0, .int a2], (0, 0), mi_G) (by rfl) ?_
      refine mi_sem_b mi_in131 (decide (a2 < 0)) false (mi_ltF (0) (by decide) (by omega)) 14 5 ([(0, .int a2), (1, .int 0), (2, .int 1)], [], (0, 0), mi_G) (by rfl) ?_
      refine mi_sem_steps mi_in131 (mi_calok_none _ _) 2 _ (7, [(0, .int a2), (1, .int 0), (2, .int 1)], [.int 1, .int a2], (0, 0), mi_G) (by rfl) ?_
      refine mi_sem_b mi_in131 (decide (1 < a2)) true (mi_ltT2 (1) (by decide) (by omega)) 14 10 ([(0, .int a2), (1, .int 0), (2, .int 1)], [], (0, 0), mi_G) (by rfl) ?_
      refine mi_sem_steps mi_in131 (mi_calok_none _ _) 1 _ (15, [(0, .int a2), (1, .int 0), (2, .int 1)], [.int 0], (0, 0), mi_G) (by rfl) ?_
      exact mi_sem_ret (cal := fun _ _ _ => none) mi_in131 (by rfl)
    refine mi_sem_call mi_in189 (i := (.invokestatic 119, 3, 131, 0, 9, 0, 379)) (by rfl) (by rfl) hM957 (by decide) ⟨Nat.le_of_ble_eq_true rfl, Nat.le_of_ble_eq_true rfl⟩ ?_
    refine mi_sem_steps mi_in189 (mi_calok_none _ _) 2 _ (17, [(0, .ref 116), (1, .int a1), (2, .int a2)], [.int (-1)], (0, 0), mi_G) (by rfl) ?_
    exact mi_sem_ret (cal := fun _ _ _ => none) mi_in189 (by rfl)

set_option maxRecDepth 100000 in
set_option maxHeartbeats 4000000 in
theorem mp_round_13 (a1 : Int32) (a2 : Int32) (r0 : 2 ≤ (a2).toInt ∧ (a2).toInt ≤ 2147483647) (r1 : 6 ≤ (a1).toInt ∧ (a1).toInt ≤ 2147483647) : mi_P 96 189 [.int a1, .int a2] := by
  refine ⟨.int (-1), mi_G, mi_G, (mi_h96, mi_c96), (mi_h189, mi_c189), 2, 3, rfl, rfl, rfl, by decide, by decide, ?_, ?_⟩
  · refine mi_met_of (y := 96) (q := (mi_h96, mi_c96)) rfl (by decide) (Nat.le_of_ble_eq_true rfl) ?_
    refine mi_sem_steps mi_in96 (mi_calok_none _ _) 3 _ (3, [(0, .ref 0), (1, .int a1), (2, .int a2)], [.int 1, .int 0, .int a2], (0, 0), mi_G) (by rfl) ?_
    have hM958 : mi_Met mi_N0 1 mi_h120 [.int a2, .int 0, .int 1] mi_G (some (.int 0)) mi_G := by
      refine mi_met_of (y := 120) (q := (mi_h120, mi_c120)) rfl (by decide) (Nat.le_of_ble_eq_true rfl) ?_
      refine mi_sem_steps mi_in120 (mi_calok_none _ _) 2 _ (2, [(0, .int a2), (1, .int 0), (2, .int 1)], [.int 0, .int a2], (0, 0), mi_G) (by rfl) ?_
      refine mi_sem_b mi_in120 (decide (a2 < 0)) false (mi_ltF (0) (by decide) (by omega)) 14 5 ([(0, .int a2), (1, .int 0), (2, .int 1)], [], (0, 0), mi_G) (by rfl) ?_
      refine mi_sem_steps mi_in120 (mi_calok_none _ _) 2 _ (7, [(0, .int a2), (1, .int 0), (2, .int 1)], [.int 1, .int a2], (0, 0), mi_G) (by rfl) ?_
      refine mi_sem_b mi_in120 (decide (1 < a2)) true (mi_ltT2 (1) (by decide) (by omega)) 14 10 ([(0, .int a2), (1, .int 0), (2, .int 1)], [], (0, 0), mi_G) (by rfl) ?_
      refine mi_sem_steps mi_in120 (mi_calok_none _ _) 1 _ (15, [(0, .int a2), (1, .int 0), (2, .int 1)], [.int 0], (0, 0), mi_G) (by rfl) ?_
      exact mi_sem_ret (cal := fun _ _ _ => none) mi_in120 (by rfl)
    refine mi_sem_call mi_in96 (i := (.invokestatic 74, 3, 120, 0, 9, 0, 152)) (by rfl) (by rfl) hM958 (by decide) ⟨Nat.le_of_ble_eq_true rfl, Nat.le_of_ble_eq_true rfl⟩ ?_
    refine mi_sem_steps mi_in96 (mi_calok_none _ _) 2 _ (10, [(0, .ref 0), (1, .int a1), (2, .int a2)], [.int (-1)], (0, 0), mi_G) (by rfl) ?_
    exact mi_sem_ret (cal := fun _ _ _ => none) mi_in96 (by rfl)
  · refine mi_met_of (y := 189) (q := (mi_h189, mi_c189)) rfl (by decide) (Nat.le_of_ble_eq_true rfl) ?_
    refine mi_sem_steps mi_in189 (mi_calok_none _ _) 1 _ (1, [(0, .ref 116), (1, .int a1), (2, .int a2)], [.int a1], (0, 0), mi_G) (by rfl) ?_
    have hM960 : mi_Met mi_N0 2 mi_h133 [.int a1] mi_G (some (.int 0)) mi_G := by
      refine mi_met_of (y := 133) (q := (mi_h133, mi_c133)) rfl (by decide) (Nat.le_of_ble_eq_true rfl) ?_
      refine mi_sem_steps mi_in133 (mi_calok_none _ _) 3 _ (3, [(0, .int a1)], [.int 5, .int 0, .int a1], (0, 0), mi_G) (by rfl) ?_
      have hM959 : mi_Met mi_N0 1 mi_h131 [.int a1, .int 0, .int 5] mi_G (some (.int 0)) mi_G := by
        refine mi_met_of (y := 131) (q := (mi_h131, mi_c131)) rfl (by decide) (Nat.le_of_ble_eq_true rfl) ?_
        refine mi_sem_steps mi_in131 (mi_calok_none _ _) 2 _ (2, [(0, .int a1), (1, .int 0), (2, .int 5)], [.int 0, .int a1], (0, 0), mi_G) (by rfl) ?_
        refine mi_sem_b mi_in131 (decide (a1 < 0)) false (mi_ltF (0) (by decide) (by omega)) 14 5 ([(0, .int a1), (1, .int 0), (2, .int 5)], [], (0, 0), mi_G) (by rfl) ?_
        refine mi_sem_steps mi_in131 (mi_calok_none _ _) 2 _ (7, [(0, .int a1), (1, .int 0), (2, .int 5)], [.int 5, .int a1], (0, 0), mi_G) (by rfl) ?_
        refine mi_sem_b mi_in131 (decide (5 < a1)) true (mi_ltT2 (5) (by decide) (by omega)) 14 10 ([(0, .int a1), (1, .int 0), (2, .int 5)], [], (0, 0), mi_G) (by rfl) ?_
        refine mi_sem_steps mi_in131 (mi_calok_none _ _) 1 _ (15, [(0, .int a1), (1, .int 0), (2, .int 5)], [.int 0], (0, 0), mi_G) (by rfl) ?_
        exact mi_sem_ret (cal := fun _ _ _ => none) mi_in131 (by rfl)
      refine mi_sem_call mi_in133 (i := (.invokestatic 119, 3, 131, 0, 9, 0, 379)) (by rfl) (by rfl) hM959 (by decide) ⟨Nat.le_of_ble_eq_true rfl, Nat.le_of_ble_eq_true rfl⟩ ?_
      exact mi_sem_ret (cal := fun _ _ _ => none) mi_in133 (by rfl)
    refine mi_sem_call mi_in189 (i := (.invokestatic 127, 3, 133, 0, 9, 0, 382)) (by rfl) (by rfl) hM960 (by decide) ⟨Nat.le_of_ble_eq_true rfl, Nat.le_of_ble_eq_true rfl⟩ ?_
    refine mi_sem_steps mi_in189 (mi_calok_none _ _) 2 _ (17, [(0, .ref 116), (1, .int a1), (2, .int a2)], [.int (-1)], (0, 0), mi_G) (by rfl) ?_
    exact mi_sem_ret (cal := fun _ _ _ => none) mi_in189 (by rfl)

set_option maxRecDepth 100000 in
set_option maxHeartbeats 4000000 in
theorem mp_round (a1 : Int32) (a2 : Int32) : mi_P 96 189 [.int a1, .int a2] := by
  have b0 := Int32.toInt_lt (a1)
  have c0 := Int32.le_toInt (a1)
  have b1 := Int32.toInt_lt (a2)
  have c1 := Int32.le_toInt (a2)
  rcases Int.lt_or_le (a2).toInt 0 with _hh | _hh
  ·
    rcases Int.lt_or_le (a1).toInt 0 with _hh | _hh
    ·
      exact mp_round_0 a1 a2 ⟨by omega, by omega⟩ ⟨by omega, by omega⟩
    ·
      rcases Int.lt_or_le (a1).toInt 6 with _hh | _hh
      ·
        exact mp_round_1 a1 a2 ⟨by omega, by omega⟩ ⟨by omega, by omega⟩
      ·
        exact mp_round_2 a1 a2 ⟨by omega, by omega⟩ ⟨by omega, by omega⟩
  ·
    rcases Int.lt_or_le (a2).toInt 2 with _hh | _hh
    ·
      rcases Int.lt_or_le (a1).toInt 0 with _hh | _hh
      ·
        exact mp_round_3 a1 a2 ⟨by omega, by omega⟩ ⟨by omega, by omega⟩
      ·
        rcases Int.lt_or_le (a1).toInt 6 with _hh | _hh
        ·
          rcases Int.lt_or_le (a1).toInt 1 with _hh | _hh
          ·
            have e_a1 : a1 = 0 := Int32.toInt_inj.mp ((by omega : (a1).toInt = 0).trans (by decide))
            subst e_a1
            exact mp_round_4 a2 ⟨by omega, by omega⟩
          ·
            rcases Int.lt_or_le (a1).toInt 2 with _hh | _hh
            ·
              have e_a1 : a1 = 1 := Int32.toInt_inj.mp ((by omega : (a1).toInt = 1).trans (by decide))
              subst e_a1
              exact mp_round_5 a2 ⟨by omega, by omega⟩
            ·
              rcases Int.lt_or_le (a1).toInt 3 with _hh | _hh
              ·
                have e_a1 : a1 = 2 := Int32.toInt_inj.mp ((by omega : (a1).toInt = 2).trans (by decide))
                subst e_a1
                exact mp_round_6 a2 ⟨by omega, by omega⟩
              ·
                rcases Int.lt_or_le (a1).toInt 4 with _hh | _hh
                ·
                  have e_a1 : a1 = 3 := Int32.toInt_inj.mp ((by omega : (a1).toInt = 3).trans (by decide))
                  subst e_a1
                  exact mp_round_7 a2 ⟨by omega, by omega⟩
                ·
                  rcases Int.lt_or_le (a1).toInt 5 with _hh | _hh
                  ·
                    have e_a1 : a1 = 4 := Int32.toInt_inj.mp ((by omega : (a1).toInt = 4).trans (by decide))
                    subst e_a1
                    exact mp_round_8 a2 ⟨by omega, by omega⟩
                  ·
                    have e_a1 : a1 = 5 := Int32.toInt_inj.mp ((by omega : (a1).toInt = 5).trans (by decide))
                    subst e_a1
                    exact mp_round_9 a2 ⟨by omega, by omega⟩
        ·
          exact mp_round_10 a1 a2 ⟨by omega, by omega⟩ ⟨by omega, by omega⟩
    ·
      rcases Int.lt_or_le (a1).toInt 0 with _hh | _hh
      ·
        exact mp_round_11 a1 a2 ⟨by omega, by omega⟩ ⟨by omega, by omega⟩
      ·
        rcases Int.lt_or_le (a1).toInt 6 with _hh | _hh
        ·
          exact mp_round_12 a1 a2 ⟨by omega, by omega⟩ ⟨by omega, by omega⟩
        ·
          exact mp_round_13 a1 a2 ⟨by omega, by omega⟩ ⟨by omega, by omega⟩

set_option maxRecDepth 100000 in
set_option maxHeartbeats 4000000 in
theorem mp_judge_0 (a1 : Int32) (r0 : (-2147483648) ≤ (a1).toInt ∧ (a1).toInt ≤ (-1)) : mi_P 97 193 [.int a1] := by
  refine ⟨.int (-1), mi_G, mi_G, (mi_h97, mi_c97), (mi_h193, mi_c193), 2, 2, rfl, rfl, rfl, by decide, by decide, ?_, ?_⟩
  · refine mi_met_of (y := 97) (q := (mi_h97, mi_c97)) rfl (by decide) (Nat.le_of_ble_eq_true rfl) ?_
    refine mi_sem_steps mi_in97 (mi_calok_none _ _) 1 _ (1, [(0, .ref 0), (1, .int a1)], [.int a1], (0, 0), mi_G) (by rfl) ?_
    have hM961 : mi_Met mi_N0 1 mi_h122 [.int a1] mi_G (some (.int 0)) mi_G := by
      refine mi_met_of (y := 122) (q := (mi_h122, mi_c122)) rfl (by decide) (Nat.le_of_ble_eq_true rfl) ?_
      refine mi_sem_steps mi_in122 (mi_calok_none _ _) 1 _ (1, [(0, .int a1)], [.int a1], (0, 0), mi_G) (by rfl) ?_
      refine mi_sem_b mi_in122 (decide (a1 < 0)) true (mi_ltT (0) (by decide) (by omega)) 28 4 ([(0, .int a1)], [], (0, 0), mi_G) (by rfl) ?_
      refine mi_sem_steps mi_in122 (mi_calok_none _ _) 1 _ (29, [(0, .int a1)], [.int 0], (0, 0), mi_G) (by rfl) ?_
      exact mi_sem_ret (cal := fun _ _ _ => none) mi_in122 (by rfl)
    refine mi_sem_call mi_in97 (i := (.invokestatic 214, 3, 122, 0, 9, 0, 260)) (by rfl) (by rfl) hM961 (by decide) ⟨Nat.le_of_ble_eq_true rfl, Nat.le_of_ble_eq_true rfl⟩ ?_
    refine mi_sem_steps mi_in97 (mi_calok_none _ _) 2 _ (8, [(0, .ref 0), (1, .int a1)], [.int (-1)], (0, 0), mi_G) (by rfl) ?_
    exact mi_sem_ret (cal := fun _ _ _ => none) mi_in97 (by rfl)
  · refine mi_met_of (y := 193) (q := (mi_h193, mi_c193)) rfl (by decide) (Nat.le_of_ble_eq_true rfl) ?_
    refine mi_sem_steps mi_in193 (mi_calok_none _ _) 2 _ (2, [(0, .ref 116), (1, .int a1)], [.int a1, .ref 116], (0, 0), mi_G) (by rfl) ?_
    have hM962 : mi_Met mi_N0 1 mi_h190 [.ref 116, .int a1] mi_G (some (.int 0)) mi_G := by
      refine mi_met_of (y := 190) (q := (mi_h190, mi_c190)) rfl (by decide) (Nat.le_of_ble_eq_true rfl) ?_
      refine mi_sem_steps mi_in190 (mi_calok_none _ _) 1 _ (1, [(0, .ref 116), (1, .int a1)], [.int a1], (0, 0), mi_G) (by rfl) ?_
      refine mi_sem_b mi_in190 (decide (a1 < 0)) true (mi_ltT (0) (by decide) (by omega)) 28 4 ([(0, .ref 116), (1, .int a1)], [], (0, 0), mi_G) (by rfl) ?_
      refine mi_sem_steps mi_in190 (mi_calok_none _ _) 1 _ (29, [(0, .ref 116), (1, .int a1)], [.int 0], (0, 0), mi_G) (by rfl) ?_
      exact mi_sem_ret (cal := fun _ _ _ => none) mi_in190 (by rfl)
    refine mi_sem_call mi_in193 (i := (.invokevirtual 314, 3, 190, 0, 9, 0, 442)) (by rfl) (by rfl) hM962 (by decide) ⟨Nat.le_of_ble_eq_true rfl, Nat.le_of_ble_eq_true rfl⟩ ?_
    refine mi_sem_steps mi_in193 (mi_calok_none _ _) 2 _ (9, [(0, .ref 116), (1, .int a1)], [.int (-1)], (0, 0), mi_G) (by rfl) ?_
    exact mi_sem_ret (cal := fun _ _ _ => none) mi_in193 (by rfl)

set_option maxRecDepth 100000 in
set_option maxHeartbeats 4000000 in
theorem mp_judge_1 (a1 : Int32) (r0 : 0 ≤ (a1).toInt ∧ (a1).toInt ≤ 2147483647) (r1 : (-2147483648) ≤ ((a1 / 10)).toInt ∧ ((a1 / 10)).toInt ≤ (-1)) : mi_P 97 193 [.int a1] := by
  refine ⟨.int (-1), mi_G, mi_G, (mi_h97, mi_c97), (mi_h193, mi_c193), 4, 4, rfl, rfl, rfl, by decide, by decide, ?_, ?_⟩
  · refine mi_met_of (y := 97) (q := (mi_h97, mi_c97)) rfl (by decide) (Nat.le_of_ble_eq_true rfl) ?_
    refine mi_sem_steps mi_in97 (mi_calok_none _ _) 1 _ (1, [(0, .ref 0), (1, .int a1)], [.int a1], (0, 0), mi_G) (by rfl) ?_
    have hM965 : mi_Met mi_N0 3 mi_h122 [.int a1] mi_G (some (.int 0)) mi_G := by
      refine mi_met_of (y := 122) (q := (mi_h122, mi_c122)) rfl (by decide) (Nat.le_of_ble_eq_true rfl) ?_
      refine mi_sem_steps mi_in122 (mi_calok_none _ _) 1 _ (1, [(0, .int a1)], [.int a1], (0, 0), mi_G) (by rfl) ?_
      refine mi_sem_b mi_in122 (decide (a1 < 0)) false (mi_ltF (0) (by decide) (by omega)) 28 4 ([(0, .int a1)], [], (0, 0), mi_G) (by rfl) ?_
      refine mi_sem_steps mi_in122 (mi_calok_none _ _) 3 _ (8, [(0, .int a1)], [.int ((a1 / 10))], (0, 0), mi_G) (by rfl) ?_
      have hM964 : mi_Met mi_N0 2 mi_h121 [.int ((a1 / 10))] mi_G (some (.int 0)) mi_G := by
        refine mi_met_of (y := 121) (q := (mi_h121, mi_c121)) rfl (by decide) (Nat.le_of_ble_eq_true rfl) ?_
        refine mi_sem_steps mi_in121 (mi_calok_none _ _) 3 _ (3, [(0, .int ((a1 / 10)))], [.int 5, .int 0, .int ((a1 / 10))], (0, 0), mi_G) (by rfl) ?_
        have hM963 : mi_Met mi_N0 1 mi_h120 [.int ((a1 / 10)), .int 0, .int 5] mi_G (some (.int 0)) mi_G := by
          refine mi_met_of (y := 120) (q := (mi_h120, mi_c120)) rfl (by decide) (Nat.le_of_ble_eq_true rfl) ?_
          refine mi_sem_steps mi_in120 (mi_calok_none _ _) 2 _ (2, [(0, .int ((a1 / 10))), (1, .int 0), (2, .int 5)], [.int 0, .int ((a1 / 10))], (0, 0), mi_G) (by rfl) ?_
          refine mi_sem_b mi_in120 (decide (((a1 / 10)) < 0)) true (mi_ltT (0) (by decide) (by omega)) 14 5 ([(0, .int ((a1 / 10))), (1, .int 0), (2, .int 5)], [], (0, 0), mi_G) (by rfl) ?_
          refine mi_sem_steps mi_in120 (mi_calok_none _ _) 1 _ (15, [(0, .int ((a1 / 10))), (1, .int 0), (2, .int 5)], [.int 0], (0, 0), mi_G) (by rfl) ?_
          exact mi_sem_ret (cal := fun _ _ _ => none) mi_in120 (by rfl)
        refine mi_sem_call mi_in121 (i := (.invokestatic 74, 3, 120, 0, 9, 0, 152)) (by rfl) (by rfl) hM963 (by decide) ⟨Nat.le_of_ble_eq_true rfl, Nat.le_of_ble_eq_true rfl⟩ ?_
        exact mi_sem_ret (cal := fun _ _ _ => none) mi_in121 (by rfl)
      refine mi_sem_call mi_in122 (i := (.invokestatic 70, 3, 121, 0, 9, 0, 157)) (by rfl) (by rfl) hM964 (by decide) ⟨Nat.le_of_ble_eq_true rfl, Nat.le_of_ble_eq_true rfl⟩ ?_
      refine mi_sem_steps mi_in122 (mi_calok_none _ _) 2 _ (29, [(0, .int a1)], [.int 0], (0, 0), mi_G) (by rfl) ?_
      exact mi_sem_ret (cal := fun _ _ _ => none) mi_in122 (by rfl)
    refine mi_sem_call mi_in97 (i := (.invokestatic 214, 3, 122, 0, 9, 0, 260)) (by rfl) (by rfl) hM965 (by decide) ⟨Nat.le_of_ble_eq_true rfl, Nat.le_of_ble_eq_true rfl⟩ ?_
    refine mi_sem_steps mi_in97 (mi_calok_none _ _) 2 _ (8, [(0, .ref 0), (1, .int a1)], [.int (-1)], (0, 0), mi_G) (by rfl) ?_
    exact mi_sem_ret (cal := fun _ _ _ => none) mi_in97 (by rfl)
  · refine mi_met_of (y := 193) (q := (mi_h193, mi_c193)) rfl (by decide) (Nat.le_of_ble_eq_true rfl) ?_
    refine mi_sem_steps mi_in193 (mi_calok_none _ _) 2 _ (2, [(0, .ref 116), (1, .int a1)], [.int a1, .ref 116], (0, 0), mi_G) (by rfl) ?_
    have hM968 : mi_Met mi_N0 3 mi_h190 [.ref 116, .int a1] mi_G (some (.int 0)) mi_G := by
      refine mi_met_of (y := 190) (q := (mi_h190, mi_c190)) rfl (by decide) (Nat.le_of_ble_eq_true rfl) ?_
      refine mi_sem_steps mi_in190 (mi_calok_none _ _) 1 _ (1, [(0, .ref 116), (1, .int a1)], [.int a1], (0, 0), mi_G) (by rfl) ?_
      refine mi_sem_b mi_in190 (decide (a1 < 0)) false (mi_ltF (0) (by decide) (by omega)) 28 4 ([(0, .ref 116), (1, .int a1)], [], (0, 0), mi_G) (by rfl) ?_
      refine mi_sem_steps mi_in190 (mi_calok_none _ _) 3 _ (8, [(0, .ref 116), (1, .int a1)], [.int ((a1 / 10))], (0, 0), mi_G) (by rfl) ?_
      have hM967 : mi_Met mi_N0 2 mi_h133 [.int ((a1 / 10))] mi_G (some (.int 0)) mi_G := by
        refine mi_met_of (y := 133) (q := (mi_h133, mi_c133)) rfl (by decide) (Nat.le_of_ble_eq_true rfl) ?_
        refine mi_sem_steps mi_in133 (mi_calok_none _ _) 3 _ (3, [(0, .int ((a1 / 10)))], [.int 5, .int 0, .int ((a1 / 10))], (0, 0), mi_G) (by rfl) ?_
        have hM966 : mi_Met mi_N0 1 mi_h131 [.int ((a1 / 10)), .int 0, .int 5] mi_G (some (.int 0)) mi_G := by
          refine mi_met_of (y := 131) (q := (mi_h131, mi_c131)) rfl (by decide) (Nat.le_of_ble_eq_true rfl) ?_
          refine mi_sem_steps mi_in131 (mi_calok_none _ _) 2 _ (2, [(0, .int ((a1 / 10))), (1, .int 0), (2, .int 5)], [.int 0, .int ((a1 / 10))], (0, 0), mi_G) (by rfl) ?_
          refine mi_sem_b mi_in131 (decide (((a1 / 10)) < 0)) true (mi_ltT (0) (by decide) (by omega)) 14 5 ([(0, .int ((a1 / 10))), (1, .int 0), (2, .int 5)], [], (0, 0), mi_G) (by rfl) ?_
          refine mi_sem_steps mi_in131 (mi_calok_none _ _) 1 _ (15, [(0, .int ((a1 / 10))), (1, .int 0), (2, .int 5)], [.int 0], (0, 0), mi_G) (by rfl) ?_
          exact mi_sem_ret (cal := fun _ _ _ => none) mi_in131 (by rfl)
        refine mi_sem_call mi_in133 (i := (.invokestatic 119, 3, 131, 0, 9, 0, 379)) (by rfl) (by rfl) hM966 (by decide) ⟨Nat.le_of_ble_eq_true rfl, Nat.le_of_ble_eq_true rfl⟩ ?_
        exact mi_sem_ret (cal := fun _ _ _ => none) mi_in133 (by rfl)
      refine mi_sem_call mi_in190 (i := (.invokestatic 127, 3, 133, 0, 9, 0, 382)) (by rfl) (by rfl) hM967 (by decide) ⟨Nat.le_of_ble_eq_true rfl, Nat.le_of_ble_eq_true rfl⟩ ?_
      refine mi_sem_steps mi_in190 (mi_calok_none _ _) 2 _ (29, [(0, .ref 116), (1, .int a1)], [.int 0], (0, 0), mi_G) (by rfl) ?_
      exact mi_sem_ret (cal := fun _ _ _ => none) mi_in190 (by rfl)
    refine mi_sem_call mi_in193 (i := (.invokevirtual 314, 3, 190, 0, 9, 0, 442)) (by rfl) (by rfl) hM968 (by decide) ⟨Nat.le_of_ble_eq_true rfl, Nat.le_of_ble_eq_true rfl⟩ ?_
    refine mi_sem_steps mi_in193 (mi_calok_none _ _) 2 _ (9, [(0, .ref 116), (1, .int a1)], [.int (-1)], (0, 0), mi_G) (by rfl) ?_
    exact mi_sem_ret (cal := fun _ _ _ => none) mi_in193 (by rfl)

set_option maxRecDepth 100000 in
set_option maxHeartbeats 4000000 in
theorem mp_judge_2 (a1 : Int32) (r0 : 0 ≤ (a1).toInt ∧ (a1).toInt ≤ 2147483647) (r1 : 0 ≤ ((a1 / 10)).toInt ∧ ((a1 / 10)).toInt ≤ 5) (r2 : (-2147483648) ≤ ((a1 - a1 / 10 * 10)).toInt ∧ ((a1 - a1 / 10 * 10)).toInt ≤ (-1)) : mi_P 97 193 [.int a1] := by
  refine ⟨.int (-1), mi_G, mi_G, (mi_h97, mi_c97), (mi_h193, mi_c193), 4, 4, rfl, rfl, rfl, by decide, by decide, ?_, ?_⟩
  · refine mi_met_of (y := 97) (q := (mi_h97, mi_c97)) rfl (by decide) (Nat.le_of_ble_eq_true rfl) ?_
    refine mi_sem_steps mi_in97 (mi_calok_none _ _) 1 _ (1, [(0, .ref 0), (1, .int a1)], [.int a1], (0, 0), mi_G) (by rfl) ?_
    have hM975 : mi_Met mi_N0 3 mi_h122 [.int a1] mi_G (some (.int 0)) mi_G := by
      refine mi_met_of (y := 122) (q := (mi_h122, mi_c122)) rfl (by decide) (Nat.le_of_ble_eq_true rfl) ?_
      refine mi_sem_steps mi_in122 (mi_calok_none _ _) 1 _ (1, [(0, .int a1)], [.int a1], (0, 0), mi_G) (by rfl) ?_
      refine mi_sem_b mi_in122 (decide (a1 < 0)) false (mi_ltF (0) (by decide) (by omega)) 28 4 ([(0, .int a1)], [], (0, 0), mi_G) (by rfl) ?_
      refine mi_sem_steps mi_in122 (mi_calok_none _ _) 3 _ (8, [(0, .int a1)], [.int ((a1 / 10))], (0, 0), mi_G) (by rfl) ?_
      have hM972 : mi_Met mi_N0 2 mi_h121 [.int ((a1 / 10))] mi_G (some (.int 1)) mi_G := by
        refine mi_met_of (y := 121) (q := (mi_h121, mi_c121)) rfl (by decide) (Nat.le_of_ble_eq_true rfl) ?_
        refine mi_sem_steps mi_in121 (mi_calok_none _ _) 3 _ (3, [(0, .int ((a1 / 10)))], [.int 5, .int 0, .int ((a1 / 10))], (0, 0), mi_G) (by rfl) ?_
        have hM971 : mi_Met mi_N0 1 mi_h120 [.int ((a1 / 10)), .int 0, .int 5] mi_G (some (.int 1)) mi_G := by
          refine mi_met_of (y := 120) (q := (mi_h120, mi_c120)) rfl (by decide) (Nat.le_of_ble_eq_true rfl) ?_
          refine mi_sem_steps mi_in120 (mi_calok_none _ _) 2 _ (2, [(0, .int ((a1 / 10))), (1, .int 0), (2, .int 5)], [.int 0, .int ((a1 / 10))], (0, 0), mi_G) (by rfl) ?_
          refine mi_sem_b mi_in120 (decide (((a1 / 10)) < 0)) false (mi_ltF (0) (by decide) (by omega)) 14 5 ([(0, .int ((a1 / 10))), (1, .int 0), (2, .int 5)], [], (0, 0), mi_G) (by rfl) ?_
          refine mi_sem_steps mi_in120 (mi_calok_none _ _) 2 _ (7, [(0, .int ((a1 / 10))), (1, .int 0), (2, .int 5)], [.int 5, .int ((a1 / 10))], (0, 0), mi_G) (by rfl) ?_
          refine mi_sem_b mi_in120 (decide (5 < ((a1 / 10)))) false (mi_ltF2 (5) (by decide) (by omega)) 14 10 ([(0, .int ((a1 / 10))), (1, .int 0), (2, .int 5)], [], (0, 0), mi_G) (by rfl) ?_
          refine mi_sem_steps mi_in120 (mi_calok_none _ _) 2 _ (15, [(0, .int ((a1 / 10))), (1, .int 0), (2, .int 5)], [.int 1], (0, 0), mi_G) (by rfl) ?_
          exact mi_sem_ret (cal := fun _ _ _ => none) mi_in120 (by rfl)
        refine mi_sem_call mi_in121 (i := (.invokestatic 74, 3, 120, 0, 9, 0, 152)) (by rfl) (by rfl) hM971 (by decide) ⟨Nat.le_of_ble_eq_true rfl, Nat.le_of_ble_eq_true rfl⟩ ?_
        exact mi_sem_ret (cal := fun _ _ _ => none) mi_in121 (by rfl)
      refine mi_sem_call mi_in122 (i := (.invokestatic 70, 3, 121, 0, 9, 0, 157)) (by rfl) (by rfl) hM972 (by decide) ⟨Nat.le_of_ble_eq_true rfl, Nat.le_of_ble_eq_true rfl⟩ ?_
      refine mi_sem_steps mi_in122 (mi_calok_none _ _) 4 _ (18, [(0, .int a1)], [.int ((a1 - a1 / 10 * 10))], (0, 0), mi_G) (by rfl) ?_
      have hM974 : mi_Met mi_N0 2 mi_h121 [.int ((a1 - a1 / 10 * 10))] mi_G (some (.int 0)) mi_G := by
        refine mi_met_of (y := 121) (q := (mi_h121, mi_c121)) rfl (by decide) (Nat.le_of_ble_eq_true rfl) ?_
        refine mi_sem_steps mi_in121 (mi_calok_none _ _) 3 _ (3, [(0, .int ((a1 - a1 / 10 * 10)))], [.int 5, .int 0, .int ((a1 - a1 / 10 * 10))], (0, 0), mi_G) (by rfl) ?_
        have hM973 : mi_Met mi_N0 1 mi_h120 [.int ((a1 - a1 / 10 * 10)), .int 0, .int 5] mi_G (some (.int 0)) mi_G := by
          refine mi_met_of (y := 120) (q := (mi_h120, mi_c120)) rfl (by decide) (Nat.le_of_ble_eq_true rfl) ?_
          refine mi_sem_steps mi_in120 (mi_calok_none _ _) 2 _ (2, [(0, .int ((a1 - a1 / 10 * 10))), (1, .int 0), (2, .int 5)], [.int 0, .int ((a1 - a1 / 10 * 10))], (0, 0), mi_G) (by rfl) ?_
          refine mi_sem_b mi_in120 (decide (((a1 - a1 / 10 * 10)) < 0)) true (mi_ltT (0) (by decide) (by omega)) 14 5 ([(0, .int ((a1 - a1 / 10 * 10))), (1, .int 0), (2, .int 5)], [], (0, 0), mi_G) (by rfl) ?_
          refine mi_sem_steps mi_in120 (mi_calok_none _ _) 1 _ (15, [(0, .int ((a1 - a1 / 10 * 10))), (1, .int 0), (2, .int 5)], [.int 0], (0, 0), mi_G) (by rfl) ?_
          exact mi_sem_ret (cal := fun _ _ _ => none) mi_in120 (by rfl)
        refine mi_sem_call mi_in121 (i := (.invokestatic 74, 3, 120, 0, 9, 0, 152)) (by rfl) (by rfl) hM973 (by decide) ⟨Nat.le_of_ble_eq_true rfl, Nat.le_of_ble_eq_true rfl⟩ ?_
        exact mi_sem_ret (cal := fun _ _ _ => none) mi_in121 (by rfl)
      refine mi_sem_call mi_in122 (i := (.invokestatic 70, 3, 121, 0, 9, 0, 157)) (by rfl) (by rfl) hM974 (by decide) ⟨Nat.le_of_ble_eq_true rfl, Nat.le_of_ble_eq_true rfl⟩ ?_
      refine mi_sem_steps mi_in122 (mi_calok_none _ _) 2 _ (29, [(0, .int a1)], [.int 0], (0, 0), mi_G) (by rfl) ?_
      exact mi_sem_ret (cal := fun _ _ _ => none) mi_in122 (by rfl)
    refine mi_sem_call mi_in97 (i := (.invokestatic 214, 3, 122, 0, 9, 0, 260)) (by rfl) (by rfl) hM975 (by decide) ⟨Nat.le_of_ble_eq_true rfl, Nat.le_of_ble_eq_true rfl⟩ ?_
    refine mi_sem_steps mi_in97 (mi_calok_none _ _) 2 _ (8, [(0, .ref 0), (1, .int a1)], [.int (-1)], (0, 0), mi_G) (by rfl) ?_
    exact mi_sem_ret (cal := fun _ _ _ => none) mi_in97 (by rfl)
  · refine mi_met_of (y := 193) (q := (mi_h193, mi_c193)) rfl (by decide) (Nat.le_of_ble_eq_true rfl) ?_
    refine mi_sem_steps mi_in193 (mi_calok_none _ _) 2 _ (2, [(0, .ref 116), (1, .int a1)], [.int a1, .ref 116], (0, 0), mi_G) (by rfl) ?_
    have hM980 : mi_Met mi_N0 3 mi_h190 [.ref 116, .int a1] mi_G (some (.int 0)) mi_G := by
      refine mi_met_of (y := 190) (q := (mi_h190, mi_c190)) rfl (by decide) (Nat.le_of_ble_eq_true rfl) ?_
      refine mi_sem_steps mi_in190 (mi_calok_none _ _) 1 _ (1, [(0, .ref 116), (1, .int a1)], [.int a1], (0, 0), mi_G) (by rfl) ?_
      refine mi_sem_b mi_in190 (decide (a1 < 0)) false (mi_ltF (0) (by decide) (by omega)) 28 4 ([(0, .ref 116), (1, .int a1)], [], (0, 0), mi_G) (by rfl) ?_
      refine mi_sem_steps mi_in190 (mi_calok_none _ _) 3 _ (8, [(0, .ref 116), (1, .int a1)], [.int ((a1 / 10))], (0, 0), mi_G) (by rfl) ?_
      have hM977 : mi_Met mi_N0 2 mi_h133 [.int ((a1 / 10))] mi_G (some (.int 1)) mi_G := by
        refine mi_met_of (y := 133) (q := (mi_h133, mi_c133)) rfl (by decide) (Nat.le_of_ble_eq_true rfl) ?_
        refine mi_sem_steps mi_in133 (mi_calok_none _ _) 3 _ (3, [(0, .int ((a1 / 10)))], [.int 5, .int 0, .int ((a1 / 10))], (0, 0), mi_G) (by rfl) ?_
        have hM976 : mi_Met mi_N0 1 mi_h131 [.int ((a1 / 10)), .int 0, .int 5] mi_G (some (.int 1)) mi_G := by
          refine mi_met_of (y := 131) (q := (mi_h131, mi_c131)) rfl (by decide) (Nat.le_of_ble_eq_true rfl) ?_
          refine mi_sem_steps mi_in131 (mi_calok_none _ _) 2 _ (2, [(0, .int ((a1 / 10))), (1, .int 0), (2, .int 5)], [.int 0, .int ((a1 / 10))], (0, 0), mi_G) (by rfl) ?_
          refine mi_sem_b mi_in131 (decide (((a1 / 10)) < 0)) false (mi_ltF (0) (by decide) (by omega)) 14 5 ([(0, .int ((a1 / 10))), (1, .int 0), (2, .int 5)], [], (0, 0), mi_G) (by rfl) ?_
          refine mi_sem_steps mi_in131 (mi_calok_none _ _) 2 _ (7, [(0, .int ((a1 / 10))), (1, .int 0), (2, .int 5)], [.int 5, .int ((a1 / 10))], (0, 0), mi_G) (by rfl) ?_
          refine mi_sem_b mi_in131 (decide (5 < ((a1 / 10)))) false (mi_ltF2 (5) (by decide) (by omega)) 14 10 ([(0, .int ((a1 / 10))), (1, .int 0), (2, .int 5)], [], (0, 0), mi_G) (by rfl) ?_
          refine mi_sem_steps mi_in131 (mi_calok_none _ _) 2 _ (15, [(0, .int ((a1 / 10))), (1, .int 0), (2, .int 5)], [.int 1], (0, 0), mi_G) (by rfl) ?_
          exact mi_sem_ret (cal := fun _ _ _ => none) mi_in131 (by rfl)
        refine mi_sem_call mi_in133 (i := (.invokestatic 119, 3, 131, 0, 9, 0, 379)) (by rfl) (by rfl) hM976 (by decide) ⟨Nat.le_of_ble_eq_true rfl, Nat.le_of_ble_eq_true rfl⟩ ?_
        exact mi_sem_ret (cal := fun _ _ _ => none) mi_in133 (by rfl)
      refine mi_sem_call mi_in190 (i := (.invokestatic 127, 3, 133, 0, 9, 0, 382)) (by rfl) (by rfl) hM977 (by decide) ⟨Nat.le_of_ble_eq_true rfl, Nat.le_of_ble_eq_true rfl⟩ ?_
      refine mi_sem_steps mi_in190 (mi_calok_none _ _) 4 _ (18, [(0, .ref 116), (1, .int a1)], [.int ((a1 - a1 / 10 * 10))], (0, 0), mi_G) (by rfl) ?_
      have hM979 : mi_Met mi_N0 2 mi_h133 [.int ((a1 - a1 / 10 * 10))] mi_G (some (.int 0)) mi_G := by
        refine mi_met_of (y := 133) (q := (mi_h133, mi_c133)) rfl (by decide) (Nat.le_of_ble_eq_true rfl) ?_
        refine mi_sem_steps mi_in133 (mi_calok_none _ _) 3 _ (3, [(0, .int ((a1 - a1 / 10 * 10)))], [.int 5, .int 0, .int ((a1 - a1 / 10 * 10))], (0, 0), mi_G) (by rfl) ?_
        have hM978 : mi_Met mi_N0 1 mi_h131 [.int ((a1 - a1 / 10 * 10)), .int 0, .int 5] mi_G (some (.int 0)) mi_G := by
          refine mi_met_of (y := 131) (q := (mi_h131, mi_c131)) rfl (by decide) (Nat.le_of_ble_eq_true rfl) ?_
          refine mi_sem_steps mi_in131 (mi_calok_none _ _) 2 _ (2, [(0, .int ((a1 - a1 / 10 * 10))), (1, .int 0), (2, .int 5)], [.int 0, .int ((a1 - a1 / 10 * 10))], (0, 0), mi_G) (by rfl) ?_
          refine mi_sem_b mi_in131 (decide (((a1 - a1 / 10 * 10)) < 0)) true (mi_ltT (0) (by decide) (by omega)) 14 5 ([(0, .int ((a1 - a1 / 10 * 10))), (1, .int 0), (2, .int 5)], [], (0, 0), mi_G) (by rfl) ?_
          refine mi_sem_steps mi_in131 (mi_calok_none _ _) 1 _ (15, [(0, .int ((a1 - a1 / 10 * 10))), (1, .int 0), (2, .int 5)], [.int 0], (0, 0), mi_G) (by rfl) ?_
          exact mi_sem_ret (cal := fun _ _ _ => none) mi_in131 (by rfl)
        refine mi_sem_call mi_in133 (i := (.invokestatic 119, 3, 131, 0, 9, 0, 379)) (by rfl) (by rfl) hM978 (by decide) ⟨Nat.le_of_ble_eq_true rfl, Nat.le_of_ble_eq_true rfl⟩ ?_
        exact mi_sem_ret (cal := fun _ _ _ => none) mi_in133 (by rfl)
      refine mi_sem_call mi_in190 (i := (.invokestatic 127, 3, 133, 0, 9, 0, 382)) (by rfl) (by rfl) hM979 (by decide) ⟨Nat.le_of_ble_eq_true rfl, Nat.le_of_ble_eq_true rfl⟩ ?_
      refine mi_sem_steps mi_in190 (mi_calok_none _ _) 2 _ (29, [(0, .ref 116), (1, .int a1)], [.int 0], (0, 0), mi_G) (by rfl) ?_
      exact mi_sem_ret (cal := fun _ _ _ => none) mi_in190 (by rfl)
    refine mi_sem_call mi_in193 (i := (.invokevirtual 314, 3, 190, 0, 9, 0, 442)) (by rfl) (by rfl) hM980 (by decide) ⟨Nat.le_of_ble_eq_true rfl, Nat.le_of_ble_eq_true rfl⟩ ?_
    refine mi_sem_steps mi_in193 (mi_calok_none _ _) 2 _ (9, [(0, .ref 116), (1, .int a1)], [.int (-1)], (0, 0), mi_G) (by rfl) ?_
    exact mi_sem_ret (cal := fun _ _ _ => none) mi_in193 (by rfl)

set_option maxRecDepth 100000 in
set_option maxHeartbeats 4000000 in
theorem mp_judge_3 (a1 : Int32) (r0 : 0 ≤ (a1).toInt ∧ (a1).toInt ≤ 2147483647) (q1 : (a1 / 10) = 0) (r2 : 0 ≤ ((a1 - a1 / 10 * 10)).toInt ∧ ((a1 - a1 / 10 * 10)).toInt ≤ 5) : mi_P 97 193 [.int a1] := by
  refine ⟨.int (-11), mi_G, mi_G, (mi_h97, mi_c97), (mi_h193, mi_c193), 5, 4, rfl, rfl, rfl, by decide, by decide, ?_, ?_⟩
  · refine mi_met_of (y := 97) (q := (mi_h97, mi_c97)) rfl (by decide) (Nat.le_of_ble_eq_true rfl) ?_
    refine mi_sem_steps mi_in97 (mi_calok_none _ _) 1 _ (1, [(0, .ref 0), (1, .int a1)], [.int a1], (0, 0), mi_G) (by rfl) ?_
    have hM993 : mi_Met mi_N0 3 mi_h122 [.int a1] mi_G (some (.int 1)) mi_G := by
      refine mi_met_of (y := 122) (q := (mi_h122, mi_c122)) rfl (by decide) (Nat.le_of_ble_eq_true rfl) ?_
      refine mi_sem_steps mi_in122 (mi_calok_none _ _) 1 _ (1, [(0, .int a1)], [.int a1], (0, 0), mi_G) (by rfl) ?_
      refine mi_sem_b mi_in122 (decide (a1 < 0)) false (mi_ltF (0) (by decide) (by omega)) 28 4 ([(0, .int a1)], [], (0, 0), mi_G) (by rfl) ?_
      refine mi_sem_steps mi_in122 (mi_calok_none _ _) 3 _ (8, [(0, .int a1)], [.int ((a1 / 10))], (0, 0), mi_G) (by rfl) ?_
      refine mi_sem_eq (x1 := (8, [(0, .int a1)], [.int 0], (0, 0), mi_G)) (by rw [q1]) ?_
      have hM990 : mi_Met mi_N0 2 mi_h121 [.int 0] mi_G (some (.int 1)) mi_G := mi_fun_ok mi_N0 2 121 (mi_h121, mi_c121) _ _ _ _ rfl (mi_eR_ok (by decide +kernel))
      refine mi_sem_call mi_in122 (i := (.invokestatic 70, 3, 121, 0, 9, 0, 157)) (by rfl) (by rfl) hM990 (by decide) ⟨Nat.le_of_ble_eq_true rfl, Nat.le_of_ble_eq_true rfl⟩ ?_
      refine mi_sem_steps mi_in122 (mi_calok_none _ _) 4 _ (18, [(0, .int a1)], [.int ((a1 - a1 / 10 * 10))], (0, 0), mi_G) (by rfl) ?_
      have hM992 : mi_Met mi_N0 2 mi_h121 [.int ((a1 - a1 / 10 * 10))] mi_G (some (.int 1)) mi_G := by
        refine mi_met_of (y := 121) (q := (mi_h121, mi_c121)) rfl (by decide) (Nat.le_of_ble_eq_true rfl) ?_
        refine mi_sem_steps mi_in121 (mi_calok_none _ _) 3 _ (3, [(0, .int ((a1 - a1 / 10 * 10)))], [.int 5, .int 0, .int ((a1 - a1 / 10 * 10))], (0, 0), mi_G) (by rfl) ?_
        have hM991 : mi_Met mi_N0 1 mi_h120 [.int ((a1 - a1 / 10 * 10)), .int 0, .int 5] mi_G (some (.int 1)) mi_G := by
          refine mi_met_of (y := 120) (q := (mi_h120, mi_c120)) rfl (by decide) (Nat.le_of_ble_eq_true rfl) ?_
          refine mi_sem_steps mi_in120 (mi_calok_none _ _) 2 _ (2, [(0, .int ((a1 - a1 / 10 * 10))), (1, .int 0), (2, .int 5)], [.int 0, .int ((a1 - a1 / 10 * 10))], (0, 0), mi_G) (by rfl) ?_
          refine mi_sem_b mi_in120 (decide (((a1 - a1 / 10 * 10)) < 0)) false (mi_ltF (0) (by decide) (by omega)) 14 5 ([(0, .int ((a1 - a1 / 10 * 10))), (1, .int 0), (2, .int 5)], [], (0, 0), mi_G) (by rfl) ?_
          refine mi_sem_steps mi_in120 (mi_calok_none _ _) 2 _ (7, [(0, .int ((a1 - a1 / 10 * 10))), (1, .int 0), (2, .int 5)], [.int 5, .int ((a1 - a1 / 10 * 10))], (0, 0), mi_G) (by rfl) ?_
          refine mi_sem_b mi_in120 (decide (5 < ((a1 - a1 / 10 * 10)))) false (mi_ltF2 (5) (by decide) (by omega)) 14 10 ([(0, .int ((a1 - a1 / 10 * 10))), (1, .int 0), (2, .int 5)], [], (0, 0), mi_G) (by rfl) ?_
          refine mi_sem_steps mi_in120 (mi_calok_none _ _) 2 _ (15, [(0, .int ((a1 - a1 / 10 * 10))), (1, .int 0), (2, .int 5)], [.int 1], (0, 0), mi_G) (by rfl) ?_
          exact mi_sem_ret (cal := fun _ _ _ => none) mi_in120 (by rfl)
        refine mi_sem_call mi_in121 (i := (.invokestatic 74, 3, 120, 0, 9, 0, 152)) (by rfl) (by rfl) hM991 (by decide) ⟨Nat.le_of_ble_eq_true rfl, Nat.le_of_ble_eq_true rfl⟩ ?_
        exact mi_sem_ret (cal := fun _ _ _ => none) mi_in121 (by rfl)
      refine mi_sem_call mi_in122 (i := (.invokestatic 70, 3, 121, 0, 9, 0, 157)) (by rfl) (by rfl) hM992 (by decide) ⟨Nat.le_of_ble_eq_true rfl, Nat.le_of_ble_eq_true rfl⟩ ?_
      refine mi_sem_steps mi_in122 (mi_calok_none _ _) 3 _ (29, [(0, .int a1)], [.int 1], (0, 0), mi_G) (by rfl) ?_
      exact mi_sem_ret (cal := fun _ _ _ => none) mi_in122 (by rfl)
    refine mi_sem_call mi_in97 (i := (.invokestatic 214, 3, 122, 0, 9, 0, 260)) (by rfl) (by rfl) hM993 (by decide) ⟨Nat.le_of_ble_eq_true rfl, Nat.le_of_ble_eq_true rfl⟩ ?_
    refine mi_sem_steps mi_in97 (mi_calok_none _ _) 5 _ (14, [(0, .ref 0), (1, .int a1)], [.int ((a1 / 10)), .ref 0], (0, 0), mi_G) (by rfl) ?_
    refine mi_sem_eq (x1 := (14, [(0, .ref 0), (1, .int a1)], [.int 0, .ref 0], (0, 0), mi_G)) (by rw [q1]) ?_
    have hM994 : mi_Met mi_N0 4 mi_h129 [.ref 0, .int 0] mi_G (some (.int (-11))) mi_G := mi_fun_ok mi_N0 4 129 (mi_h129, mi_c129) _ _ _ _ rfl (mi_eR_ok (by decide +kernel))
    refine mi_sem_call mi_in97 (i := (.invokevirtual 144, 3, 129, 0, 9, 0, 208)) (by rfl) (by rfl) hM994 (by decide) ⟨Nat.le_of_ble_eq_true rfl, Nat.le_of_ble_eq_true rfl⟩ ?_
    refine mi_sem_steps mi_in97 (mi_calok_none _ _) 6 _ (36, [(2, .int (-11)), (0, .ref 0), (1, .int a1)], [.int (-11)], (0, 0), mi_G) (by rfl) ?_
    exact mi_sem_ret (cal := fun _ _ _ => none) mi_in97 (by rfl)
  · refine mi_met_of (y := 193) (q := (mi_h193, mi_c193)) rfl (by decide) (Nat.le_of_ble_eq_true rfl) ?_
    refine mi_sem_steps mi_in193 (mi_calok_none _ _) 2 _ (2, [(0, .ref 116), (1, .int a1)], [.int a1, .ref 116], (0, 0), mi_G) (by rfl) ?_
    have hM998 : mi_Met mi_N0 3 mi_h190 [.ref 116, .int a1] mi_G (some (.int 1)) mi_G := by
      refine mi_met_of (y := 190) (q := (mi_h190, mi_c190)) rfl (by decide) (Nat.le_of_ble_eq_true rfl) ?_
      refine mi_sem_steps mi_in190 (mi_calok_none _ _) 1 _ (1, [(0, .ref 116), (1, .int a1)], [.int a1], (0, 0), mi_G) (by rfl) ?_
      refine mi_sem_b mi_in190 (decide (a1 < 0)) false (mi_ltF (0) (by decide) (by omega)) 28 4 ([(0, .ref 116), (1, .int a1)], [], (0, 0), mi_G) (by rfl) ?_
      refine mi_sem_steps mi_in190 (mi_calok_none _ _) 3 _ (8, [(0, .ref 116), (1, .int a1)], [.int ((a1 / 10))], (0, 0), mi_G) (by rfl) ?_
      refine mi_sem_eq (x1 := (8, [(0, .ref 116), (1, .int a1)], [.int 0], (0, 0), mi_G)) (by rw [q1]) ?_
      have hM995 : mi_Met mi_N0 2 mi_h133 [.int 0] mi_G (some (.int 1)) mi_G := mi_fun_ok mi_N0 2 133 (mi_h133, mi_c133) _ _ _ _ rfl (mi_eR_ok (by decide +kernel))
      refine mi_sem_call mi_in190 (i := (.invokestatic 127, 3, 133, 0, 9, 0, 382)) (by rfl) (by rfl) hM995 (by decide) ⟨Nat.le_of_ble_eq_true rfl, Nat.le_of_ble_eq_true rfl⟩ ?_
      refine mi_sem_steps mi_in190 (mi_calok_none _ _) 4 _ (18, [(0, .ref 116), (1, .int a1)], [.int ((a1 - a1 / 10 * 10))], (0, 0), mi_G) (by rfl) ?_
      have hM997 : mi_Met mi_N0 2 mi_h133 [.int ((a1 - a1 / 10 * 10))] mi_G (some (.int 1)) mi_G := by
        refine mi_met_of (y := 133) (q := (mi_h133, mi_c133)) rfl (by decide) (Nat.le_of_ble_eq_true rfl) ?_
        refine mi_sem_steps mi_in133 (mi_calok_none _ _) 3 _ (3, [(0, .int ((a1 - a1 / 10 * 10)))], [.int 5, .int 0, .int ((a1 - a1 / 10 * 10))], (0, 0), mi_G) (by rfl) ?_
        have hM996 : mi_Met mi_N0 1 mi_h131 [.int ((a1 - a1 / 10 * 10)), .int 0, .int 5] mi_G (some (.int 1)) mi_G := by
          refine mi_met_of (y := 131) (q := (mi_h131, mi_c131)) rfl (by decide) (Nat.le_of_ble_eq_true rfl) ?_
          refine mi_sem_steps mi_in131 (mi_calok_none _ _) 2 _ (2, [(0, .int ((a1 - a1 / 10 * 10))), (1, .int 0), (2, .int 5)], [.int 0, .int ((a1 - a1 / 10 * 10))], (0, 0), mi_G) (by rfl) ?_
          refine mi_sem_b mi_in131 (decide (((a1 - a1 / 10 * 10)) < 0)) false (mi_ltF (0) (by decide) (by omega)) 14 5 ([(0, .int ((a1 - a1 / 10 * 10))), (1, .int 0), (2, .int 5)], [], (0, 0), mi_G) (by rfl) ?_
          refine mi_sem_steps mi_in131 (mi_calok_none _ _) 2 _ (7, [(0, .int ((a1 - a1 / 10 * 10))), (1, .int 0), (2, .int 5)], [.int 5, .int ((a1 - a1 / 10 * 10))], (0, 0), mi_G) (by rfl) ?_
          refine mi_sem_b mi_in131 (decide (5 < ((a1 - a1 / 10 * 10)))) false (mi_ltF2 (5) (by decide) (by omega)) 14 10 ([(0, .int ((a1 - a1 / 10 * 10))), (1, .int 0), (2, .int 5)], [], (0, 0), mi_G) (by rfl) ?_
          refine mi_sem_steps mi_in131 (mi_calok_none _ _) 2 _ (15, [(0, .int ((a1 - a1 / 10 * 10))), (1, .int 0), (2, .int 5)], [.int 1], (0, 0), mi_G) (by rfl) ?_
          exact mi_sem_ret (cal := fun _ _ _ => none) mi_in131 (by rfl)
        refine mi_sem_call mi_in133 (i := (.invokestatic 119, 3, 131, 0, 9, 0, 379)) (by rfl) (by rfl) hM996 (by decide) ⟨Nat.le_of_ble_eq_true rfl, Nat.le_of_ble_eq_true rfl⟩ ?_
        exact mi_sem_ret (cal := fun _ _ _ => none) mi_in133 (by rfl)
      refine mi_sem_call mi_in190 (i := (.invokestatic 127, 3, 133, 0, 9, 0, 382)) (by rfl) (by rfl) hM997 (by decide) ⟨Nat.le_of_ble_eq_true rfl, Nat.le_of_ble_eq_true rfl⟩ ?_
      refine mi_sem_steps mi_in190 (mi_calok_none _ _) 3 _ (29, [(0, .ref 116), (1, .int a1)], [.int 1], (0, 0), mi_G) (by rfl) ?_
      exact mi_sem_ret (cal := fun _ _ _ => none) mi_in190 (by rfl)
    refine mi_sem_call mi_in193 (i := (.invokevirtual 314, 3, 190, 0, 9, 0, 442)) (by rfl) (by rfl) hM998 (by decide) ⟨Nat.le_of_ble_eq_true rfl, Nat.le_of_ble_eq_true rfl⟩ ?_
    refine mi_sem_steps mi_in193 (mi_calok_none _ _) 3 _ (12, [(0, .ref 116), (1, .int a1)], [.int a1, .ref 116], (0, 0), mi_G) (by rfl) ?_
    have hM1000 : mi_Met mi_N0 2 mi_h191 [.ref 116, .int a1] mi_G (some (.int (-11))) mi_G := by
      refine mi_met_of (y := 191) (q := (mi_h191, mi_c191)) rfl (by decide) (Nat.le_of_ble_eq_true rfl) ?_
      refine mi_sem_steps mi_in191 (mi_calok_none _ _) 4 _ (5, [(0, .ref 116), (1, .int a1)], [.int ((a1 / 10)), .ref 116], (0, 0), mi_G) (by rfl) ?_
      refine mi_sem_eq (x1 := (5, [(0, .ref 116), (1, .int a1)], [.int 0, .ref 116], (0, 0), mi_G)) (by rw [q1]) ?_
      have hM999 : mi_Met mi_N0 1 mi_h173 [.ref 116, .int 0] mi_G (some (.int (-11))) mi_G := mi_fun_ok mi_N0 1 173 (mi_h173, mi_c173) _ _ _ _ rfl (mi_eR_ok (by decide +kernel))
      refine mi_sem_call mi_in191 (i := (.invokevirtual 276, 3, 173, 0, 9, 0, 410)) (by rfl) (by rfl) hM999 (by decide) ⟨Nat.le_of_ble_eq_true rfl, Nat.le_of_ble_eq_true rfl⟩ ?_
      refine mi_sem_steps mi_in191 (mi_calok_none _ _) 5 _ (25, [(2, .int (-11)), (0, .ref 116), (1, .int a1)], [.int (-11)], (0, 0), mi_G) (by rfl) ?_
      exact mi_sem_ret (cal := fun _ _ _ => none) mi_in191 (by rfl)
    refine mi_sem_call mi_in193 (i := (.invokevirtual 317, 3, 191, 0, 9, 0, 443)) (by rfl) (by rfl) hM1000 (by decide) ⟨Nat.le_of_ble_eq_true rfl, Nat.le_of_ble_eq_true rfl⟩ ?_
    refine mi_sem_steps mi_in193 (mi_calok_none _ _) 4 _ (21, [(2, .int (-11)), (0, .ref 116), (1, .int a1)], [.int (-11)], (0, 0), mi_G) (by rfl) ?_
    exact mi_sem_ret (cal := fun _ _ _ => none) mi_in193 (by rfl)

set_option maxRecDepth 100000 in
set_option maxHeartbeats 4000000 in
theorem mp_judge_4 (a1 : Int32) (r0 : 0 ≤ (a1).toInt ∧ (a1).toInt ≤ 2147483647) (q1 : (a1 / 10) = 1) (r2 : 0 ≤ ((a1 - a1 / 10 * 10)).toInt ∧ ((a1 - a1 / 10 * 10)).toInt ≤ 5) : mi_P 97 193 [.int a1] := by
  refine ⟨.int (-11), mi_G, mi_G, (mi_h97, mi_c97), (mi_h193, mi_c193), 5, 4, rfl, rfl, rfl, by decide, by decide, ?_, ?_⟩
  · refine mi_met_of (y := 97) (q := (mi_h97, mi_c97)) rfl (by decide) (Nat.le_of_ble_eq_true rfl) ?_
    refine mi_sem_steps mi_in97 (mi_calok_none _ _) 1 _ (1, [(0, .ref 0), (1, .int a1)], [.int a1], (0, 0), mi_G) (by rfl) ?_
    have hM1011 : mi_Met mi_N0 3 mi_h122 [.int a1] mi_G (some (.int 1)) mi_G := by
      refine mi_met_of (y := 122) (q := (mi_h122, mi_c122)) rfl (by decide) (Nat.le_of_ble_eq_true rfl) ?_
      refine mi_sem_steps mi_in122 (mi_calok_none _ _) 1 _ (1, [(0, .int a1)], [.int a1], (0, 0), mi_G) (by rfl) ?_
      refine mi_sem_b mi_in122 (decide (a1 < 0)) false (mi_ltF (0) (by decide) (by omega)) 28 4 ([(0, .int a1)], [], (0, 0), mi_G) (by rfl) ?_
      refine mi_sem_steps mi_in122 (mi_calok_none _ _) 3 _ (8, [(0, .int a1)], [.int ((a1 / 10))], (0, 0), mi_G) (by rfl) ?_
      refine mi_sem_eq (x1 := (8, [(0, .int a1)], [.int 1], (0, 0), mi_G)) (by rw [q1]) ?_
      have hM1008 : mi_Met mi_N0 2 mi_h121 [.int 1] mi_G (some (.int 1)) mi_G := mi_fun_ok mi_N0 2 121 (mi_h121, mi_c121) _ _ _ _ rfl (mi_eR_ok (by decide +kernel))
      refine mi_sem_call mi_in122 (i := (.invokestatic 70, 3, 121, 0, 9, 0, 157)) (by rfl) (by rfl) hM1008 (by decide) ⟨Nat.le_of_ble_eq_true rfl, Nat.le_of_ble_eq_true rfl⟩ ?_
      refine mi_sem_steps mi_in122 (mi_calok_none _ _) 4 _ (18, [(0, .int a1)], [.int ((a1 - a1 / 10 * 10))], (0, 0), mi_G) (by rfl) ?_
      have hM1010 : mi_Met mi_N0 2 mi_h121 [.int ((a1 - a1 / 10 * 10))] mi_G (some (.int 1)) mi_G := by
        refine mi_met_of (y := 121) (q := (mi_h121, mi_c121)) rfl (by decide) (Nat.le_of_ble_eq_true rfl) ?_
        refine mi_sem_steps mi_in121 (mi_calok_none _ _) 3 _ (3, [(0, .int ((a1 - a1 / 10 * 10)))], [.int 5, .int 0, .int ((a1 - a1 / 10 * 10))], (0, 0), mi_G) (by rfl) ?_
        have hM1009 : mi_Met mi_N0 1 mi_h120 [.int ((a1 - a1 / 10 * 10)), .int 0, .int 5] mi_G (some (.int 1)) mi_G := by
          refine mi_met_of (y := 120) (q := (mi_h120, mi_c120)) rfl (by decide) (Nat.le_of_ble_eq_true rfl) ?_
          refine mi_sem_steps mi_in120 (mi_calok_none _ _) 2 _ (2, [(0, .int ((a1 - a1 / 10 * 10))), (1, .int 0), (2, .int 5)], [.int 0, .int ((a1 - a1 / 10 * 10))], (0, 0), mi_G) (by rfl) ?_
          refine mi_sem_b mi_in120 (decide (((a1 - a1 / 10 * 10)) < 0)) false (mi_ltF (0) (by decide) (by omega)) 14 5 ([(0, .int ((a1 - a1 / 10 * 10))), (1, .int 0), (2, .int 5)], [], (0, 0), mi_G) (by rfl) ?_
          refine mi_sem_steps mi_in120 (mi_calok_none _ _) 2 _ (7, [(0, .int ((a1 - a1 / 10 * 10))), (1, .int 0), (2, .int 5)], [.int 5, .int ((a1 - a1 / 10 * 10))], (0, 0), mi_G) (by rfl) ?_
          refine mi_sem_b mi_in120 (decide (5 < ((a1 - a1 / 10 * 10)))) false (mi_ltF2 (5) (by decide) (by omega)) 14 10 ([(0, .int ((a1 - a1 / 10 * 10))), (1, .int 0), (2, .int 5)], [], (0, 0), mi_G) (by rfl) ?_
          refine mi_sem_steps mi_in120 (mi_calok_none _ _) 2 _ (15, [(0, .int ((a1 - a1 / 10 * 10))), (1, .int 0), (2, .int 5)], [.int 1], (0, 0), mi_G) (by rfl) ?_
          exact mi_sem_ret (cal := fun _ _ _ => none) mi_in120 (by rfl)
        refine mi_sem_call mi_in121 (i := (.invokestatic 74, 3, 120, 0, 9, 0, 152)) (by rfl) (by rfl) hM1009 (by decide) ⟨Nat.le_of_ble_eq_true rfl, Nat.le_of_ble_eq_true rfl⟩ ?_
        exact mi_sem_ret (cal := fun _ _ _ => none) mi_in121 (by rfl)
      refine mi_sem_call mi_in122 (i := (.invokestatic 70, 3, 121, 0, 9, 0, 157)) (by rfl) (by rfl) hM1010 (by decide) ⟨Nat.le_of_ble_eq_true rfl, Nat.le_of_ble_eq_true rfl⟩ ?_
      refine mi_sem_steps mi_in122 (mi_calok_none _ _) 3 _ (29, [(0, .int a1)], [.int 1], (0, 0), mi_G) (by rfl) ?_
      exact mi_sem_ret (cal := fun _ _ _ => none) mi_in122 (by rfl)
    refine mi_sem_call mi_in97 (i := (.invokestatic 214, 3, 122, 0, 9, 0, 260)) (by rfl) (by rfl) hM1011 (by decide) ⟨Nat.le_of_ble_eq_true rfl, Nat.le_of_ble_eq_true rfl⟩ ?_
    refine mi_sem_steps mi_in97 (mi_calok_none _ _) 5 _ (14, [(0, .ref 0), (1, .int a1)], [.int ((a1 / 10)), .ref 0], (0, 0), mi_G) (by rfl) ?_
    refine mi_sem_eq (x1 := (14, [(0, .ref 0), (1, .int a1)], [.int 1, .ref 0], (0, 0), mi_G)) (by rw [q1]) ?_
    have hM1012 : mi_Met mi_N0 4 mi_h129 [.ref 0, .int 1] mi_G (some (.int (-11))) mi_G := mi_fun_ok mi_N0 4 129 (mi_h129, mi_c129) _ _ _ _ rfl (mi_eR_ok (by decide +kernel))
    refine mi_sem_call mi_in97 (i := (.invokevirtual 144, 3, 129, 0, 9, 0, 208)) (by rfl) (by rfl) hM1012 (by decide) ⟨Nat.le_of_ble_eq_true rfl, Nat.le_of_ble_eq_true rfl⟩ ?_
    refine mi_sem_steps mi_in97 (mi_calok_none _ _) 6 _ (36, [(2, .int (-11)), (0, .ref 0), (1, .int a1)], [.int (-11)], (0, 0), mi_G) (by rfl) ?_
    exact mi_sem_ret (cal := fun _ _ _ => none) mi_in97 (by rfl)
  · refine mi_met_of (y := 193) (q := (mi_h193, mi_c193)) rfl (by decide) (Nat.le_of_ble_eq_true rfl) ?_
    refine mi_sem_steps mi_in193 (mi_calok_none _ _) 2 _ (2, [(0, .ref 116), (1, .int a1)], [.int a1, .ref 116], (0, 0), mi_G) (by rfl) ?_
    have hM1016 : mi_Met mi_N0 3 mi_h190 [.ref 116, .int a1] mi_G (some (.int 1)) mi_G := by
      refine mi_met_of (y := 190) (q := (mi_h190, mi_c190)) rfl (by decide) (Nat.le_of_ble_eq_true rfl) ?_
      refine mi_sem_steps mi_in190 (mi_calok_none _ _) 1 _ (1, [(0, .ref 116), (1, .int a1)], [.int a1], (0, 0), mi_G) (by rfl) ?_
      refine mi_sem_b mi_in190 (decide (a1 < 0)) false (mi_ltF (0) (by decide) (by omega)) 28 4 ([(0, .ref 116), (1, .int a1)], [], (0, 0), mi_G) (by rfl) ?_
      refine mi_sem_steps mi_in190 (mi_calok_none _ _) 3 _ (8, [(0, .ref 116), (1, .int a1)], [.int ((a1 / 10))], (0, 0), mi_G) (by rfl) ?_
      refine mi_sem_eq (x1 := (8, [(0, .ref 116), (1, .int a1)], [.int 1], (0, 0), mi_G)) (by rw [q1]) ?_
      have hM1013 : mi_Met mi_N0 2 mi_h133 [.int 1] mi_G (some (.int 1)) mi_G := mi_fun_ok mi_N0 2 133 (mi_h133, mi_c133) _ _ _ _ rfl (mi_eR_ok (by decide +kernel))
      refine mi_sem_call mi_in190 (i := (.invokestatic 127, 3, 133, 0, 9, 0, 382)) (by rfl) (by rfl) hM1013 (by decide) ⟨Nat.le_of_ble_eq_true rfl, Nat.le_of_ble_eq_true rfl⟩ ?_
      refine mi_sem_steps mi_in190 (mi_calok_none _ _) 4 _ (18, [(0, .ref 116), (1, .int a1)], [.int ((a1 - a1 / 10 * 10))], (0, 0), mi_G) (by rfl) ?_
      have hM1015 : mi_Met mi_N0 2 mi_h133 [.int ((a1 - a1 / 10 * 10))] mi_G (some (.int 1)) mi_G := by
        refine mi_met_of (y := 133) (q := (mi_h133, mi_c133)) rfl (by decide) (Nat.le_of_ble_eq_true rfl) ?_
        refine mi_sem_steps mi_in133 (mi_calok_none _ _) 3 _ (3, [(0, .int ((a1 - a1 / 10 * 10)))], [.int 5, .int 0, .int ((a1 - a1 / 10 * 10))], (0, 0), mi_G) (by rfl) ?_
        have hM1014 : mi_Met mi_N0 1 mi_h131 [.int ((a1 - a1 / 10 * 10)), .int 0, .int 5] mi_G (some (.int 1)) mi_G := by
          refine mi_met_of (y := 131) (q := (mi_h131, mi_c131)) rfl (by decide) (Nat.le_of_ble_eq_true rfl) ?_
          refine mi_sem_steps mi_in131 (mi_calok_none _ _) 2 _ (2, [(0, .int ((a1 - a1 / 10 * 10))), (1, .int 0), (2, .int 5)], [.int 0, .int ((a1 - a1 / 10 * 10))], (0, 0), mi_G) (by rfl) ?_
          refine mi_sem_b mi_in131 (decide (((a1 - a1 / 10 * 10)) < 0)) false (mi_ltF (0) (by decide) (by omega)) 14 5 ([(0, .int ((a1 - a1 / 10 * 10))), (1, .int 0), (2, .int 5)], [], (0, 0), mi_G) (by rfl) ?_
          refine mi_sem_steps mi_in131 (mi_calok_none _ _) 2 _ (7, [(0, .int ((a1 - a1 / 10 * 10))), (1, .int 0), (2, .int 5)], [.int 5, .int ((a1 - a1 / 10 * 10))], (0, 0), mi_G) (by rfl) ?_
          refine mi_sem_b mi_in131 (decide (5 < ((a1 - a1 / 10 * 10)))) false (mi_ltF2 (5) (by decide) (by omega)) 14 10 ([(0, .int ((a1 - a1 / 10 * 10))), (1, .int 0), (2, .int 5)], [], (0, 0), mi_G) (by rfl) ?_
          refine mi_sem_steps mi_in131 (mi_calok_none _ _) 2 _ (15, [(0, .int ((a1 - a1 / 10 * 10))), (1, .int 0), (2, .int 5)], [.int 1], (0, 0), mi_G) (by rfl) ?_
          exact mi_sem_ret (cal := fun _ _ _ => none) mi_in131 (by rfl)
        refine mi_sem_call mi_in133 (i := (.invokestatic 119, 3, 131, 0, 9, 0, 379)) (by rfl) (by rfl) hM1014 (by decide) ⟨Nat.le_of_ble_eq_true rfl, Nat.le_of_ble_eq_true rfl⟩ ?_
        exact mi_sem_ret (cal := fun _ _ _ => none) mi_in133 (by rfl)
      refine mi_sem_call mi_in190 (i := (.invokestatic 127, 3, 133, 0, 9, 0, 382)) (by rfl) (by rfl) hM1015 (by decide) ⟨Nat.le_of_ble_eq_true rfl, Nat.le_of_ble_eq_true rfl⟩ ?_
      refine mi_sem_steps mi_in190 (mi_calok_none _ _) 3 _ (29, [(0, .ref 116), (1, .int a1)], [.int 1], (0, 0), mi_G) (by rfl) ?_
      exact mi_sem_ret (cal := fun _ _ _ => none) mi_in190 (by rfl)
    refine mi_sem_call mi_in193 (i := (.invokevirtual 314, 3, 190, 0, 9, 0, 442)) (by rfl) (by rfl) hM1016 (by decide) ⟨Nat.le_of_ble_eq_true rfl, Nat.le_of_ble_eq_true rfl⟩ ?_
    refine mi_sem_steps mi_in193 (mi_calok_none _ _) 3 _ (12, [(0, .ref 116), (1, .int a1)], [.int a1, .ref 116], (0, 0), mi_G) (by rfl) ?_
    have hM1018 : mi_Met mi_N0 2 mi_h191 [.ref 116, .int a1] mi_G (some (.int (-11))) mi_G := by
      refine mi_met_of (y := 191) (q := (mi_h191, mi_c191)) rfl (by decide) (Nat.le_of_ble_eq_true rfl) ?_
      refine mi_sem_steps mi_in191 (mi_calok_none _ _) 4 _ (5, [(0, .ref 116), (1, .int a1)], [.int ((a1 / 10)), .ref 116], (0, 0), mi_G) (by rfl) ?_
      refine mi_sem_eq (x1 := (5, [(0, .ref 116), (1, .int a1)], [.int 1, .ref 116], (0, 0), mi_G)) (by rw [q1]) ?_
      have hM1017 : mi_Met mi_N0 1 mi_h173 [.ref 116, .int 1] mi_G (some (.int (-11))) mi_G := mi_fun_ok mi_N0 1 173 (mi_h173, mi_c173) _ _ _ _ rfl (mi_eR_ok (by decide +kernel))
      refine mi_sem_call mi_in191 (i := (.invokevirtual 276, 3, 173, 0, 9, 0, 410)) (by rfl) (by rfl) hM1017 (by decide) ⟨Nat.le_of_ble_eq_true rfl, Nat.le_of_ble_eq_true rfl⟩ ?_
      refine mi_sem_steps mi_in191 (mi_calok_none _ _) 5 _ (25, [(2, .int (-11)), (0, .ref 116), (1, .int a1)], [.int (-11)], (0, 0), mi_G) (by rfl) ?_
      exact mi_sem_ret (cal := fun _ _ _ => none) mi_in191 (by rfl)
    refine mi_sem_call mi_in193 (i := (.invokevirtual 317, 3, 191, 0, 9, 0, 443)) (by rfl) (by rfl) hM1018 (by decide) ⟨Nat.le_of_ble_eq_true rfl, Nat.le_of_ble_eq_true rfl⟩ ?_
    refine mi_sem_steps mi_in193 (mi_calok_none _ _) 4 _ (21, [(2, .int (-11)), (0, .ref 116), (1, .int a1)], [.int (-11)], (0, 0), mi_G) (by rfl) ?_
    exact mi_sem_ret (cal := fun _ _ _ => none) mi_in193 (by rfl)

set_option maxRecDepth 100000 in
set_option maxHeartbeats 4000000 in
theorem mp_judge_5 (a1 : Int32) (r0 : 0 ≤ (a1).toInt ∧ (a1).toInt ≤ 2147483647) (q1 : (a1 / 10) = 2) (r2 : 0 ≤ ((a1 - a1 / 10 * 10)).toInt ∧ ((a1 - a1 / 10 * 10)).toInt ≤ 5) : mi_P 97 193 [.int a1] := by
  refine ⟨.int (-11), mi_G, mi_G, (mi_h97, mi_c97), (mi_h193, mi_c193), 5, 4, rfl, rfl, rfl, by decide, by decide, ?_, ?_⟩
  · refine mi_met_of (y := 97) (q := (mi_h97, mi_c97)) rfl (by decide) (Nat.le_of_ble_eq_true rfl) ?_
    refine mi_sem_steps mi_in97 (mi_calok_none _ _) 1 _ (1, [(0, .ref 0), (1, .int a1)], [.int a1], (0, 0), mi_G) (by rfl) ?_
    have hM1029 : mi_Met mi_N0 3 mi_h122 [.int a1] mi_G (some (.int 1)) mi_G := by
      refine mi_met_of (y := 122) (q := (mi_h122, mi_c122)) rfl (by decide) (Nat.le_of_ble_eq_true rfl) ?_
      refine mi_sem_steps mi_in122 (mi_calok_none _ _) 1 _ (1, [(0, .int a1)], [.int a1], (0, 0), mi_G) (by rfl) ?_
      refine mi_sem_b mi_in122 (decide (a1 < 0)) false (mi_ltF (0) (by decide) (by omega)) 28 4 ([(0, .int a1)], [], (0, 0), mi_G) (by rfl) ?_
      refine mi_sem_steps mi_in122 (mi_calok_none _ _) 3 _ (8, [(0, .int a1)], [.int ((a1 / 10))], (0, 0), mi_G) (by rfl) ?_
      refine mi_sem_eq (x1 := (8, [(0, .int a1)], [.int 2], (0, 0), mi_G)) (by rw [q1]) ?_
      have hM1026 : mi_Met mi_N0 2 mi_h121 [.int 2] mi_G (some (.int 1)) mi_G := mi_fun_ok mi_N0 2 121 (mi_h121, mi_c121) _ _ _ _ rfl (mi_eR_ok (by decide +kernel))
      refine mi_sem_call mi_in122 (i := (.invokestatic 70, 3, 121, 0, 9, 0, 157)) (by rfl) (by rfl) hM1026 (by decide) ⟨Nat.le_of_ble_eq_true rfl, Nat.le_of_ble_eq_true rfl⟩ ?_
      refine mi_sem_steps mi_in122 (mi_calok_none _ _) 4 _ (18, [(0, .int a1)], [.int ((a1 - a1 / 10 * 10))], (0, 0), mi_G) (by rfl) ?_
      have hM1028 : mi_Met mi_N0 2 mi_h121 [.int ((a1 - a1 / 10 * 10))] mi_G (some (.int 1)) mi_G := by
        refine mi_met_of (y := 121) (q := (mi_h121, mi_c121)) rfl (by decide) (Nat.le_of_ble_eq_true rfl) ?_
        refine mi_sem_steps mi_in121 (mi_calok_none _ _) 3 _ (3, [(0, .int ((a1 - a1 / 10 * 10)))], [.int 5, .int 0, .int ((a1 - a1 / 10 * 10))], (0, 0), mi_G) (by rfl) ?_
        have hM1027 : mi_Met mi_N0 1 mi_h120 [.int ((a1 - a1 / 10 * 10)), .int 0, .int 5] mi_G (some (.int 1)) mi_G := by
          refine mi_met_of (y := 120) (q := (mi_h120, mi_c120)) rfl (by decide) (Nat.le_of_ble_eq_true rfl) ?_
          refine mi_sem_steps mi_in120 (mi_calok_none _ _) 2 _ (2, [(0, .int ((a1 - a1 / 10 * 10))), (1, .int 0), (2, .int 5)], [.int 0, .int ((a1 - a1 / 10 * 10))], (0, 0), mi_G) (by rfl) ?_
          refine mi_sem_b mi_in120 (decide (((a1 - a1 / 10 * 10)) < 0)) false (mi_ltF (0) (by decide) (by omega)) 14 5 ([(0, .int ((a1 - a1 / 10 * 10))), (1, .int 0), (2, .int 5)], [], (0, 0), mi_G) (by rfl) ?_
          refine mi_sem_steps mi_in120 (mi_calok_none _ _) 2 _ (7, [(0, .int ((a1 - a1 / 10 * 10))), (1, .int 0), (2, .int 5)], [.int 5, .int ((a1 - a1 / 10 * 10))], (0, 0), mi_G) (by rfl) ?_
          refine mi_sem_b mi_in120 (decide (5 < ((a1 - a1 / 10 * 10)))) false (mi_ltF2 (5) (by decide) (by omega)) 14 10 ([(0, .int ((a1 - a1 / 10 * 10))), (1, .int 0), (2, .int 5)], [], (0, 0), mi_G) (by rfl) ?_
          refine mi_sem_steps mi_in120 (mi_calok_none _ _) 2 _ (15, [(0, .int ((a1 - a1 / 10 * 10))), (1, .int 0), (2, .int 5)], [.int 1], (0, 0), mi_G) (by rfl) ?_
          exact mi_sem_ret (cal := fun _ _ _ => none) mi_in120 (by rfl)
        refine mi_sem_call mi_in121 (i := (.invokestatic 74, 3, 120, 0, 9, 0, 152)) (by rfl) (by rfl) hM1027 (by decide) ⟨Nat.le_of_ble_eq_true rfl, Nat.le_of_ble_eq_true rfl⟩ ?_
        exact mi_sem_ret (cal := fun _ _ _ => none) mi_in121 (by rfl)
      refine mi_sem_call mi_in122 (i := (.invokestatic 70, 3, 121, 0, 9, 0, 157)) (by rfl) (by rfl) hM1028 (by decide) ⟨Nat.le_of_ble_eq_true rfl, Nat.le_of_ble_eq_true rfl⟩ ?_
      refine mi_sem_steps mi_in122 (mi_calok_none _ _) 3 _ (29, [(0, .int a1)], [.int 1], (0, 0), mi_G) (by rfl) ?_
      exact mi_sem_ret (cal := fun _ _ _ => none) mi_in122 (by rfl)
    refine mi_sem_call mi_in97 (i := (.invokestatic 214, 3, 122, 0, 9, 0, 260)) (by rfl) (by rfl) hM1029 (by decide) ⟨Nat.le_of_ble_eq_true rfl, Nat.le_of_ble_eq_true rfl⟩ ?_
    refine mi_sem_steps mi_in97 (mi_calok_none _ _) 5 _ (14, [(0, .ref 0), (1, .int a1)], [.int ((a1 / 10)), .ref 0], (0, 0), mi_G) (by rfl) ?_
    refine mi_sem_eq (x1 := (14, [(0, .ref 0), (1, .int a1)], [.int 2, .ref 0], (0, 0), mi_G)) (by rw [q1]) ?_
    have hM1030 : mi_Met mi_N0 4 mi_h129 [.ref 0, .int 2] mi_G (some (.int (-11))) mi_G := mi_fun_ok mi_N0 4 129 (mi_h129, mi_c129) _ _ _ _ rfl (mi_eR_ok (by decide +kernel))
    refine mi_sem_call mi_in97 (i := (.invokevirtual 144, 3, 129, 0, 9, 0, 208)) (by rfl) (by rfl) hM1030 (by decide) ⟨Nat.le_of_ble_eq_true rfl, Nat.le_of_ble_eq_true rfl⟩ ?_
    refine mi_sem_steps mi_in97 (mi_calok_none _ _) 6 _ (36, [(2, .int (-11)), (0, .ref 0), (1, .int a1)], [.int (-11)], (0, 0), mi_G) (by rfl) ?_
    exact mi_sem_ret (cal := fun _ _ _ => none) mi_in97 (by rfl)
  · refine mi_met_of (y := 193) (q := (mi_h193, mi_c193)) rfl (by decide) (Nat.le_of_ble_eq_true rfl) ?_
    refine mi_sem_steps mi_in193 (mi_calok_none _ _) 2 _ (2, [(0, .ref 116), (1, .int a1)], [.int a1, .ref 116], (0, 0), mi_G) (by rfl) ?_
    have hM1034 : mi_Met mi_N0 3 mi_h190 [.ref 116, .int a1] mi_G (some (.int 1)) mi_G := by
      refine mi_met_of (y := 190) (q := (mi_h190, mi_c190)) rfl (by decide) (Nat.le_of_ble_eq_true rfl) ?_
      refine mi_sem_steps mi_in190 (mi_calok_none _ _) 1 _ (1, [(0, .ref 116), (1, .int a1)], [.int a1], (0, 0), mi_G) (by rfl) ?_
      refine mi_sem_b mi_in190 (decide (a1 < 0)) false (mi_ltF (0) (by decide) (by omega)) 28 4 ([(0, .ref 116), (1, .int a1)], [], (0, 0), mi_G) (by rfl) ?_
      refine mi_sem_steps mi_in190 (mi_calok_none _ _) 3 _ (8, [(0, .ref 116), (1, .int a1)], [.int ((a1 / 10))], (0, 0), mi_G) (by rfl) ?_
      refine mi_sem_eq (x1 := (8, [(0, .ref 116), (1, .int a1)], [.int 2], (0, 0), mi_G)) (by rw [q1]) ?_
      have hM1031 : mi_Met mi_N0 2 mi_h133 [.int 2] mi_G (some (.int 1)) mi_G := mi_fun_ok mi_N0 2 133 (mi_h133, mi_c133) _ _ _ _ rfl (mi_eR_ok (by decide +kernel))
      refine mi_sem_call mi_in190 (i := (.invokestatic 127, 3, 133, 0, 9, 0, 382)) (by rfl) (by rfl) hM1031 (by decide) ⟨Nat.le_of_ble_eq_true rfl, Nat.le_of_ble_eq_true rfl⟩ ?_
      refine mi_sem_steps mi_in190 (mi_calok_none _ _) 4 _ (18, [(0, .ref 116), (1, .int a1)], [.int ((a1 - a1 / 10 * 10))], (0, 0), mi_G) (by rfl) ?_
      have hM1033 : mi_Met mi_N0 2 mi_h133 [.int ((a1 - a1 / 10 * 10))] mi_G (some (.int 1)) mi_G := by
        refine mi_met_of (y := 133) (q := (mi_h133, mi_c133)) rfl (by decide) (Nat.le_of_ble_eq_true rfl) ?_
        refine mi_sem_steps mi_in133 (mi_calok_none _ _) 3 _ (3, [(0, .int ((a1 - a1 / 10 * 10)))], [.int 5, .int 0, .int ((a1 - a1 / 10 * 10))], (0, 0), mi_G) (by rfl) ?_
        have hM1032 : mi_Met mi_N0 1 mi_h131 [.int ((a1 - a1 / 10 * 10)), .int 0, .int 5] mi_G (some (.int 1)) mi_G := by
          refine mi_met_of (y := 131) (q := (mi_h131, mi_c131)) rfl (by decide) (Nat.le_of_ble_eq_true rfl) ?_
          refine mi_sem_steps mi_in131 (mi_calok_none _ _) 2 _ (2, [(0, .int ((a1 - a1 / 10 * 10))), (1, .int 0), (2, .int 5)], [.int 0, .int ((a1 - a1 / 10 * 10))], (0, 0), mi_G) (by rfl) ?_
          refine mi_sem_b mi_in131 (decide (((a1 - a1 / 10 * 10)) < 0)) false (mi_ltF (0) (by decide) (by omega)) 14 5 ([(0, .int ((a1 - a1 / 10 * 10))), (1, .int 0), (2, .int 5)], [], (0, 0), mi_G) (by rfl) ?_
          refine mi_sem_steps mi_in131 (mi_calok_none _ _) 2 _ (7, [(0, .int ((a1 - a1 / 10 * 10))), (1, .int 0), (2, .int 5)], [.int 5, .int ((a1 - a1 / 10 * 10))], (0, 0), mi_G) (by rfl) ?_
          refine mi_sem_b mi_in131 (decide (5 < ((a1 - a1 / 10 * 10)))) false (mi_ltF2 (5) (by decide) (by omega)) 14 10 ([(0, .int ((a1 - a1 / 10 * 10))), (1, .int 0), (2, .int 5)], [], (0, 0), mi_G) (by rfl) ?_
          refine mi_sem_steps mi_in131 (mi_calok_none _ _) 2 _ (15, [(0, .int ((a1 - a1 / 10 * 10))), (1, .int 0), (2, .int 5)], [.int 1], (0, 0), mi_G) (by rfl) ?_
          exact mi_sem_ret (cal := fun _ _ _ => none) mi_in131 (by rfl)
        refine mi_sem_call mi_in133 (i := (.invokestatic 119, 3, 131, 0, 9, 0, 379)) (by rfl) (by rfl) hM1032 (by decide) ⟨Nat.le_of_ble_eq_true rfl, Nat.le_of_ble_eq_true rfl⟩ ?_
        exact mi_sem_ret (cal := fun _ _ _ => none) mi_in133 (by rfl)
      refine mi_sem_call mi_in190 (i := (.invokestatic 127, 3, 133, 0, 9, 0, 382)) (by rfl) (by rfl) hM1033 (by decide) ⟨Nat.le_of_ble_eq_true rfl, Nat.le_of_ble_eq_true rfl⟩ ?_
      refine mi_sem_steps mi_in190 (mi_calok_none _ _) 3 _ (29, [(0, .ref 116), (1, .int a1)], [.int 1], (0, 0), mi_G) (by rfl) ?_
      exact mi_sem_ret (cal := fun _ _ _ => none) mi_in190 (by rfl)
    refine mi_sem_call mi_in193 (i := (.invokevirtual 314, 3, 190, 0, 9, 0, 442)) (by rfl) (by rfl) hM1034 (by decide) ⟨Nat.le_of_ble_eq_true rfl, Nat.le_of_ble_eq_true rfl⟩ ?_
    refine mi_sem_steps mi_in193 (mi_calok_none _ _) 3 _ (12, [(0, .ref 116), (1, .int a1)], [.int a1, .ref 116], (0, 0), mi_G) (by rfl) ?_
    have hM1036 : mi_Met mi_N0 2 mi_h191 [.ref 116, .int a1] mi_G (some (.int (-11))) mi_G := by
      refine mi_met_of (y := 191) (q := (mi_h191, mi_c191)) rfl (by decide) (Nat.le_of_ble_eq_true rfl) ?_
      refine mi_sem_steps mi_in191 (mi_calok_none _ _) 4 _ (5, [(0, .ref 116), (1, .int a1)], [.int ((a1 / 10)), .ref 116], (0, 0), mi_G) (by rfl) ?_
      refine mi_sem_eq (x1 := (5, [(0, .ref 116), (1, .int a1)], [.int 2, .ref 116], (0, 0), mi_G)) (by rw [q1]) ?_
      have hM1035 : mi_Met mi_N0 1 mi_h173 [.ref 116, .int 2] mi_G (some (.int (-11))) mi_G := mi_fun_ok mi_N0 1 173 (mi_h173, mi_c173) _ _ _ _ rfl (mi_eR_ok (by decide +kernel))
      refine mi_sem_call mi_in191 (i := (.invokevirtual 276, 3, 173, 0, 9, 0, 410)) (by rfl) (by rfl) hM1035 (by decide) ⟨Nat.le_of_ble_eq_true rfl, Nat.le_of_ble_eq_true rfl⟩ ?_
      refine mi_sem_steps mi_in191 (mi_calok_none _ _) 5 _ (25, [(2, .int (-11)), (0, .ref 116), (1, .int a1)], [.int (-11)], (0, 0), mi_G) (by rfl) ?_
      exact mi_sem_ret (cal := fun _ _ _ => none) mi_in191 (by rfl)
    refine mi_sem_call mi_in193 (i := (.invokevirtual 317, 3, 191, 0, 9, 0, 443)) (by rfl) (by rfl) hM1036 (by decide) ⟨Nat.le_of_ble_eq_true rfl, Nat.le_of_ble_eq_true rfl⟩ ?_
    refine mi_sem_steps mi_in193 (mi_calok_none _ _) 4 _ (21, [(2, .int (-11)), (0, .ref 116), (1, .int a1)], [.int (-11)], (0, 0), mi_G) (by rfl) ?_
    exact mi_sem_ret (cal := fun _ _ _ => none) mi_in193 (by rfl)

set_option maxRecDepth 100000 in
set_option maxHeartbeats 4000000 in
theorem mp_judge_6 (a1 : Int32) (r0 : 0 ≤ (a1).toInt ∧ (a1).toInt ≤ 2147483647) (q1 : (a1 / 10) = 3) (r2 : 0 ≤ ((a1 - a1 / 10 * 10)).toInt ∧ ((a1 - a1 / 10 * 10)).toInt ≤ 5) : mi_P 97 193 [.int a1] := by
  refine ⟨.int (-11), mi_G, mi_G, (mi_h97, mi_c97), (mi_h193, mi_c193), 5, 4, rfl, rfl, rfl, by decide, by decide, ?_, ?_⟩
  · refine mi_met_of (y := 97) (q := (mi_h97, mi_c97)) rfl (by decide) (Nat.le_of_ble_eq_true rfl) ?_
    refine mi_sem_steps mi_in97 (mi_calok_none _ _) 1 _ (1, [(0, .ref 0), (1, .int a1)], [.int a1], (0, 0), mi_G) (by rfl) ?_
    have hM1047 : mi_Met mi_N0 3 mi_h122 [.int a1] mi_G (some (.int 1)) mi_G := by
      refine mi_met_of (y := 122) (q := (mi_h122, mi_c122)) rfl (by decide) (Nat.le_of_ble_eq_true rfl) ?_
      refine mi_sem_steps mi_in122 (mi_calok_none _ _) 1 _ (1, [(0, .int a1)], [.int a1], (0, 0), mi_G) (by rfl) ?_
      refine mi_sem_b mi_in122 (decide (a1 < 0)) false (mi_ltF (0) (by decide) (by omega)) 28 4 ([(0, .int a1)], [], (0, 0), mi_G) (by rfl) ?_
      refine mi_sem_steps mi_in122 (mi_calok_none _ _) 3 _ (8, [(0, .int a1)], [.int ((a1 / 10))], (0, 0), mi_G) (by rfl) ?_
      refine mi_sem_eq (x1 := (8, [(0, .int a1)], [.int 3], (0, 0), mi_G)) (by rw [q1]) ?_
      have hM1044 : mi_Met mi_N0 2 mi_h121 [.int 3] mi_G (some (.int 1)) mi_G := mi_fun_ok mi_N0 2 121 (mi_h121, mi_c121) _ _ _ _ rfl (mi_eR_ok (by decide +kernel))
      refine mi_sem_call mi_in122 (i := (.invokestatic 70, 3, 121, 0, 9, 0, 157)) (by rfl) (by rfl) hM1044 (by decide) ⟨Nat.le_of_ble_eq_true rfl, Nat.le_of_ble_eq_true rfl⟩ ?_
      refine mi_sem_steps mi_in122 (mi_calok_none _ _) 4 _ (18, [(0, .int a1)], [.int ((a1 - a1 / 10 * 10))], (0, 0), mi_G) (by rfl) ?_
      have hM1046 : mi_Met mi_N0 2 mi_h121 [.int ((a1 - a1 / 10 * 10))] mi_G (some (.int 1)) mi_G := by
        refine mi_met_of (y := 121) (q := (mi_h121, mi_c121)) rfl (by decide) (Nat.le_of_ble_eq_true rfl) ?_
        refine mi_sem_steps mi_in121 (mi_calok_none _ _) 3 _ (3, [(0, .int ((a1 - a1 / 10 * 10)))], [.int 5, .int 0, .int ((a1 - a1 / 10 * 10))], (0, 0), mi_G) (by rfl) ?_
        have hM1045 : mi_Met mi_N0 1 mi_h120 [.int ((a1 - a1 / 10 * 10)), .int 0, .int 5] mi_G (some (.int 1)) mi_G := by
          refine mi_met_of (y := 120) (q := (mi_h120, mi_c120)) rfl (by decide) (Nat.le_of_ble_eq_true rfl) ?_
          refine mi_sem_steps mi_in120 (mi_calok_none _ _) 2 _ (2, [(0, .int ((a1 - a1 / 10 * 10))), (1, .int 0), (2, .int 5)], [.int 0, .int ((a1 - a1 / 10 * 10))], (0, 0), mi_G) (by rfl) ?_
          refine mi_sem_b mi_in120 (decide (((a1 - a1 / 10 * 10)) < 0)) false (mi_ltF (0) (by decide) (by omega)) 14 5 ([(0, .int ((a1 - a1 / 10 * 10))), (1, .int 0), (2, .int 5)], [], (0, 0), mi_G) (by rfl) ?_
          refine mi_sem_steps mi_in120 (mi_calok_none _ _) 2 _ (7, [(0, .int ((a1 - a1 / 10 * 10))), (1, .int 0), (2, .int 5)], [.int 5, .int ((a1 - a1 / 10 * 10))], (0, 0), mi_G) (by rfl) ?_
          refine mi_sem_b mi_in120 (decide (5 < ((a1 - a1 / 10 * 10)))) false (mi_ltF2 (5) (by decide) (by omega)) 14 10 ([(0, .int ((a1 - a1 / 10 * 10))), (1, .int 0), (2, .int 5)], [], (0, 0), mi_G) (by rfl) ?_
          refine mi_sem_steps mi_in120 (mi_calok_none _ _) 2 _ (15, [(0, .int ((a1 - a1 / 10 * 10))), (1, .int 0), (2, .int 5)], [.int 1], (0, 0), mi_G) (by rfl) ?_
          exact mi_sem_ret (cal := fun _ _ _ => none) mi_in120 (by rfl)
        refine mi_sem_call mi_in121 (i := (.invokestatic 74, 3, 120, 0, 9, 0, 152)) (by rfl) (by rfl) hM1045 (by decide) ⟨Nat.le_of_ble_eq_true rfl, Nat.le_of_ble_eq_true rfl⟩ ?_
        exact mi_sem_ret (cal := fun _ _ _ => none) mi_in121 (by rfl)
      refine mi_sem_call mi_in122 (i := (.invokestatic 70, 3, 121, 0, 9, 0, 157)) (by rfl) (by rfl) hM1046 (by decide) ⟨Nat.le_of_ble_eq_true rfl, Nat.le_of_ble_eq_true rfl⟩ ?_
      refine mi_sem_steps mi_in122 (mi_calok_none _ _) 3 _ (29, [(0, .int a1)], [.int 1], (0, 0), mi_G) (by rfl) ?_
      exact mi_sem_ret (cal := fun _ _ _ => none) mi_in122 (by rfl)
    refine mi_sem_call mi_in97 (i := (.invokestatic 214, 3, 122, 0, 9, 0, 260)) (by rfl) (by rfl) hM1047 (by decide) ⟨Nat.le_of_ble_eq_true rfl, Nat.le_of_ble_eq_true rfl⟩ ?_
    refine mi_sem_steps mi_in97 (mi_calok_none _ _) 5 _ (14, [(0, .ref 0), (1, .int a1)], [.int ((a1 / 10)), .ref 0], (0, 0), mi_G) (by rfl) ?_
    refine mi_sem_eq (x1 := (14, [(0, .ref 0), (1, .int a1)], [.int 3, .ref 0], (0, 0), mi_G)) (by rw [q1]) ?_
    have hM1048 : mi_Met mi_N0 4 mi_h129 [.ref 0, .int 3] mi_G (some (.int (-11))) mi_G := mi_fun_ok mi_N0 4 129 (mi_h129, mi_c129) _ _ _ _ rfl (mi_eR_ok (by decide +kernel))
    refine mi_sem_call mi_in97 (i := (.invokevirtual 144, 3, 129, 0, 9, 0, 208)) (by rfl) (by rfl) hM1048 (by decide) ⟨Nat.le_of_ble_eq_true rfl, Nat.le_of_ble_eq_true rfl⟩ ?_
    refine mi_sem_steps mi_in97 (mi_calok_none _ _) 6 _ (36, [(2, .int (-11)), (0, .ref 0), (1, .int a1)], [.int (-11)], (0, 0), mi_G) (by rfl) ?_
    exact mi_sem_ret (cal := fun _ _ _ => none) mi_in97 (by rfl)
  · refine mi_met_of (y := 193) (q := (mi_h193, mi_c193)) rfl (by decide) (Nat.le_of_ble_eq_true rfl) ?_
    refine mi_sem_steps mi_in193 (mi_calok_none _ _) 2 _ (2, [(0, .ref 116), (1, .int a1)], [.int a1, .ref 116], (0, 0), mi_G) (by rfl) ?_
    have hM1052 : mi_Met mi_N0 3 mi_h190 [.ref 116, .int a1] mi_G (some (.int 1)) mi_G := by
      refine mi_met_of (y := 190) (q := (mi_h190, mi_c190)) rfl (by decide) (Nat.le_of_ble_eq_true rfl) ?_
      refine mi_sem_steps mi_in190 (mi_calok_none _ _) 1 _ (1, [(0, .ref 116), (1, .int a1)], [.int a1], (0, 0), mi_G) (by rfl) ?_
      refine mi_sem_b mi_in190 (decide (a1 < 0)) false (mi_ltF (0) (by decide) (by omega)) 28 4 ([(0, .ref 116), (1, .int a1)], [], (0, 0), mi_G) (by rfl) ?_
      refine mi_sem_steps mi_in190 (mi_calok_none _ _) 3 _ (8, [(0, .ref 116), (1, .int a1)], [.int ((a1 / 10))], (0, 0), mi_G) (by rfl) ?_
      refine mi_sem_eq (x1 := (8, [(0, .ref 116), (1, .int a1)], [.int 3], (0, 0), mi_G)) (by rw [q1]) ?_
      have hM1049 : mi_Met mi_N0 2 mi_h133 [.int 3] mi_G (some (.int 1)) mi_G := mi_fun_ok mi_N0 2 133 (mi_h133, mi_c133) _ _ _ _ rfl (mi_eR_ok (by decide +kernel))
      refine mi_sem_call mi_in190 (i := (.invokestatic 127, 3, 133, 0, 9, 0, 382)) (by rfl) (by rfl) hM1049 (by decide) ⟨Nat.le_of_ble_eq_true rfl, Nat.le_of_ble_eq_true rfl⟩ ?_
      refine mi_sem_steps mi_in190 (mi_calok_none _ _) 4 _ (18, [(0, .ref 116), (1, .int a1)], [.int ((a1 - a1 / 10 * 10))], (0, 0), mi_G) (by rfl) ?_
      have hM1051 : mi_Met mi_N0 2 mi_h133 [.int ((a1 - a1 / 10 * 10))] mi_G (some (.int 1)) mi_G := by
        refine mi_met_of (y := 133) (q := (mi_h133, mi_c133)) rfl (by decide) (Nat.le_of_ble_eq_true rfl) ?_
        refine mi_sem_steps mi_in133 (mi_calok_none _ _) 3 _ (3, [(0, .int ((a1 - a1 / 10 * 10)))], [.int 5, .int 0, .int ((a1 - a1 / 10 * 10))], (0, 0), mi_G) (by rfl) ?_
        have hM1050 : mi_Met mi_N0 1 mi_h131 [.int ((a1 - a1 / 10 * 10)), .int 0, .int 5] mi_G (some (.int 1)) mi_G := by
          refine mi_met_of (y := 131) (q := (mi_h131, mi_c131)) rfl (by decide) (Nat.le_of_ble_eq_true rfl) ?_
          refine mi_sem_steps mi_in131 (mi_calok_none _ _) 2 _ (2, [(0, .int ((a1 - a1 / 10 * 10))), (1, .int 0), (2, .int 5)], [.int 0, .int ((a1 - a1 / 10 * 10))], (0, 0), mi_G) (by rfl) ?_
          refine mi_sem_b mi_in131 (decide (((a1 - a1 / 10 * 10)) < 0)) false (mi_ltF (0) (by decide) (by omega)) 14 5 ([(0, .int ((a1 - a1 / 10 * 10))), (1, .int 0), (2, .int 5)], [], (0, 0), mi_G) (by rfl) ?_
          refine mi_sem_steps mi_in131 (mi_calok_none _ _) 2 _ (7, [(0, .int ((a1 - a1 / 10 * 10))), (1, .int 0), (2, .int 5)], [.int 5, .int ((a1 - a1 / 10 * 10))], (0, 0), mi_G) (by rfl) ?_
          refine mi_sem_b mi_in131 (decide (5 < ((a1 - a1 / 10 * 10)))) false (mi_ltF2 (5) (by decide) (by omega)) 14 10 ([(0, .int ((a1 - a1 / 10 * 10))), (1, .int 0), (2, .int 5)], [], (0, 0), mi_G) (by rfl) ?_
          refine mi_sem_steps mi_in131 (mi_calok_none _ _) 2 _ (15, [(0, .int ((a1 - a1 / 10 * 10))), (1, .int 0), (2, .int 5)], [.int 1], (0, 0), mi_G) (by rfl) ?_
          exact mi_sem_ret (cal := fun _ _ _ => none) mi_in131 (by rfl)
        refine mi_sem_call mi_in133 (i := (.invokestatic 119, 3, 131, 0, 9, 0, 379)) (by rfl) (by rfl) hM1050 (by decide) ⟨Nat.le_of_ble_eq_true rfl, Nat.le_of_ble_eq_true rfl⟩ ?_
        exact mi_sem_ret (cal := fun _ _ _ => none) mi_in133 (by rfl)
      refine mi_sem_call mi_in190 (i := (.invokestatic 127, 3, 133, 0, 9, 0, 382)) (by rfl) (by rfl) hM1051 (by decide) ⟨Nat.le_of_ble_eq_true rfl, Nat.le_of_ble_eq_true rfl⟩ ?_
      refine mi_sem_steps mi_in190 (mi_calok_none _ _) 3 _ (29, [(0, .ref 116), (1, .int a1)], [.int 1], (0, 0), mi_G) (by rfl) ?_
      exact mi_sem_ret (cal := fun _ _ _ => none) mi_in190 (by rfl)
    refine mi_sem_call mi_in193 (i := (.invokevirtual 314, 3, 190, 0, 9, 0, 442)) (by rfl) (by rfl) hM1052 (by decide) ⟨Nat.le_of_ble_eq_true rfl, Nat.le_of_ble_eq_true rfl⟩ ?_
    refine mi_sem_steps mi_in193 (mi_calok_none _ _) 3 _ (12, [(0, .ref 116), (1, .int a1)], [.int a1, .ref 116], (0, 0), mi_G) (by rfl) ?_
    have hM1054 : mi_Met mi_N0 2 mi_h191 [.ref 116, .int a1] mi_G (some (.int (-11))) mi_G := by
      refine mi_met_of (y := 191) (q := (mi_h191, mi_c191)) rfl (by decide) (Nat.le_of_ble_eq_true rfl) ?_
      refine mi_sem_steps mi_in191 (mi_calok_none _ _) 4 _ (5, [(0, .ref 116), (1, .int a1)], [.int ((a1 / 10)), .ref 116], (0, 0), mi_G) (by rfl) ?_
      refine mi_sem_eq (x1 := (5, [(0, .ref 116), (1, .int a1)], [.int 3, .ref 116], (0, 0), mi_G)) (by rw [q1]) ?_
      have hM1053 : mi_Met mi_N0 1 mi_h173 [.ref 116, .int 3] mi_G (some (.int (-11))) mi_G := mi_fun_ok mi_N0 1 173 (mi_h173, mi_c173) _ _ _ _ rfl (mi_eR_ok (by decide +kernel))
      refine mi_sem_call mi_in191 (i := (.invokevirtual 276, 3, 173, 0, 9, 0, 410)) (by rfl) (by rfl) hM1053 (by decide) ⟨Nat.le_of_ble_eq_true rfl, Nat.le_of_ble_eq_true rfl⟩ ?_
      refine mi_sem_steps mi_in191 (mi_calok_none _ _) 5 _ (25, [(2, .int (-11)), (0, .ref 116), (1, .int a1)], [.int (-11)], (0, 0), mi_G) (by rfl) ?_
      exact mi_sem_ret (cal := fun _ _ _ => none) mi_in191 (by rfl)
    refine mi_sem_call mi_in193 (i := (.invokevirtual 317, 3, 191, 0, 9, 0, 443)) (by rfl) (by rfl) hM1054 (by decide) ⟨Nat.le_of_ble_eq_true rfl, Nat.le_of_ble_eq_true rfl⟩ ?_
    refine mi_sem_steps mi_in193 (mi_calok_none _ _) 4 _ (21, [(2, .int (-11)), (0, .ref 116), (1, .int a1)], [.int (-11)], (0, 0), mi_G) (by rfl) ?_
    exact mi_sem_ret (cal := fun _ _ _ => none) mi_in193 (by rfl)

set_option maxRecDepth 100000 in
set_option maxHeartbeats 4000000 in
theorem mp_judge_7 (a1 : Int32) (r0 : 0 ≤ (a1).toInt ∧ (a1).toInt ≤ 2147483647) (q1 : (a1 / 10) = 4) (r2 : 0 ≤ ((a1 - a1 / 10 * 10)).toInt ∧ ((a1 - a1 / 10 * 10)).toInt ≤ 5) : mi_P 97 193 [.int a1] := by
  refine ⟨.int (-11), mi_G, mi_G, (mi_h97, mi_c97), (mi_h193, mi_c193), 5, 4, rfl, rfl, rfl, by decide, by decide, ?_, ?_⟩
  · refine mi_met_of (y := 97) (q := (mi_h97, mi_c97)) rfl (by decide) (Nat.le_of_ble_eq_true rfl) ?_
    refine mi_sem_steps mi_in97 (mi_calok_none _ _) 1 _ (1, [(0, .ref 0), (1, .int a1)], [.int a1], (0, 0), mi_G) (by rfl) ?_
    have hM1065 : mi_Met mi_N0 3 mi_h122 [.int a1] mi_G (some (.int 1)) mi_G := by
      refine mi_met_of (y := 122) (q := (mi_h122, mi_c122)) rfl (by decide) (Nat.le_of_ble_eq_true rfl) ?_
      refine mi_sem_steps mi_in122 (mi_calok_none _ _) 1 _ (1, [(0, .int a1)], [.int a1], (0, 0), mi_G) (by rfl) ?_
      refine mi_sem_b mi_in122 (decide (a1 < 0)) false (mi_ltF (0) (by decide) (by omega)) 28 4 ([(0, .int a1)], [], (0, 0), mi_G) (by rfl) ?_
      refine mi_sem_steps mi_in122 (mi_calok_none _ _) 3 _ (8, [(0, .int a1)], [.int ((a1 / 10))], (0, 0), mi_G) (by rfl) ?_
      refine mi_sem_eq (x1 := (8, [(0, .int a1)], [.int 4], (0, 0), mi_G)) (by rw [q1]) ?_
      have hM1062 : mi_Met mi_N0 2 mi_h121 [.int 4] mi_G (some (.int 1)) mi_G := mi_fun_ok mi_N0 2 121 (mi_h121, mi_c121) _ _ _ _ rfl (mi_eR_ok (by decide +kernel))
      refine mi_sem_call mi_in122 (i := (.invokestatic 70, 3, 121, 0, 9, 0, 157)) (by rfl) (by rfl) hM1062 (by decide) ⟨Nat.le_of_ble_eq_true rfl, Nat.le_of_ble_eq_true rfl⟩ ?_
      refine mi_sem_steps mi_in122 (mi_calok_none _ _) 4 _ (18, [(0, .int a1)], [.int ((a1 - a1 / 10 * 10))], (0, 0), mi_G) (by rfl) ?_
      have hM1064 : mi_Met mi_N0 2 mi_h121 [.int ((a1 - a1 / 10 * 10))] mi_G (some (.int 1)) mi_G := by
        refine mi_met_of (y := 121) (q := (mi_h121, mi_c121)) rfl (by decide) (Nat.le_of_ble_eq_true rfl) ?_
        refine mi_sem_steps mi_in121 (mi_calok_none _ _) 3 _ (3, [(0, .int ((a1 - a1 / 10 * 10)))], [.int 5, .int 0, .int ((a1 - a1 / 10 * 10))], (0, 0), mi_G) (by rfl) ?_
        have hM1063 : mi_Met mi_N0 1 mi_h120 [.int ((a1 - a1 / 10 * 10)), .int 0, .int 5] mi_G (some (.int 1)) mi_G := by
          refine mi_met_of (y := 120) (q := (mi_h120, mi_c120)) rfl (by decide) (Nat.le_of_ble_eq_true rfl) ?_
          refine mi_sem_steps mi_in120 (mi_calok_none _ _) 2 _ (2, [(0, .int ((a1 - a1 / 10 * 10))), (1, .int 0), (2, .int 5)], [.int 0, .int ((a1 - a1 / 10 * 10))], (0, 0), mi_G) (by rfl) ?_
          refine mi_sem_b mi_in120 (decide (((a1 - a1 / 10 * 10)) < 0)) false (mi_ltF (0) (by decide) (by omega)) 14 5 ([(0, .int ((a1 - a1 / 10 * 10))), (1, .int 0), (2, .int 5)], [], (0, 0), mi_G) (by rfl) ?_
          refine mi_sem_steps mi_in120 (mi_calok_none _ _) 2 _ (7, [(0, .int ((a1 - a1 / 10 * 10))), (1, .int 0), (2, .int 5)], [.int 5, .int ((a1 - a1 / 10 * 10))], (0, 0), mi_G) (by rfl) ?_
          refine mi_sem_b mi_in120 (decide (5 < ((a1 - a1 / 10 * 10)))) false (mi_ltF2 (5) (by decide) (by omega)) 14 10 ([(0, .int ((a1 - a1 / 10 * 10))), (1, .int 0), (2, .int 5)], [], (0, 0), mi_G) (by rfl) ?_
          refine mi_sem_steps mi_in120 (mi_calok_none _ _) 2 _ (15, [(0, .int ((a1 - a1 / 10 * 10))), (1, .int 0), (2, .int 5)], [.int 1], (0, 0), mi_G) (by rfl) ?_
          exact mi_sem_ret (cal := fun _ _ _ => none) mi_in120 (by rfl)
        refine mi_sem_call mi_in121 (i := (.invokestatic 74, 3, 120, 0, 9, 0, 152)) (by rfl) (by rfl) hM1063 (by decide) ⟨Nat.le_of_ble_eq_true rfl, Nat.le_of_ble_eq_true rfl⟩ ?_
        exact mi_sem_ret (cal := fun _ _ _ => none) mi_in121 (by rfl)
      refine mi_sem_call mi_in122 (i := (.invokestatic 70, 3, 121, 0, 9, 0, 157)) (by rfl) (by rfl) hM1064 (by decide) ⟨Nat.le_of_ble_eq_true rfl, Nat.le_of_ble_eq_true rfl⟩ ?_
      refine mi_sem_steps mi_in122 (mi_calok_none _ _) 3 _ (29, [(0, .int a1)], [.int 1], (0, 0), mi_G) (by rfl) ?_
      exact mi_sem_ret (cal := fun _ _ _ => none) mi_in122 (by rfl)
    refine mi_sem_call mi_in97 (i := (.invokestatic 214, 3, 122, 0, 9, 0, 260)) (by rfl) (by rfl) hM1065 (by decide) ⟨Nat.le_of_ble_eq_true rfl, Nat.le_of_ble_eq_true rfl⟩ ?_
    refine mi_sem_steps mi_in97 (mi_calok_none _ _) 5 _ (14, [(0, .ref 0), (1, .int a1)], [.int ((a1 / 10)), .ref 0], (0, 0), mi_G) (by rfl) ?_
    refine mi_sem_eq (x1 := (14, [(0, .ref 0), (1, .int a1)], [.int 4, .ref 0], (0, 0), mi_G)) (by rw [q1]) ?_
    have hM1066 : mi_Met mi_N0 4 mi_h129 [.ref 0, .int 4] mi_G (some (.int (-11))) mi_G := mi_fun_ok mi_N0 4 129 (mi_h129, mi_c129) _ _ _ _ rfl (mi_eR_ok (by decide +kernel))
    refine mi_sem_call mi_in97 (i := (.invokevirtual 144, 3, 129, 0, 9, 0, 208)) (by rfl) (by rfl) hM1066 (by decide) ⟨Nat.le_of_ble_eq_true rfl, Nat.le_of_ble_eq_true rfl⟩ ?_
    refine mi_sem_steps mi_in97 (mi_calok_none _ _) 6 _ (36, [(2, .int (-11)), (0, .ref 0), (1, .int a1)], [.int (-11)], (0, 0), mi_G) (by rfl) ?_
    exact mi_sem_ret (cal := fun _ _ _ => none) mi_in97 (by rfl)
  · refine mi_met_of (y := 193) (q := (mi_h193, mi_c193)) rfl (by decide) (Nat.le_of_ble_eq_true rfl) ?_
    refine mi_sem_steps mi_in193 (mi_calok_none _ _) 2 _ (2, [(0, .ref 116), (1, .int a1)], [.int a1, .ref 116], (0, 0), mi_G) (by rfl) ?_
    have hM1070 : mi_Met mi_N0 3 mi_h190 [.ref 116, .int a1] mi_G (some (.int 1)) mi_G := by
      refine mi_met_of (y := 190) (q := (mi_h190, mi_c190)) rfl (by decide) (Nat.le_of_ble_eq_true rfl) ?_
      refine mi_sem_steps mi_in190 (mi_calok_none _ _) 1 _ (1, [(0, .ref 116), (1, .int a1)], [.int a1], (0, 0), mi_G) (by rfl) ?_
      refine mi_sem_b mi_in190 (decide (a1 < 0)) false (mi_ltF (0) (by decide) (by omega)) 28 4 ([(0, .ref 116), (1, .int a1)], [], (0, 0), mi_G) (by rfl) ?_
      refine mi_sem_steps mi_in190 (mi_calok_none _ _) 3 _ (8, [(0, .ref 116), (1, .int a1)], [.int ((a1 / 10))], (0, 0), mi_G) (by rfl) ?_
      refine mi_sem_eq (x1 := (8, [(0, .ref 116), (1, .int a1)], [.int 4], (0, 0), mi_G)) (by rw [q1]) ?_
      have hM1067 : mi_Met mi_N0 2 mi_h133 [.int 4] mi_G (some (.int 1)) mi_G := mi_fun_ok mi_N0 2 133 (mi_h133, mi_c133) _ _ _ _ rfl (mi_eR_ok (by decide +kernel))
      refine mi_sem_call mi_in190 (i := (.invokestatic 127, 3, 133, 0, 9, 0, 382)) (by rfl) (by rfl) hM1067 (by decide) ⟨Nat.le_of_ble_eq_true rfl, Nat.le_of_ble_eq_true rfl⟩ ?_
      refine mi_sem_steps mi_in190 (mi_calok_none _ _) 4 _ (18, [(0, .ref 116), (1, .int a1)], [.int ((a1 - a1 / 10 * 10))], (0, 0), mi_G) (by rfl) ?_
      have hM1069 : mi_Met mi_N0 2 mi_h133 [.int ((a1 - a1 / 10 * 10))] mi_G (some (.int 1)) mi_G := by
        refine mi_met_of (y := 133) (q := (mi_h133, mi_c133)) rfl (by decide) (Nat.le_of_ble_eq_true rfl) ?_
        refine mi_sem_steps mi_in133 (mi_calok_none _ _) 3 _ (3, [(0, .int ((a1 - a1 / 10 * 10)))], [.int 5, .int 0, .int ((a1 - a1 / 10 * 10))], (0, 0), mi_G) (by rfl) ?_
        have hM1068 : mi_Met mi_N0 1 mi_h131 [.int ((a1 - a1 / 10 * 10)), .int 0, .int 5] mi_G (some (.int 1)) mi_G := by
          refine mi_met_of (y := 131) (q := (mi_h131, mi_c131)) rfl (by decide) (Nat.le_of_ble_eq_true rfl) ?_
          refine mi_sem_steps mi_in131 (mi_calok_none _ _) 2 _ (2, [(0, .int ((a1 - a1 / 10 * 10))), (1, .int 0), (2, .int 5)], [.int 0, .int ((a1 - a1 / 10 * 10))], (0, 0), mi_G) (by rfl) ?_
          refine mi_sem_b mi_in131 (decide (((a1 - a1 / 10 * 10)) < 0)) false (mi_ltF (0) (by decide) (by omega)) 14 5 ([(0, .int ((a1 - a1 / 10 * 10))), (1, .int 0), (2, .int 5)], [], (0, 0), mi_G) (by rfl) ?_
          refine mi_sem_steps mi_in131 (mi_calok_none _ _) 2 _ (7, [(0, .int ((a1 - a1 / 10 * 10))), (1, .int 0), (2, .int 5)], [.int 5, .int ((a1 - a1 / 10 * 10))], (0, 0), mi_G) (by rfl) ?_
          refine mi_sem_b mi_in131 (decide (5 < ((a1 - a1 / 10 * 10)))) false (mi_ltF2 (5) (by decide) (by omega)) 14 10 ([(0, .int ((a1 - a1 / 10 * 10))), (1, .int 0), (2, .int 5)], [], (0, 0), mi_G) (by rfl) ?_
          refine mi_sem_steps mi_in131 (mi_calok_none _ _) 2 _ (15, [(0, .int ((a1 - a1 / 10 * 10))), (1, .int 0), (2, .int 5)], [.int 1], (0, 0), mi_G) (by rfl) ?_
          exact mi_sem_ret (cal := fun _ _ _ => none) mi_in131 (by rfl)
        refine mi_sem_call mi_in133 (i := (.invokestatic 119, 3, 131, 0, 9, 0, 379)) (by rfl) (by rfl) hM1068 (by decide) ⟨Nat.le_of_ble_eq_true rfl, Nat.le_of_ble_eq_true rfl⟩ ?_
        exact mi_sem_ret (cal := fun _ _ _ => none) mi_in133 (by rfl)
      refine mi_sem_call mi_in190 (i := (.invokestatic 127, 3, 133, 0, 9, 0, 382)) (by rfl) (by rfl) hM1069 (by decide) ⟨Nat.le_of_ble_eq_true rfl, Nat.le_of_ble_eq_true rfl⟩ ?_
      refine mi_sem_steps mi_in190 (mi_calok_none _ _) 3 _ (29, [(0, .ref 116), (1, .int a1)], [.int 1], (0, 0), mi_G) (by rfl) ?_
      exact mi_sem_ret (cal := fun _ _ _ => none) mi_in190 (by rfl)
    refine mi_sem_call mi_in193 (i := (.invokevirtual 314, 3, 190, 0, 9, 0, 442)) (by rfl) (by rfl) hM1070 (by decide) ⟨Nat.le_of_ble_eq_true rfl, Nat.le_of_ble_eq_true rfl⟩ ?_
    refine mi_sem_steps mi_in193 (mi_calok_none _ _) 3 _ (12, [(0, .ref 116), (1, .int a1)], [.int a1, .ref 116], (0, 0), mi_G) (by rfl) ?_
    have hM1072 : mi_Met mi_N0 2 mi_h191 [.ref 116, .int a1] mi_G (some (.int (-11))) mi_G := by
      refine mi_met_of (y := 191) (q := (mi_h191, mi_c191)) rfl (by decide) (Nat.le_of_ble_eq_true rfl) ?_
      refine mi_sem_steps mi_in191 (mi_calok_none _ _) 4 _ (5, [(0, .ref 116), (1, .int a1)], [.int ((a1 / 10)), .ref 116], (0, 0), mi_G) (by rfl) ?_
      refine mi_sem_eq (x1 := (5, [(0, .ref 116), (1, .int a1)], [.int 4, .ref 116], (0, 0), mi_G)) (by rw [q1]) ?_
      have hM1071 : mi_Met mi_N0 1 mi_h173 [.ref 116, .int 4] mi_G (some (.int (-11))) mi_G := mi_fun_ok mi_N0 1 173 (mi_h173, mi_c173) _ _ _ _ rfl (mi_eR_ok (by decide +kernel))
      refine mi_sem_call mi_in191 (i := (.invokevirtual 276, 3, 173, 0, 9, 0, 410)) (by rfl) (by rfl) hM1071 (by decide) ⟨Nat.le_of_ble_eq_true rfl, Nat.le_of_ble_eq_true rfl⟩ ?_
      refine mi_sem_steps mi_in191 (mi_calok_none _ _) 5 _ (25, [(2, .int (-11)), (0, .ref 116), (1, .int a1)], [.int (-11)], (0, 0), mi_G) (by rfl) ?_
      exact mi_sem_ret (cal := fun _ _ _ => none) mi_in191 (by rfl)
    refine mi_sem_call mi_in193 (i := (.invokevirtual 317, 3, 191, 0, 9, 0, 443)) (by rfl) (by rfl) hM1072 (by decide) ⟨Nat.le_of_ble_eq_true rfl, Nat.le_of_ble_eq_true rfl⟩ ?_
    refine mi_sem_steps mi_in193 (mi_calok_none _ _) 4 _ (21, [(2, .int (-11)), (0, .ref 116), (1, .int a1)], [.int (-11)], (0, 0), mi_G) (by rfl) ?_
    exact mi_sem_ret (cal := fun _ _ _ => none) mi_in193 (by rfl)

set_option maxRecDepth 100000 in
set_option maxHeartbeats 4000000 in
theorem mp_judge_8 (a1 : Int32) (r0 : 0 ≤ (a1).toInt ∧ (a1).toInt ≤ 2147483647) (q1 : (a1 / 10) = 5) (r2 : 0 ≤ ((a1 - a1 / 10 * 10)).toInt ∧ ((a1 - a1 / 10 * 10)).toInt ≤ 5) : mi_P 97 193 [.int a1] := by
  refine ⟨.int (-11), mi_G, mi_G, (mi_h97, mi_c97), (mi_h193, mi_c193), 5, 4, rfl, rfl, rfl, by decide, by decide, ?_, ?_⟩
  · refine mi_met_of (y := 97) (q := (mi_h97, mi_c97)) rfl (by decide) (Nat.le_of_ble_eq_true rfl) ?_
    refine mi_sem_steps mi_in97 (mi_calok_none _ _) 1 _ (1, [(0, .ref 0), (1, .int a1)], [.int a1], (0, 0), mi_G) (by rfl) ?_
    have hM1076 : mi_Met mi_N0 3 mi_h122 [.int a1] mi_G (some (.int 1)) mi_G := by
      refine mi_met_of (y := 122) (q := (mi_h122, mi_c122)) rfl (by decide) (Nat.le_of_ble_eq_true rfl) ?_
      refine mi_sem_steps mi_in122 (mi_calok_none _ _) 1 _ (1, [(0, .int a1)], [.int a1], (0, 0), mi_G) (by rfl) ?_
      refine mi_sem_b mi_in122 (decide (a1 < 0)) false (mi_ltF (0) (by decide) (by omega)) 28 4 ([(0, .int a1)], [], (0, 0), mi_G) (by rfl) ?_
      refine mi_sem_steps mi_in122 (mi_calok_none _ _) 3 _ (8, [(0, .int a1)], [.int ((a1 / 10))], (0, 0), mi_G) (by rfl) ?_
      refine mi_sem_eq (x1 := (8, [(0, .int a1)], [.int 5], (0, 0), mi_G)) (by rw [q1]) ?_
      have hM1073 : mi_Met mi_N0 2 mi_h121 [.int 5] mi_G (some (.int 1)) mi_G := mi_fun_ok mi_N0 2 121 (mi_h121, mi_c121) _ _ _ _ rfl (mi_eR_ok (by decide +kernel))
      refine mi_sem_call mi_in122 (i := (.invokestatic 70, 3, 121, 0, 9, 0, 157)) (by rfl) (by rfl) hM1073 (by decide) ⟨Nat.le_of_ble_eq_true rfl, Nat.le_of_ble_eq_true rfl⟩ ?_
      refine mi_sem_steps mi_in122 (mi_calok_none _ _) 4 _ (18, [(0, .int a1)], [.int ((a1 - a1 / 10 * 10))], (0, 0), mi_G) (by rfl) ?_
      have hM1075 : mi_Met mi_N0 2 mi_h121 [.int ((a1 - a1 / 10 * 10))] mi_G (some (.int 1)) mi_G := by
        refine mi_met_of (y := 121) (q := (mi_h121, mi_c121)) rfl (by decide) (Nat.le_of_ble_eq_true rfl) ?_
        refine mi_sem_steps mi_in121 (mi_calok_none _ _) 3 _ (3, [(0, .int ((a1 - a1 / 10 * 10)))], [.int 5, .int 0, .int ((a1 - a1 / 10 * 10))], (0, 0), mi_G) (by rfl) ?_
        have hM1074 : mi_Met mi_N0 1 mi_h120 [.int ((a1 - a1 / 10 * 10)), .int 0, .int 5] mi_G (some (.int 1)) mi_G := by
          refine mi_met_of (y := 120) (q := (mi_h120, mi_c120)) rfl (by decide) (Nat.le_of_ble_eq_true rfl) ?_
          refine mi_sem_steps mi_in120 (mi_calok_none _ _) 2 _ (2, [(0, .int ((a1 - a1 / 10 * 10))), (1, .int 0), (2, .int 5)], [.int 0, .int ((a1 - a1 / 10 * 10))], (0, 0), mi_G) (by rfl) ?_
          refine mi_sem_b mi_in120 (decide (((a1 - a1 / 10 * 10)) < 0)) false (mi_ltF (0) (by decide) (by omega)) 14 5 ([(0, .int ((a1 - a1 / 10 * 10))), (1, .int 0), (2, .int 5)], [], (0, 0), mi_G) (by rfl) ?_
          refine mi_sem_steps mi_in120 (mi_calok_none _ _) 2 _ (7, [(0, .int ((a1 - a1 / 10 * 10))), (1, .int 0), (2, .int 5)], [.int 5, .int ((a1 - a1 / 10 * 10))], (0, 0), mi_G) (by rfl) ?_
          refine mi_sem_b mi_in120 (decide (5 < ((a1 - a1 / 10 * 10)))) false (mi_ltF2 (5) (by decide) (by omega)) 14 10 ([(0, .int ((a1 - a1 / 10 * 10))), (1, .int 0), (2, .int 5)], [], (0, 0), mi_G) (by rfl) ?_
          refine mi_sem_steps mi_in120 (mi_calok_none _ _) 2 _ (15, [(0, .int ((a1 - a1 / 10 * 10))), (1, .int 0), (2, .int 5)], [.int 1], (0, 0), mi_G) (by rfl) ?_
          exact mi_sem_ret (cal := fun _ _ _ => none) mi_in120 (by rfl)
        refine mi_sem_call mi_in121 (i := (.invokestatic 74, 3, 120, 0, 9, 0, 152)) (by rfl) (by rfl) hM1074 (by decide) ⟨Nat.le_of_ble_eq_true rfl, Nat.le_of_ble_eq_true rfl⟩ ?_
        exact mi_sem_ret (cal := fun _ _ _ => none) mi_in121 (by rfl)
      refine mi_sem_call mi_in122 (i := (.invokestatic 70, 3, 121, 0, 9, 0, 157)) (by rfl) (by rfl) hM1075 (by decide) ⟨Nat.le_of_ble_eq_true rfl, Nat.le_of_ble_eq_true rfl⟩ ?_
      refine mi_sem_steps mi_in122 (mi_calok_none _ _) 3 _ (29, [(0, .int a1)], [.int 1], (0, 0), mi_G) (by rfl) ?_
      exact mi_sem_ret (cal := fun _ _ _ => none) mi_in122 (by rfl)
    refine mi_sem_call mi_in97 (i := (.invokestatic 214, 3, 122, 0, 9, 0, 260)) (by rfl) (by rfl) hM1076 (by decide) ⟨Nat.le_of_ble_eq_true rfl, Nat.le_of_ble_eq_true rfl⟩ ?_
    refine mi_sem_steps mi_in97 (mi_calok_none _ _) 5 _ (14, [(0, .ref 0), (1, .int a1)], [.int ((a1 / 10)), .ref 0], (0, 0), mi_G) (by rfl) ?_
    refine mi_sem_eq (x1 := (14, [(0, .ref 0), (1, .int a1)], [.int 5, .ref 0], (0, 0), mi_G)) (by rw [q1]) ?_
    have hM1077 : mi_Met mi_N0 4 mi_h129 [.ref 0, .int 5] mi_G (some (.int (-11))) mi_G := mi_fun_ok mi_N0 4 129 (mi_h129, mi_c129) _ _ _ _ rfl (mi_eR_ok (by decide +kernel))
    refine mi_sem_call mi_in97 (i := (.invokevirtual 144, 3, 129, 0, 9, 0, 208)) (by rfl) (by rfl) hM1077 (by decide) ⟨Nat.le_of_ble_eq_true rfl, Nat.le_of_ble_eq_true rfl⟩ ?_
    refine mi_sem_steps mi_in97 (mi_calok_none _ _) 6 _ (36, [(2, .int (-11)), (0, .ref 0), (1, .int a1)], [.int (-11)], (0, 0), mi_G) (by rfl) ?_
    exact mi_sem_ret (cal := fun _ _ _ => none) mi_in97 (by rfl)
  · refine mi_met_of (y := 193) (q := (mi_h193, mi_c193)) rfl (by decide) (Nat.le_of_ble_eq_true rfl) ?_
    refine mi_sem_steps mi_in193 (mi_calok_none _ _) 2 _ (2, [(0, .ref 116), (1, .int a1)], [.int a1, .ref 116], (0, 0), mi_G) (by rfl) ?_
    have hM1081 : mi_Met mi_N0 3 mi_h190 [.ref 116, .int a1] mi_G (some (.int 1)) mi_G := by
      refine mi_met_of (y := 190) (q := (mi_h190, mi_c190)) rfl (by decide) (Nat.le_of_ble_eq_true rfl) ?_
      refine mi_sem_steps mi_in190 (mi_calok_none _ _) 1 _ (1, [(0, .ref 116), (1, .int a1)], [.int a1], (0, 0), mi_G) (by rfl) ?_
      refine mi_sem_b mi_in190 (decide (a1 < 0)) false (mi_ltF (0) (by decide) (by omega)) 28 4 ([(0, .ref 116), (1, .int a1)], [], (0, 0), mi_G) (by rfl) ?_
      refine mi_sem_steps mi_in190 (mi_calok_none _ _) 3 _ (8, [(0, .ref 116), (1, .int a1)], [.int ((a1 / 10))], (0, 0), mi_G) (by rfl) ?_
      refine mi_sem_eq (x1 := (8, [(0, .ref 116), (1, .int a1)], [.int 5], (0, 0), mi_G)) (by rw [q1]) ?_
      have hM1078 : mi_Met mi_N0 2 mi_h133 [.int 5] mi_G (some (.int 1)) mi_G := mi_fun_ok mi_N0 2 133 (mi_h133, mi_c133) _ _ _ _ rfl (mi_eR_ok (by decide +kernel))
      refine mi_sem_call mi_in190 (i := (.invokestatic 127, 3, 133, 0, 9, 0, 382)) (by rfl) (by rfl) hM1078 (by decide) ⟨Nat.le_of_ble_eq_true rfl, Nat.le_of_ble_eq_true rfl⟩ ?_
      refine mi_sem_steps mi_in190 (mi_calok_none _ _) 4 _ (18, [(0, .ref 116), (1, .int a1)], [.int ((a1 - a1 / 10 * 10))], (0, 0), mi_G) (by rfl) ?_
      have hM1080 : mi_Met mi_N0 2 mi_h133 [.int ((a1 - a1 / 10 * 10))] mi_G (some (.int 1)) mi_G := by
        refine mi_met_of (y := 133) (q := (mi_h133, mi_c133)) rfl (by decide) (Nat.le_of_ble_eq_true rfl) ?_
        refine mi_sem_steps mi_in133 (mi_calok_none _ _) 3 _ (3, [(0, .int ((a1 - a1 / 10 * 10)))], [.int 5, .int 0, .int ((a1 - a1 / 10 * 10))], (0, 0), mi_G) (by rfl) ?_
        have hM1079 : mi_Met mi_N0 1 mi_h131 [.int ((a1 - a1 / 10 * 10)), .int 0, .int 5] mi_G (some (.int 1)) mi_G := by
          refine mi_met_of (y := 131) (q := (mi_h131, mi_c131)) rfl (by decide) (Nat.le_of_ble_eq_true rfl) ?_
          refine mi_sem_steps mi_in131 (mi_calok_none _ _) 2 _ (2, [(0, .int ((a1 - a1 / 10 * 10))), (1, .int 0), (2, .int 5)], [.int 0, .int ((a1 - a1 / 10 * 10))], (0, 0), mi_G) (by rfl) ?_
          refine mi_sem_b mi_in131 (decide (((a1 - a1 / 10 * 10)) < 0)) false (mi_ltF (0) (by decide) (by omega)) 14 5 ([(0, .int ((a1 - a1 / 10 * 10))), (1, .int 0), (2, .int 5)], [], (0, 0), mi_G) (by rfl) ?_
          refine mi_sem_steps mi_in131 (mi_calok_none _ _) 2 _ (7, [(0, .int ((a1 - a1 / 10 * 10))), (1, .int 0), (2, .int 5)], [.int 5, .int ((a1 - a1 / 10 * 10))], (0, 0), mi_G) (by rfl) ?_
          refine mi_sem_b mi_in131 (decide (5 < ((a1 - a1 / 10 * 10)))) false (mi_ltF2 (5) (by decide) (by omega)) 14 10 ([(0, .int ((a1 - a1 / 10 * 10))), (1, .int 0), (2, .int 5)], [], (0, 0), mi_G) (by rfl) ?_
          refine mi_sem_steps mi_in131 (mi_calok_none _ _) 2 _ (15, [(0, .int ((a1 - a1 / 10 * 10))), (1, .int 0), (2, .int 5)], [.int 1], (0, 0), mi_G) (by rfl) ?_
          exact mi_sem_ret (cal := fun _ _ _ => none) mi_in131 (by rfl)
        refine mi_sem_call mi_in133 (i := (.invokestatic 119, 3, 131, 0, 9, 0, 379)) (by rfl) (by rfl) hM1079 (by decide) ⟨Nat.le_of_ble_eq_true rfl, Nat.le_of_ble_eq_true rfl⟩ ?_
        exact mi_sem_ret (cal := fun _ _ _ => none) mi_in133 (by rfl)
      refine mi_sem_call mi_in190 (i := (.invokestatic 127, 3, 133, 0, 9, 0, 382)) (by rfl) (by rfl) hM1080 (by decide) ⟨Nat.le_of_ble_eq_true rfl, Nat.le_of_ble_eq_true rfl⟩ ?_
      refine mi_sem_steps mi_in190 (mi_calok_none _ _) 3 _ (29, [(0, .ref 116), (1, .int a1)], [.int 1], (0, 0), mi_G) (by rfl) ?_
      exact mi_sem_ret (cal := fun _ _ _ => none) mi_in190 (by rfl)
    refine mi_sem_call mi_in193 (i := (.invokevirtual 314, 3, 190, 0, 9, 0, 442)) (by rfl) (by rfl) hM1081 (by decide) ⟨Nat.le_of_ble_eq_true rfl, Nat.le_of_ble_eq_true rfl⟩ ?_
    refine mi_sem_steps mi_in193 (mi_calok_none _ _) 3 _ (12, [(0, .ref 116), (1, .int a1)], [.int a1, .ref 116], (0, 0), mi_G) (by rfl) ?_
    have hM1083 : mi_Met mi_N0 2 mi_h191 [.ref 116, .int a1] mi_G (some (.int (-11))) mi_G := by
      refine mi_met_of (y := 191) (q := (mi_h191, mi_c191)) rfl (by decide) (Nat.le_of_ble_eq_true rfl) ?_
      refine mi_sem_steps mi_in191 (mi_calok_none _ _) 4 _ (5, [(0, .ref 116), (1, .int a1)], [.int ((a1 / 10)), .ref 116], (0, 0), mi_G) (by rfl) ?_
      refine mi_sem_eq (x1 := (5, [(0, .ref 116), (1, .int a1)], [.int 5, .ref 116], (0, 0), mi_G)) (by rw [q1]) ?_
      have hM1082 : mi_Met mi_N0 1 mi_h173 [.ref 116, .int 5] mi_G (some (.int (-11))) mi_G := mi_fun_ok mi_N0 1 173 (mi_h173, mi_c173) _ _ _ _ rfl (mi_eR_ok (by decide +kernel))
      refine mi_sem_call mi_in191 (i := (.invokevirtual 276, 3, 173, 0, 9, 0, 410)) (by rfl) (by rfl) hM1082 (by decide) ⟨Nat.le_of_ble_eq_true rfl, Nat.le_of_ble_eq_true rfl⟩ ?_
      refine mi_sem_steps mi_in191 (mi_calok_none _ _) 5 _ (25, [(2, .int (-11)), (0, .ref 116), (1, .int a1)], [.int (-11)], (0, 0), mi_G) (by rfl) ?_
      exact mi_sem_ret (cal := fun _ _ _ => none) mi_in191 (by rfl)
    refine mi_sem_call mi_in193 (i := (.invokevirtual 317, 3, 191, 0, 9, 0, 443)) (by rfl) (by rfl) hM1083 (by decide) ⟨Nat.le_of_ble_eq_true rfl, Nat.le_of_ble_eq_true rfl⟩ ?_
    refine mi_sem_steps mi_in193 (mi_calok_none _ _) 4 _ (21, [(2, .int (-11)), (0, .ref 116), (1, .int a1)], [.int (-11)], (0, 0), mi_G) (by rfl) ?_
    exact mi_sem_ret (cal := fun _ _ _ => none) mi_in193 (by rfl)

set_option maxRecDepth 100000 in
set_option maxHeartbeats 4000000 in
theorem mp_judge_9 (a1 : Int32) (r0 : 0 ≤ (a1).toInt ∧ (a1).toInt ≤ 2147483647) (r1 : 0 ≤ ((a1 / 10)).toInt ∧ ((a1 / 10)).toInt ≤ 5) (r2 : 6 ≤ ((a1 - a1 / 10 * 10)).toInt ∧ ((a1 - a1 / 10 * 10)).toInt ≤ 2147483647) : mi_P 97 193 [.int a1] := by
  refine ⟨.int (-1), mi_G, mi_G, (mi_h97, mi_c97), (mi_h193, mi_c193), 4, 4, rfl, rfl, rfl, by decide, by decide, ?_, ?_⟩
  · refine mi_met_of (y := 97) (q := (mi_h97, mi_c97)) rfl (by decide) (Nat.le_of_ble_eq_true rfl) ?_
    refine mi_sem_steps mi_in97 (mi_calok_none _ _) 1 _ (1, [(0, .ref 0), (1, .int a1)], [.int a1], (0, 0), mi_G) (by rfl) ?_
    have hM1088 : mi_Met mi_N0 3 mi_h122 [.int a1] mi_G (some (.int 0)) mi_G := by
      refine mi_met_of (y := 122) (q := (mi_h122, mi_c122)) rfl (by decide) (Nat.le_of_ble_eq_true rfl) ?_
      refine mi_sem_steps mi_in122 (mi_calok_none _ _) 1 _ (1, [(0, .int a1)], [.int a1], (0, 0), mi_G) (by rfl) ?_
      refine mi_sem_b mi_in122 (decide (a1 < 0)) false (mi_ltF (0) (by decide) (by omega)) 28 4 ([(0, .int a1)], [], (0, 0), mi_G) (by rfl) ?_
      refine mi_sem_steps mi_in122 (mi_calok_none _ _) 3 _ (8, [(0, .int a1)], [.int ((a1 / 10))], (0, 0), mi_G) (by rfl) ?_
      have hM1085 : mi_Met mi_N0 2 mi_h121 [.int ((a1 / 10))] mi_G (some (.int 1)) mi_G := by
        refine mi_met_of (y := 121) (q := (mi_h121, mi_c121)) rfl (by decide) (Nat.le_of_ble_eq_true rfl) ?_
        refine mi_sem_steps mi_in121 (mi_calok_none _ _) 3 _ (3, [(0, .int ((a1 / 10)))], [.int 5, .int 0, .int ((a1 / 10))], (0, 0), mi_G) (by rfl) ?_
        have hM1084 : mi_Met mi_N0 1 mi_h120 [.int ((a1 / 10)), .int 0, .int 5] mi_G (some (.int 1)) mi_G := by
          refine mi_met_of (y := 120) (q := (mi_h120, mi_c120)) rfl (by decide) (Nat.le_of_ble_eq_true rfl) ?_
          refine mi_sem_steps mi_in120 (mi_calok_none _ _) 2 _ (2, [(0, .int ((a1 / 10))), (1, .int 0), (2, .int 5)], [.int 0, .int ((a1 / 10))], (0, 0), mi_G) (by rfl) ?_
          refine mi_sem_b mi_in120 (decide (((a1 / 10)) < 0)) false (mi_ltF (0) (by decide) (by omega)) 14 5 ([(0, .int ((a1 / 10))), (1, .int 0), (2, .int 5)], [], (0, 0), mi_G) (by rfl) ?_
          refine mi_sem_steps mi_in120 (mi_calok_none _ _) 2 _ (7, [(0, .int ((a1 / 10))), (1, .int 0), (2, .int 5)], [.int 5, .int ((a1 / 10))], (0, 0), mi_G) (by rfl) ?_
          refine mi_sem_b mi_in120 (decide (5 < ((a1 / 10)))) false (mi_ltF2 (5) (by decide) (by omega)) 14 10 ([(0, .int ((a1 / 10))), (1, .int 0), (2, .int 5)], [], (0, 0), mi_G) (by rfl) ?_
          refine mi_sem_steps mi_in120 (mi_calok_none _ _) 2 _ (15, [(0, .int ((a1 / 10))), (1, .int 0), (2, .int 5)], [.int 1], (0, 0), mi_G) (by rfl) ?_
          exact mi_sem_ret (cal := fun _ _ _ => none) mi_in120 (by rfl)
        refine mi_sem_call mi_in121 (i := (.invokestatic 74, 3, 120, 0, 9, 0, 152)) (by rfl) (by rfl) hM1084 (by decide) ⟨Nat.le_of_ble_eq_true rfl, Nat.le_of_ble_eq_true rfl⟩ ?_
        exact mi_sem_ret (cal := fun _ _ _ => none) mi_in121 (by rfl)
      refine mi_sem_call mi_in122 (i := (.invokestatic 70, 3, 121, 0, 9, 0, 157)) (by rfl) (by rfl) hM1085 (by decide) ⟨Nat.le_of_ble_eq_true rfl, Nat.le_of_ble_eq_true rfl⟩ ?_
      refine mi_sem_steps mi_in122 (mi_calok_none _ _) 4 _ (18, [(0, .int a1)], [.int ((a1 - a1 / 10 * 10))], (0, 0), mi_G) (by rfl) ?_
      have hM1087 : mi_Met mi_N0 2 mi_h121 [.int ((a1 - a1 / 10 * 10))] mi_G (some (.int 0)) mi_G := by
        refine mi_met_of (y := 121) (q := (mi_h121, mi_c121)) rfl (by decide) (Nat.le_of_ble_eq_true rfl) ?_
        refine mi_sem_steps mi_in121 (mi_calok_none _ _) 3 _ (3, [(0, .int ((a1 - a1 / 10 * 10)))], [.int 5, .int 0, .int ((a1 - a1 / 10 * 10))], (0, 0), mi_G) (by rfl) ?_
        have hM1086 : mi_Met mi_N0 1 mi_h120 [.int ((a1 - a1 / 10 * 10)), .int 0, .int 5] mi_G (some (.int 0)) mi_G := by
          refine mi_met_of (y := 120) (q := (mi_h120, mi_c120)) rfl (by decide) (Nat.le_of_ble_eq_true rfl) ?_
          refine mi_sem_steps mi_in120 (mi_calok_none _ _) 2 _ (2, [(0, .int ((a1 - a1 / 10 * 10))), (1, .int 0), (2, .int 5)], [.int 0, .int ((a1 - a1 / 10 * 10))], (0, 0), mi_G) (by rfl) ?_
          refine mi_sem_b mi_in120 (decide (((a1 - a1 / 10 * 10)) < 0)) false (mi_ltF (0) (by decide) (by omega)) 14 5 ([(0, .int ((a1 - a1 / 10 * 10))), (1, .int 0), (2, .int 5)], [], (0, 0), mi_G) (by rfl) ?_
          refine mi_sem_steps mi_in120 (mi_calok_none _ _) 2 _ (7, [(0, .int ((a1 - a1 / 10 * 10))), (1, .int 0), (2, .int 5)], [.int 5, .int ((a1 - a1 / 10 * 10))], (0, 0), mi_G) (by rfl) ?_
          refine mi_sem_b mi_in120 (decide (5 < ((a1 - a1 / 10 * 10)))) true (mi_ltT2 (5) (by decide) (by omega)) 14 10 ([(0, .int ((a1 - a1 / 10 * 10))), (1, .int 0), (2, .int 5)], [], (0, 0), mi_G) (by rfl) ?_
          refine mi_sem_steps mi_in120 (mi_calok_none _ _) 1 _ (15, [(0, .int ((a1 - a1 / 10 * 10))), (1, .int 0), (2, .int 5)], [.int 0], (0, 0), mi_G) (by rfl) ?_
          exact mi_sem_ret (cal := fun _ _ _ => none) mi_in120 (by rfl)
        refine mi_sem_call mi_in121 (i := (.invokestatic 74, 3, 120, 0, 9, 0, 152)) (by rfl) (by rfl) hM1086 (by decide) ⟨Nat.le_of_ble_eq_true rfl, Nat.le_of_ble_eq_true rfl⟩ ?_
        exact mi_sem_ret (cal := fun _ _ _ => none) mi_in121 (by rfl)
      refine mi_sem_call mi_in122 (i := (.invokestatic 70, 3, 121, 0, 9, 0, 157)) (by rfl) (by rfl) hM1087 (by decide) ⟨Nat.le_of_ble_eq_true rfl, Nat.le_of_ble_eq_true rfl⟩ ?_
      refine mi_sem_steps mi_in122 (mi_calok_none _ _) 2 _ (29, [(0, .int a1)], [.int 0], (0, 0), mi_G) (by rfl) ?_
      exact mi_sem_ret (cal := fun _ _ _ => none) mi_in122 (by rfl)
    refine mi_sem_call mi_in97 (i := (.invokestatic 214, 3, 122, 0, 9, 0, 260)) (by rfl) (by rfl) hM1088 (by decide) ⟨Nat.le_of_ble_eq_true rfl, Nat.le_of_ble_eq_true rfl⟩ ?_
    refine mi_sem_steps mi_in97 (mi_calok_none _ _) 2 _ (8, [(0, .ref 0), (1, .int a1)], [.int (-1)], (0, 0), mi_G) (by rfl) ?_
    exact mi_sem_ret (cal := fun _ _ _ => none) mi_in97 (by rfl)
  · refine mi_met_of (y := 193) (q := (mi_h193, mi_c193)) rfl (by decide) (Nat.le_of_ble_eq_true rfl) ?_
    refine mi_sem_steps mi_in193 (mi_calok_none _ _) 2 _ (2, [(0, .ref 116), (1, .int a1)], [.int a1, .ref 116], (0, 0), mi_G) (by rfl) ?_
    have hM1093 : mi_Met mi_N0 3 mi_h190 [.ref 116, .int a1] mi_G (some (.int 0)) mi_G := by
      refine mi_met_of (y := 190) (q := (mi_h190, mi_c190)) rfl (by decide) (Nat.le_of_ble_eq_true rfl) ?_
      refine mi_sem_steps mi_in190 (mi_calok_none _ _) 1 _ (1, [(0, .ref 116), (1, .int a1)], [.int a1], (0, 0), mi_G) (by rfl) ?_
      refine mi_sem_b mi_in190 (decide (a1 < 0)) false (mi_ltF (0) (by decide) (by omega)) 28 4 ([(0, .ref 116), (1, .int a1)], [], (0, 0), mi_G) (by rfl) ?_
      refine mi_sem_steps mi_in190 (mi_calok_none _ _) 3 _ (8, [(0, .ref 116), (1, .int a1)], [.int ((a1 / 10))], (0, 0), mi_G) (by rfl) ?_
      have hM1090 : mi_Met mi_N0 2 mi_h133 [.int ((a1 / 10))] mi_G (some (.int 1)) mi_G := by
        refine mi_met_of (y := 133) (q := (mi_h133, mi_c133)) rfl (by decide) (Nat.le_of_ble_eq_true rfl) ?_
        refine mi_sem_steps mi_in133 (mi_calok_none _ _) 3 _ (3, [(0, .int ((a1 / 10)))], [.int 5, .int 0, .int ((a1 / 10))], (0, 0), mi_G) (by rfl) ?_
        have hM1089 : mi_Met mi_N0 1 mi_h131 [.int ((a1 / 10)), .int 0, .int 5] mi_G (some (.int 1)) mi_G := by
          refine mi_met_of (y := 131) (q := (mi_h131, mi_c131)) rfl (by decide) (Nat.le_of_ble_eq_true rfl) ?_
          refine mi_sem_steps mi_in131 (mi_calok_none _ _) 2 _ (2, [(0, .int ((a1 / 10))), (1, .int 0), (2, .int 5)], [.int 0, .int ((a1 / 10))], (0, 0), mi_G) (by rfl) ?_
          refine mi_sem_b mi_in131 (decide (((a1 / 10)) < 0)) false (mi_ltF (0) (by decide) (by omega)) 14 5 ([(0, .int ((a1 / 10))), (1, .int 0), (2, .int 5)], [], (0, 0), mi_G) (by rfl) ?_
          refine mi_sem_steps mi_in131 (mi_calok_none _ _) 2 _ (7, [(0, .int ((a1 / 10))), (1, .int 0), (2, .int 5)], [.int 5, .int ((a1 / 10))], (0, 0), mi_G) (by rfl) ?_
          refine mi_sem_b mi_in131 (decide (5 < ((a1 / 10)))) false (mi_ltF2 (5) (by decide) (by omega)) 14 10 ([(0, .int ((a1 / 10))), (1, .int 0), (2, .int 5)], [], (0, 0), mi_G) (by rfl) ?_
          refine mi_sem_steps mi_in131 (mi_calok_none _ _) 2 _ (15, [(0, .int ((a1 / 10))), (1, .int 0), (2, .int 5)], [.int 1], (0, 0), mi_G) (by rfl) ?_
          exact mi_sem_ret (cal := fun _ _ _ => none) mi_in131 (by rfl)
        refine mi_sem_call mi_in133 (i := (.invokestatic 119, 3, 131, 0, 9, 0, 379)) (by rfl) (by rfl) hM1089 (by decide) ⟨Nat.le_of_ble_eq_true rfl, Nat.le_of_ble_eq_true rfl⟩ ?_
        exact mi_sem_ret (cal := fun _ _ _ => none) mi_in133 (by rfl)
      refine mi_sem_call mi_in190 (i := (.invokestatic 127, 3, 133, 0, 9, 0, 382)) (by rfl) (by rfl) hM1090 (by decide) ⟨Nat.le_of_ble_eq_true rfl, Nat.le_of_ble_eq_true rfl⟩ ?_
      refine mi_sem_steps mi_in190 (mi_calok_none _ _) 4 _ (18, [(0, .ref 116), (1, .int a1)], [.int ((a1 - a1 / 10 * 10))], (0, 0), mi_G) (by rfl) ?_
      have hM1092 : mi_Met mi_N0 2 mi_h133 [.int ((a1 - a1 / 10 * 10))] mi_G (some (.int 0)) mi_G := by
        refine mi_met_of (y := 133) (q := (mi_h133, mi_c133)) rfl (by decide) (Nat.le_of_ble_eq_true rfl) ?_
        refine mi_sem_steps mi_in133 (mi_calok_none _ _) 3 _ (3, [(0, .int ((a1 - a1 / 10 * 10)))], [.int 5, .int 0, .int ((a1 - a1 / 10 * 10))], (0, 0), mi_G) (by rfl) ?_
        have hM1091 : mi_Met mi_N0 1 mi_h131 [.int ((a1 - a1 / 10 * 10)), .int 0, .int 5] mi_G (some (.int 0)) mi_G := by
          refine mi_met_of (y := 131) (q := (mi_h131, mi_c131)) rfl (by decide) (Nat.le_of_ble_eq_true rfl) ?_
          refine mi_sem_steps mi_in131 (mi_calok_none _ _) 2 _ (2, [(0, .int ((a1 - a1 / 10 * 10))), (1, .int 0), (2, .int 5)], [.int 0, .int ((a1 - a1 / 10 * 10))], (0, 0), mi_G) (by rfl) ?_
          refine mi_sem_b mi_in131 (decide (((a1 - a1 / 10 * 10)) < 0)) false (mi_ltF (0) (by decide) (by omega)) 14 5 ([(0, .int ((a1 - a1 / 10 * 10))), (1, .int 0), (2, .int 5)], [], (0, 0), mi_G) (by rfl) ?_
          refine mi_sem_steps mi_in131 (mi_calok_none _ _) 2 _ (7, [(0, .int ((a1 - a1 / 10 * 10))), (1, .int 0), (2, .int 5)], [.int 5, .int ((a1 - a1 / 10 * 10))], (0, 0), mi_G) (by rfl) ?_
          refine mi_sem_b mi_in131 (decide (5 < ((a1 - a1 / 10 * 10)))) true (mi_ltT2 (5) (by decide) (by omega)) 14 10 ([(0, .int ((a1 - a1 / 10 * 10))), (1, .int 0), (2, .int 5)], [], (0, 0), mi_G) (by rfl) ?_
          refine mi_sem_steps mi_in131 (mi_calok_none _ _) 1 _ (15, [(0, .int ((a1 - a1 / 10 * 10))), (1, .int 0), (2, .int 5)], [.int 0], (0, 0), mi_G) (by rfl) ?_
          exact mi_sem_ret (cal := fun _ _ _ => none) mi_in131 (by rfl)
        refine mi_sem_call mi_in133 (i := (.invokestatic 119, 3, 131, 0, 9, 0, 379)) (by rfl) (by rfl) hM1091 (by decide) ⟨Nat.le_of_ble_eq_true rfl, Nat.le_of_ble_eq_true rfl⟩ ?_
        exact mi_sem_ret (cal := fun _ _ _ => none) mi_in133 (by rfl)
      refine mi_sem_call mi_in190 (i := (.invokestatic 127, 3, 133, 0, 9, 0, 382)) (by rfl) (by rfl) hM1092 (by decide) ⟨Nat.le_of_ble_eq_true rfl, Nat.le_of_ble_eq_true rfl⟩ ?_
      refine mi_sem_steps mi_in190 (mi_calok_none _ _) 2 _ (29, [(0, .ref 116), (1, .int a1)], [.int 0], (0, 0), mi_G) (by rfl) ?_
      exact mi_sem_ret (cal := fun _ _ _ => none) mi_in190 (by rfl)
    refine mi_sem_call mi_in193 (i := (.invokevirtual 314, 3, 190, 0, 9, 0, 442)) (by rfl) (by rfl) hM1093 (by decide) ⟨Nat.le_of_ble_eq_true rfl, Nat.le_of_ble_eq_true rfl⟩ ?_
    refine mi_sem_steps mi_in193 (mi_calok_none _ _) 2 _ (9, [(0, .ref 116), (1, .int a1)], [.int (-1)], (0, 0), mi_G) (by rfl) ?_
    exact mi_sem_ret (cal := fun _ _ _ => none) mi_in193 (by rfl)

set_option maxRecDepth 100000 in
set_option maxHeartbeats 4000000 in
theorem mp_judge_10 (a1 : Int32) (r0 : 0 ≤ (a1).toInt ∧ (a1).toInt ≤ 2147483647) (r1 : 6 ≤ ((a1 / 10)).toInt ∧ ((a1 / 10)).toInt ≤ 2147483647) : mi_P 97 193 [.int a1] := by
  refine ⟨.int (-1), mi_G, mi_G, (mi_h97, mi_c97), (mi_h193, mi_c193), 4, 4, rfl, rfl, rfl, by decide, by decide, ?_, ?_⟩
  · refine mi_met_of (y := 97) (q := (mi_h97, mi_c97)) rfl (by decide) (Nat.le_of_ble_eq_true rfl) ?_
    refine mi_sem_steps mi_in97 (mi_calok_none _ _) 1 _ (1, [(0, .ref 0), (1, .int a1)], [.int a1], (0, 0), mi_G) (by rfl) ?_
    have hM1096 : mi_Met mi_N0 3 mi_h122 [.int a1] mi_G (some (.int 0)) mi_G := by
      refine mi_met_of (y := 122) (q := (mi_h122, mi_c122)) rfl (by decide) (Nat.le_of_ble_eq_true rfl) ?_
      refine mi_sem_steps mi_in122 (mi_calok_none _ _) 1 _ (1, [(0, .int a1)], [.int a1], (0, 0), mi_G) (by rfl) ?_
      refine mi_sem_b mi_in122 (decide (a1 < 0)) false (mi_ltF (0) (by decide) (by omega)) 28 4 ([(0, .int a1)], [], (0, 0), mi_G) (by rfl) ?_
      refine mi_sem_steps mi_in122 (mi_calok_none _ _) 3 _ (8, [(0, .int a1)], [.int ((a1 / 10))], (0, 0), mi_G) (by rfl) ?_
      have hM1095 : mi_Met mi_N0 2 mi_h121 [.int ((a1 / 10))] mi_G (some (.int 0)) mi_G := by
        refine mi_met_of (y := 121) (q := (mi_h121, mi_c121)) rfl (by decide) (Nat.le_of_ble_eq_true rfl) ?_
        refine mi_sem_steps mi_in121 (mi_calok_none _ _) 3 _ (3, [(0, .int ((a1 / 10)))], [.int 5, .int 0, .int ((a1 / 10))], (0, 0), mi_G) (by rfl) ?_
        have hM1094 : mi_Met mi_N0 1 mi_h120 [.int ((a1 / 10)), .int 0, .int 5] mi_G (some (.int 0)) mi_G := by
          refine mi_met_of (y := 120) (q := (mi_h120, mi_c120)) rfl (by decide) (Nat.le_of_ble_eq_true rfl) ?_
          refine mi_sem_steps mi_in120 (mi_calok_none _ _) 2 _ (2, [(0, .int ((a1 / 10))), (1, .int 0), (2, .int 5)], [.int 0, .int ((a1 / 10))], (0, 0), mi_G) (by rfl) ?_
          refine mi_sem_b mi_in120 (decide (((a1 / 10)) < 0)) false (mi_ltF (0) (by decide) (by omega)) 14 5 ([(0, .int ((a1 / 10))), (1, .int 0), (2, .int 5)], [], (0, 0), mi_G) (by rfl) ?_
          refine mi_sem_steps mi_in120 (mi_calok_none _ _) 2 _ (7, [(0, .int ((a1 / 10))), (1, .int 0), (2, .int 5)], [.int 5, .int ((a1 / 10))], (0, 0), mi_G) (by rfl) ?_
          refine mi_sem_b mi_in120 (decide (5 < ((a1 / 10)))) true (mi_ltT2 (5) (by decide) (by omega)) 14 10 ([(0, .int ((a1 / 10))), (1, .int 0), (2, .int 5)], [], (0, 0), mi_G) (by rfl) ?_
          refine mi_sem_steps mi_in120 (mi_calok_none _ _) 1 _ (15, [(0, .int ((a1 / 10))), (1, .int 0), (2, .int 5)], [.int 0], (0, 0), mi_G) (by rfl) ?_
          exact mi_sem_ret (cal := fun _ _ _ => none) mi_in120 (by rfl)
        refine mi_sem_call mi_in121 (i := (.invokestatic 74, 3, 120, 0, 9, 0, 152)) (by rfl) (by rfl) hM1094 (by decide) ⟨Nat.le_of_ble_eq_true rfl, Nat.le_of_ble_eq_true rfl⟩ ?_
        exact mi_sem_ret (cal := fun _ _ _ => none) mi_in121 (by rfl)
      refine mi_sem_call mi_in122 (i := (.invokestatic 70, 3, 121, 0, 9, 0, 157)) (by rfl) (by rfl) hM1095 (by decide) ⟨Nat.le_of_ble_eq_true rfl, Nat.le_of_ble_eq_true rfl⟩ ?_
      refine mi_sem_steps mi_in122 (mi_calok_none _ _) 2 _ (29, [(0, .int a1)], [.int 0], (0, 0), mi_G) (by rfl) ?_
      exact mi_sem_ret (cal := fun _ _ _ => none) mi_in122 (by rfl)
    refine mi_sem_call mi_in97 (i := (.invokestatic 214, 3, 122, 0, 9, 0, 260)) (by rfl) (by rfl) hM1096 (by decide) ⟨Nat.le_of_ble_eq_true rfl, Nat.le_of_ble_eq_true rfl⟩ ?_
    refine mi_sem_steps mi_in97 (mi_calok_none _ _) 2 _ (8, [(0, .ref 0), (1, .int a1)], [.int (-1)], (0, 0), mi_G) (by rfl) ?_
    exact mi_sem_ret (cal := fun _ _ _ => none) mi_in97 (by rfl)
  · refine mi_met_of (y := 193) (q := (mi_h193, mi_c193)) rfl (by decide) (Nat.le_of_ble_eq_true rfl) ?_
    refine mi_sem_steps mi_in193 (mi_calok_none _ _) 2 _ (2, [(0, .ref 116), (1, .int a1)], [.int a1, .ref 116], (0, 0), mi_G) (by rfl) ?_
    have hM1099 : mi_Met mi_N0 3 mi_h190 [.ref 116, .int a1] mi_G (some (.int 0)) mi_G := by
      refine mi_met_of (y := 190) (q := (mi_h190, mi_c190)) rfl (by decide) (Nat.le_of_ble_eq_true rfl) ?_
      refine mi_sem_steps mi_in190 (mi_calok_none _ _) 1 _ (1, [(0, .ref 116), (1, .int a1)], [.int a1], (0, 0), mi_G) (by rfl) ?_
      refine mi_sem_b mi_in190 (decide (a1 < 0)) false (mi_ltF (0) (by decide) (by omega)) 28 4 ([(0, .ref 116), (1, .int a1)], [], (0, 0), mi_G) (by rfl) ?_
      refine mi_sem_steps mi_in190 (mi_calok_none _ _) 3 _ (8, [(0, .ref 116), (1, .int a1)], [.int ((a1 / 10))], (0, 0), mi_G) (by rfl) ?_
      have hM1098 : mi_Met mi_N0 2 mi_h133 [.int ((a1 / 10))] mi_G (some (.int 0)) mi_G := by
        refine mi_met_of (y := 133) (q := (mi_h133, mi_c133)) rfl (by decide) (Nat.le_of_ble_eq_true rfl) ?_
        refine mi_sem_steps mi_in133 (mi_calok_none _ _) 3 _ (3, [(0, .int ((a1 / 10)))], [.int 5, .int 0, .int ((a1 / 10))], (0, 0), mi_G) (by rfl) ?_
        have hM1097 : mi_Met mi_N0 1 mi_h131 [.int ((a1 / 10)), .int 0, .int 5] mi_G (some (.int 0)) mi_G := by
          refine mi_met_of (y := 131) (q := (mi_h131, mi_c131)) rfl (by decide) (Nat.le_of_ble_eq_true rfl) ?_
          refine mi_sem_steps mi_in131 (mi_calok_none _ _) 2 _ (2, [(0, .int ((a1 / 10))), (1, .int 0), (2, .int 5)], [.int 0, .int ((a1 / 10))], (0, 0), mi_G) (by rfl) ?_
          refine mi_sem_b mi_in131 (decide (((a1 / 10)) < 0)) false (mi_ltF (0) (by decide) (by omega)) 14 5 ([(0, .int ((a1 / 10))), (1, .int 0), (2, .int 5)], [], (0, 0), mi_G) (by rfl) ?_
          refine mi_sem_steps mi_in131 (mi_calok_none _ _) 2 _ (7, [(0, .int ((a1 / 10))), (1, .int 0), (2, .int 5)], [.int 5, .int ((a1 / 10))], (0, 0), mi_G) (by rfl) ?_
          refine mi_sem_b mi_in131 (decide (5 < ((a1 / 10)))) true (mi_ltT2 (5) (by decide) (by omega)) 14 10 ([(0, .int ((a1 / 10))), (1, .int 0), (2, .int 5)], [], (0, 0), mi_G) (by rfl) ?_
          refine mi_sem_steps mi_in131 (mi_calok_none _ _) 1 _ (15, [(0, .int ((a1 / 10))), (1, .int 0), (2, .int 5)], [.int 0], (0, 0), mi_G) (by rfl) ?_
          exact mi_sem_ret (cal := fun _ _ _ => none) mi_in131 (by rfl)
        refine mi_sem_call mi_in133 (i := (.invokestatic 119, 3, 131, 0, 9, 0, 379)) (by rfl) (by rfl) hM1097 (by decide) ⟨Nat.le_of_ble_eq_true rfl, Nat.le_of_ble_eq_true rfl⟩ ?_
        exact mi_sem_ret (cal := fun _ _ _ => none) mi_in133 (by rfl)
      refine mi_sem_call mi_in190 (i := (.invokestatic 127, 3, 133, 0, 9, 0, 382)) (by rfl) (by rfl) hM1098 (by decide) ⟨Nat.le_of_ble_eq_true rfl, Nat.le_of_ble_eq_true rfl⟩ ?_
      refine mi_sem_steps mi_in190 (mi_calok_none _ _) 2 _ (29, [(0, .ref 116), (1, .int a1)], [.int 0], (0, 0), mi_G) (by rfl) ?_
      exact mi_sem_ret (cal := fun _ _ _ => none) mi_in190 (by rfl)
    refine mi_sem_call mi_in193 (i := (.invokevirtual 314, 3, 190, 0, 9, 0, 442)) (by rfl) (by rfl) hM1099 (by decide) ⟨Nat.le_of_ble_eq_true rfl, Nat.le_of_ble_eq_true rfl⟩ ?_
    refine mi_sem_steps mi_in193 (mi_calok_none _ _) 2 _ (9, [(0, .ref 116), (1, .int a1)], [.int (-1)], (0, 0), mi_G) (by rfl) ?_
    exact mi_sem_ret (cal := fun _ _ _ => none) mi_in193 (by rfl)

set_option maxRecDepth 100000 in
set_option maxHeartbeats 4000000 in
theorem mp_judge (a1 : Int32) : mi_P 97 193 [.int a1] := by
  have b0 := Int32.toInt_lt ((a1 - a1 / 10 * 10))
  have c0 := Int32.le_toInt ((a1 - a1 / 10 * 10))
  have b1 := Int32.toInt_lt ((a1 / 10))
  have c1 := Int32.le_toInt ((a1 / 10))
  have b2 := Int32.toInt_lt (a1)
  have c2 := Int32.le_toInt (a1)
  rcases Int.lt_or_le (a1).toInt 0 with _hh | _hh
  ·
    exact mp_judge_0 a1 ⟨by omega, by omega⟩
  ·
    rcases Int.lt_or_le ((a1 / 10)).toInt 0 with _hh | _hh
    ·
      exact mp_judge_1 a1 ⟨by omega, by omega⟩ ⟨by omega, by omega⟩
    ·
      rcases Int.lt_or_le ((a1 / 10)).toInt 6 with _hh | _hh
      ·
        rcases Int.lt_or_le ((a1 - a1 / 10 * 10)).toInt 0 with _hh | _hh
        ·
          exact mp_judge_2 a1 ⟨by omega, by omega⟩ ⟨by omega, by omega⟩ ⟨by omega, by omega⟩
        ·
          rcases Int.lt_or_le ((a1 - a1 / 10 * 10)).toInt 6 with _hh | _hh
          ·
            rcases Int.lt_or_le ((a1 / 10)).toInt 1 with _hh | _hh
            ·
              exact mp_judge_3 a1 ⟨by omega, by omega⟩ (Int32.toInt_inj.mp ((by omega : ((a1 / 10)).toInt = 0).trans (by decide))) ⟨by omega, by omega⟩
            ·
              rcases Int.lt_or_le ((a1 / 10)).toInt 2 with _hh | _hh
              ·
                exact mp_judge_4 a1 ⟨by omega, by omega⟩ (Int32.toInt_inj.mp ((by omega : ((a1 / 10)).toInt = 1).trans (by decide))) ⟨by omega, by omega⟩
              ·
                rcases Int.lt_or_le ((a1 / 10)).toInt 3 with _hh | _hh
                ·
                  exact mp_judge_5 a1 ⟨by omega, by omega⟩ (Int32.toInt_inj.mp ((by omega : ((a1 / 10)).toInt = 2).trans (by decide))) ⟨by omega, by omega⟩
                ·
                  rcases Int.lt_or_le ((a1 / 10)).toInt 4 with _hh | _hh
                  ·
                    exact mp_judge_6 a1 ⟨by omega, by omega⟩ (Int32.toInt_inj.mp ((by omega : ((a1 / 10)).toInt = 3).trans (by decide))) ⟨by omega, by omega⟩
                  ·
                    rcases Int.lt_or_le ((a1 / 10)).toInt 5 with _hh | _hh
                    ·
                      exact mp_judge_7 a1 ⟨by omega, by omega⟩ (Int32.toInt_inj.mp ((by omega : ((a1 / 10)).toInt = 4).trans (by decide))) ⟨by omega, by omega⟩
                    ·
                      exact mp_judge_8 a1 ⟨by omega, by omega⟩ (Int32.toInt_inj.mp ((by omega : ((a1 / 10)).toInt = 5).trans (by decide))) ⟨by omega, by omega⟩
          ·
            exact mp_judge_9 a1 ⟨by omega, by omega⟩ ⟨by omega, by omega⟩ ⟨by omega, by omega⟩
      ·
        exact mp_judge_10 a1 ⟨by omega, by omega⟩ ⟨by omega, by omega⟩
