set_option maxRecDepth 100000 in
set_option maxHeartbeats 4000000 in
theorem mp_market_0 (a1 : Int32) (a2 : Int32) (a3 : Int32) (r0 : (-2147483648) ≤ (a3).toInt ∧ (a3).toInt ≤ (-1)) (r1 : (-2147483648) ≤ (a1).toInt ∧ (a1).toInt ≤ (-1)) : mi_P 88 175 [.int a1, .int a2, .int a3] := by
  refine ⟨.int (-1), mi_G, mi_G, (mi_h88, mi_c88), (mi_h175, mi_c175), 2, 3, rfl, rfl, rfl, by decide, by decide, ?_, ?_⟩
  · refine mi_met_of (y := 88) (q := (mi_h88, mi_c88)) rfl (by decide) (Nat.le_of_ble_eq_true rfl) ?_
    refine mi_sem_steps mi_in88 (mi_calok_none _ _) 3 _ (3, [(0, .ref 0), (1, .int a1), (2, .int a2), (3, .int a3)], [.int 3, .int 0, .int a3], (0, 0), mi_G) (by rfl) ?_
    have hM304 : mi_Met mi_N0 1 mi_h120 [.int a3, .int 0, .int 3] mi_G (some (.int 0)) mi_G := by
      refine mi_met_of (y := 120) (q := (mi_h120, mi_c120)) rfl (by decide) (Nat.le_of_ble_eq_true rfl) ?_
      refine mi_sem_steps mi_in120 (mi_calok_none _ _) 2 _ (2, [(0, .int a3), (1, .int 0), (2, .int 3)], [.int 0, .int a3], (0, 0), mi_G) (by rfl) ?_
      refine mi_sem_b mi_in120 (decide (a3 < 0)) true (mi_ltT (0) (by decide) (by omega)) 14 5 ([(0, .int a3), (1, .int 0), (2, .int 3)], [], (0, 0), mi_G) (by rfl) ?_
      refine mi_sem_steps mi_in120 (mi_calok_none _ _) 1 _ (15, [(0, .int a3), (1, .int 0), (2, .int 3)], [.int 0], (0, 0), mi_G) (by rfl) ?_
      exact mi_sem_ret (cal := fun _ _ _ => none) mi_in120 (by rfl)
    refine mi_sem_call mi_in88 (i := (.invokestatic 74, 3, 120, 0, 9, 0, 152)) (by rfl) (by rfl) hM304 (by decide) ⟨Nat.le_of_ble_eq_true rfl, Nat.le_of_ble_eq_true rfl⟩ ?_
    refine mi_sem_steps mi_in88 (mi_calok_none _ _) 2 _ (30, [(0, .ref 0), (1, .int a1), (2, .int a2), (3, .int a3)], [.int (-1)], (0, 0), mi_G) (by rfl) ?_
    exact mi_sem_ret (cal := fun _ _ _ => none) mi_in88 (by rfl)
  · refine mi_met_of (y := 175) (q := (mi_h175, mi_c175)) rfl (by decide) (Nat.le_of_ble_eq_true rfl) ?_
    refine mi_sem_steps mi_in175 (mi_calok_none _ _) 1 _ (1, [(0, .ref 116), (1, .int a1), (2, .int a2), (3, .int a3)], [.int a1], (0, 0), mi_G) (by rfl) ?_
    have hM306 : mi_Met mi_N0 2 mi_h133 [.int a1] mi_G (some (.int 0)) mi_G := by
      refine mi_met_of (y := 133) (q := (mi_h133, mi_c133)) rfl (by decide) (Nat.le_of_ble_eq_true rfl) ?_
      refine mi_sem_steps mi_in133 (mi_calok_none _ _) 3 _ (3, [(0, .int a1)], [.int 5, .int 0, .int a1], (0, 0), mi_G) (by rfl) ?_
      have hM305 : mi_Met mi_N0 1 mi_h131 [.int a1, .int 0, .int 5] mi_G (some (.int 0)) mi_G := by
        refine mi_met_of (y := 131) (q := (mi_h131, mi_c131)) rfl (by decide) (Nat.le_of_ble_eq_true rfl) ?_
        refine mi_sem_steps mi_in131 (mi_calok_none _ _) 2 _ (2, [(0, .int a1), (1, .int 0), (2, .int 5)], [.int 0, .int a1], (0, 0), mi_G) (by rfl) ?_
        refine mi_sem_b mi_in131 (decide (a1 < 0)) true (mi_ltT (0) (by decide) (by omega)) 14 5 ([(0, .int a1), (1, .int 0), (2, .int 5)], [], (0, 0), mi_G) (by rfl) ?_
        refine mi_sem_steps mi_in131 (mi_calok_none _ _) 1 _ (15, [(0, .int a1), (1, .int 0), (2, .int 5)], [.int 0], (0, 0), mi_G) (by rfl) ?_
        exact mi_sem_ret (cal := fun _ _ _ => none) mi_in131 (by rfl)
      refine mi_sem_call mi_in133 (i := (.invokestatic 119, 3, 131, 0, 9, 0, 379)) (by rfl) (by rfl) hM305 (by decide) ⟨Nat.le_of_ble_eq_true rfl, Nat.le_of_ble_eq_true rfl⟩ ?_
      exact mi_sem_ret (cal := fun _ _ _ => none) mi_in133 (by rfl)
    refine mi_sem_call mi_in175 (i := (.invokestatic 127, 3, 133, 0, 9, 0, 382)) (by rfl) (by rfl) hM306 (by decide) ⟨Nat.le_of_ble_eq_true rfl, Nat.le_of_ble_eq_true rfl⟩ ?_
    refine mi_sem_steps mi_in175 (mi_calok_none _ _) 2 _ (37, [(0, .ref 116), (1, .int a1), (2, .int a2), (3, .int a3)], [.int (-1)], (0, 0), mi_G) (by rfl) ?_
    exact mi_sem_ret (cal := fun _ _ _ => none) mi_in175 (by rfl)

set_option maxRecDepth 100000 in
set_option maxHeartbeats 4000000 in
theorem mp_market_1 (a1 : Int32) (a2 : Int32) (a3 : Int32) (r0 : (-2147483648) ≤ (a3).toInt ∧ (a3).toInt ≤ (-1)) (r1 : 0 ≤ (a1).toInt ∧ (a1).toInt ≤ 5) : mi_P 88 175 [.int a1, .int a2, .int a3] := by
  refine ⟨.int (-1), mi_G, mi_G, (mi_h88, mi_c88), (mi_h175, mi_c175), 2, 3, rfl, rfl, rfl, by decide, by decide, ?_, ?_⟩
  · refine mi_met_of (y := 88) (q := (mi_h88, mi_c88)) rfl (by decide) (Nat.le_of_ble_eq_true rfl) ?_
    refine mi_sem_steps mi_in88 (mi_calok_none _ _) 3 _ (3, [(0, .ref 0), (1, .int a1), (2, .int a2), (3, .int a3)], [.int 3, .int 0, .int a3], (0, 0), mi_G) (by rfl) ?_
    have hM308 : mi_Met mi_N0 1 mi_h120 [.int a3, .int 0, .int 3] mi_G (some (.int 0)) mi_G := by
      refine mi_met_of (y := 120) (q := (mi_h120, mi_c120)) rfl (by decide) (Nat.le_of_ble_eq_true rfl) ?_
      refine mi_sem_steps mi_in120 (mi_calok_none _ _) 2 _ (2, [(0, .int a3), (1, .int 0), (2, .int 3)], [.int 0, .int a3], (0, 0), mi_G) (by rfl) ?_
      refine mi_sem_b mi_in120 (decide (a3 < 0)) true (mi_ltT (0) (by decide) (by omega)) 14 5 ([(0, .int a3), (1, .int 0), (2, .int 3)], [], (0, 0), mi_G) (by rfl) ?_
      refine mi_sem_steps mi_in120 (mi_calok_none _ _) 1 _ (15, [(0, .int a3), (1, .int 0), (2, .int 3)], [.int 0], (0, 0), mi_G) (by rfl) ?_
      exact mi_sem_ret (cal := fun _ _ _ => none) mi_in120 (by rfl)
    refine mi_sem_call mi_in88 (i := (.invokestatic 74, 3, 120, 0, 9, 0, 152)) (by rfl) (by rfl) hM308 (by decide) ⟨Nat.le_of_ble_eq_true rfl, Nat.le_of_ble_eq_true rfl⟩ ?_
    refine mi_sem_steps mi_in88 (mi_calok_none _ _) 2 _ (30, [(0, .ref 0), (1, .int a1), (2, .int a2), (3, .int a3)], [.int (-1)], (0, 0), mi_G) (by rfl) ?_
    exact mi_sem_ret (cal := fun _ _ _ => none) mi_in88 (by rfl)
  · refine mi_met_of (y := 175) (q := (mi_h175, mi_c175)) rfl (by decide) (Nat.le_of_ble_eq_true rfl) ?_
    refine mi_sem_steps mi_in175 (mi_calok_none _ _) 1 _ (1, [(0, .ref 116), (1, .int a1), (2, .int a2), (3, .int a3)], [.int a1], (0, 0), mi_G) (by rfl) ?_
    have hM310 : mi_Met mi_N0 2 mi_h133 [.int a1] mi_G (some (.int 1)) mi_G := by
      refine mi_met_of (y := 133) (q := (mi_h133, mi_c133)) rfl (by decide) (Nat.le_of_ble_eq_true rfl) ?_
      refine mi_sem_steps mi_in133 (mi_calok_none _ _) 3 _ (3, [(0, .int a1)], [.int 5, .int 0, .int a1], (0, 0), mi_G) (by rfl) ?_
      have hM309 : mi_Met mi_N0 1 mi_h131 [.int a1, .int 0, .int 5] mi_G (some (.int 1)) mi_G := by
        refine mi_met_of (y := 131) (q := (mi_h131, mi_c131)) rfl (by decide) (Nat.le_of_ble_eq_true rfl) ?_
        refine mi_sem_steps mi_in131 (mi_calok_none _ _) 2 _ (2, [(0, .int a1), (1, .int 0), (2, .int 5)], [.int 0, .int a1], (0, 0), mi_G) (by rfl) ?_
        refine mi_sem_b mi_in131 (decide (a1 < 0)) false (mi_ltF (0) (by decide) (by omega)) 14 5 ([(0, .int a1), (1, .int 0), (2, .int 5)], [], (0, 0), mi_G) (by rfl) ?_
        refine mi_sem_steps mi_in131 (mi_calok_none _ _) 2 _ (7, [(0, .int a1), (1, .int 0), (2, .int 5)], [.int 5, .int a1], (0, 0), mi_G) (by rfl) ?_
        refine mi_sem_b mi_in131 (decide (5 < a1)) false (mi_ltF2 (5) (by decide) (by omega)) 14 10 ([(0, .int a1), (1, .int 0), (2, .int 5)], [], (0, 0), mi_G) (by rfl) ?_
        refine mi_sem_steps mi_in131 (mi_calok_none _ _) 2 _ (15, [(0, .int a1), (1, .int 0), (2, .int 5)], [.int 1], (0, 0), mi_G) (by rfl) ?_
        exact mi_sem_ret (cal := fun _ _ _ => none) mi_in131 (by rfl)
      refine mi_sem_call mi_in133 (i := (.invokestatic 119, 3, 131, 0, 9, 0, 379)) (by rfl) (by rfl) hM309 (by decide) ⟨Nat.le_of_ble_eq_true rfl, Nat.le_of_ble_eq_true rfl⟩ ?_
      exact mi_sem_ret (cal := fun _ _ _ => none) mi_in133 (by rfl)
    refine mi_sem_call mi_in175 (i := (.invokestatic 127, 3, 133, 0, 9, 0, 382)) (by rfl) (by rfl) hM310 (by decide) ⟨Nat.le_of_ble_eq_true rfl, Nat.le_of_ble_eq_true rfl⟩ ?_
    refine mi_sem_steps mi_in175 (mi_calok_none _ _) 4 _ (10, [(0, .ref 116), (1, .int a1), (2, .int a2), (3, .int a3)], [.int 3, .int 0, .int a3], (0, 0), mi_G) (by rfl) ?_
    have hM311 : mi_Met mi_N0 1 mi_h131 [.int a3, .int 0, .int 3] mi_G (some (.int 0)) mi_G := by
      refine mi_met_of (y := 131) (q := (mi_h131, mi_c131)) rfl (by decide) (Nat.le_of_ble_eq_true rfl) ?_
      refine mi_sem_steps mi_in131 (mi_calok_none _ _) 2 _ (2, [(0, .int a3), (1, .int 0), (2, .int 3)], [.int 0, .int a3], (0, 0), mi_G) (by rfl) ?_
      refine mi_sem_b mi_in131 (decide (a3 < 0)) true (mi_ltT (0) (by decide) (by omega)) 14 5 ([(0, .int a3), (1, .int 0), (2, .int 3)], [], (0, 0), mi_G) (by rfl) ?_
      refine mi_sem_steps mi_in131 (mi_calok_none _ _) 1 _ (15, [(0, .int a3), (1, .int 0), (2, .int 3)], [.int 0], (0, 0), mi_G) (by rfl) ?_
      exact mi_sem_ret (cal := fun _ _ _ => none) mi_in131 (by rfl)
    refine mi_sem_call mi_in175 (i := (.invokestatic 119, 3, 131, 0, 9, 0, 379)) (by rfl) (by rfl) hM311 (by decide) ⟨Nat.le_of_ble_eq_true rfl, Nat.le_of_ble_eq_true rfl⟩ ?_
    refine mi_sem_steps mi_in175 (mi_calok_none _ _) 2 _ (37, [(0, .ref 116), (1, .int a1), (2, .int a2), (3, .int a3)], [.int (-1)], (0, 0), mi_G) (by rfl) ?_
    exact mi_sem_ret (cal := fun _ _ _ => none) mi_in175 (by rfl)

set_option maxRecDepth 100000 in
set_option maxHeartbeats 4000000 in
theorem mp_market_2 (a1 : Int32) (a2 : Int32) (a3 : Int32) (r0 : (-2147483648) ≤ (a3).toInt ∧ (a3).toInt ≤ (-1)) (r1 : 6 ≤ (a1).toInt ∧ (a1).toInt ≤ 2147483647) : mi_P 88 175 [.int a1, .int a2, .int a3] := by
  refine ⟨.int (-1), mi_G, mi_G, (mi_h88, mi_c88), (mi_h175, mi_c175), 2, 3, rfl, rfl, rfl, by decide, by decide, ?_, ?_⟩
  · refine mi_met_of (y := 88) (q := (mi_h88, mi_c88)) rfl (by decide) (Nat.le_of_ble_eq_true rfl) ?_
    refine mi_sem_steps mi_in88 (mi_calok_none _ _) 3 _ (3, [(0, .ref 0), (1, .int a1), (2, .int a2), (3, .int a3)], [.int 3, .int 0, .int a3], (0, 0), mi_G) (by rfl) ?_
    have hM312 : mi_Met mi_N0 1 mi_h120 [.int a3, .int 0, .int 3] mi_G (some (.int 0)) mi_G := by
      refine mi_met_of (y := 120) (q := (mi_h120, mi_c120)) rfl (by decide) (Nat.le_of_ble_eq_true rfl) ?_
      refine mi_sem_steps mi_in120 (mi_calok_none _ _) 2 _ (2, [(0, .int a3), (1, .int 0), (2, .int 3)], [.int 0, .int a3], (0, 0), mi_G) (by rfl) ?_
      refine mi_sem_b mi_in120 (decide (a3 < 0)) true (mi_ltT (0) (by decide) (by omega)) 14 5 ([(0, .int a3), (1, .int 0), (2, .int 3)], [], (0, 0), mi_G) (by rfl) ?_
      refine mi_sem_steps mi_in120 (mi_calok_none _ _) 1 _ (15, [(0, .int a3), (1, .int 0), (2, .int 3)], [.int 0], (0, 0), mi_G) (by rfl) ?_
      exact mi_sem_ret (cal := fun _ _ _ => none) mi_in120 (by rfl)
    refine mi_sem_call mi_in88 (i := (.invokestatic 74, 3, 120, 0, 9, 0, 152)) (by rfl) (by rfl) hM312 (by decide) ⟨Nat.le_of_ble_eq_true rfl, Nat.le_of_ble_eq_true rfl⟩ ?_
    refine mi_sem_steps mi_in88 (mi_calok_none _ _) 2 _ (30, [(0, .ref 0), (1, .int a1), (2, .int a2), (3, .int a3)], [.int (-1)], (0, 0), mi_G) (by rfl) ?_
    exact mi_sem_ret (cal := fun _ _ _ => none) mi_in88 (by rfl)
  · refine mi_met_of (y := 175) (q := (mi_h175, mi_c175)) rfl (by decide) (Nat.le_of_ble_eq_true rfl) ?_
    refine mi_sem_steps mi_in175 (mi_calok_none _ _) 1 _ (1, [(0, .ref 116), (1, .int a1), (2, .int a2), (3, .int a3)], [.int a1], (0, 0), mi_G) (by rfl) ?_
    have hM314 : mi_Met mi_N0 2 mi_h133 [.int a1] mi_G (some (.int 0)) mi_G := by
      refine mi_met_of (y := 133) (q := (mi_h133, mi_c133)) rfl (by decide) (Nat.le_of_ble_eq_true rfl) ?_
      refine mi_sem_steps mi_in133 (mi_calok_none _ _) 3 _ (3, [(0, .int a1)], [.int 5, .int 0, .int a1], (0, 0), mi_G) (by rfl) ?_
      have hM313 : mi_Met mi_N0 1 mi_h131 [.int a1, .int 0, .int 5] mi_G (some (.int 0)) mi_G := by
        refine mi_met_of (y := 131) (q := (mi_h131, mi_c131)) rfl (by decide) (Nat.le_of_ble_eq_true rfl) ?_
        refine mi_sem_steps mi_in131 (mi_calok_none _ _) 2 _ (2, [(0, .int a1), (1, .int 0), (2, .int 5)], [.int 0, .int a1], (0, 0), mi_G) (by rfl) ?_
        refine mi_sem_b mi_in131 (decide (a1 < 0)) false (mi_ltF (0) (by decide) (by omega)) 14 5 ([(0, .int a1), (1, .int 0), (2, .int 5)], [], (0, 0), mi_G) (by rfl) ?_
        refine mi_sem_steps mi_in131 (mi_calok_none _ _) 2 _ (7, [(0, .int a1), (1, .int 0), (2, .int 5)], [.int 5, .int a1], (0, 0), mi_G) (by rfl) ?_
        refine mi_sem_b mi_in131 (decide (5 < a1)) true (mi_ltT2 (5) (by decide) (by omega)) 14 10 ([(0, .int a1), (1, .int 0), (2, .int 5)], [], (0, 0), mi_G) (by rfl) ?_
        refine mi_sem_steps mi_in131 (mi_calok_none _ _) 1 _ (15, [(0, .int a1), (1, .int 0), (2, .int 5)], [.int 0], (0, 0), mi_G) (by rfl) ?_
        exact mi_sem_ret (cal := fun _ _ _ => none) mi_in131 (by rfl)
      refine mi_sem_call mi_in133 (i := (.invokestatic 119, 3, 131, 0, 9, 0, 379)) (by rfl) (by rfl) hM313 (by decide) ⟨Nat.le_of_ble_eq_true rfl, Nat.le_of_ble_eq_true rfl⟩ ?_
      exact mi_sem_ret (cal := fun _ _ _ => none) mi_in133 (by rfl)
    refine mi_sem_call mi_in175 (i := (.invokestatic 127, 3, 133, 0, 9, 0, 382)) (by rfl) (by rfl) hM314 (by decide) ⟨Nat.le_of_ble_eq_true rfl, Nat.le_of_ble_eq_true rfl⟩ ?_
    refine mi_sem_steps mi_in175 (mi_calok_none _ _) 2 _ (37, [(0, .ref 116), (1, .int a1), (2, .int a2), (3, .int a3)], [.int (-1)], (0, 0), mi_G) (by rfl) ?_
    exact mi_sem_ret (cal := fun _ _ _ => none) mi_in175 (by rfl)

set_option maxRecDepth 100000 in
set_option maxHeartbeats 4000000 in
theorem mp_market_3 (a1 : Int32) (a2 : Int32) (a3 : Int32) (r0 : 0 ≤ (a3).toInt ∧ (a3).toInt ≤ 2) (r1 : (-2147483648) ≤ (a2).toInt ∧ (a2).toInt ≤ (-1)) (r2 : (-2147483648) ≤ (a1).toInt ∧ (a1).toInt ≤ (-1)) : mi_P 88 175 [.int a1, .int a2, .int a3] := by
  refine ⟨.int (-1), mi_G, mi_G, (mi_h88, mi_c88), (mi_h175, mi_c175), 2, 3, rfl, rfl, rfl, by decide, by decide, ?_, ?_⟩
  · refine mi_met_of (y := 88) (q := (mi_h88, mi_c88)) rfl (by decide) (Nat.le_of_ble_eq_true rfl) ?_
    refine mi_sem_steps mi_in88 (mi_calok_none _ _) 3 _ (3, [(0, .ref 0), (1, .int a1), (2, .int a2), (3, .int a3)], [.int 3, .int 0, .int a3], (0, 0), mi_G) (by rfl) ?_
    have hM318 : mi_Met mi_N0 1 mi_h120 [.int a3, .int 0, .int 3] mi_G (some (.int 1)) mi_G := by
      refine mi_met_of (y := 120) (q := (mi_h120, mi_c120)) rfl (by decide) (Nat.le_of_ble_eq_true rfl) ?_
      refine mi_sem_steps mi_in120 (mi_calok_none _ _) 2 _ (2, [(0, .int a3), (1, .int 0), (2, .int 3)], [.int 0, .int a3], (0, 0), mi_G) (by rfl) ?_
      refine mi_sem_b mi_in120 (decide (a3 < 0)) false (mi_ltF (0) (by decide) (by omega)) 14 5 ([(0, .int a3), (1, .int 0), (2, .int 3)], [], (0, 0), mi_G) (by rfl) ?_
      refine mi_sem_steps mi_in120 (mi_calok_none _ _) 2 _ (7, [(0, .int a3), (1, .int 0), (2, .int 3)], [.int 3, .int a3], (0, 0), mi_G) (by rfl) ?_
      refine mi_sem_b mi_in120 (decide (3 < a3)) false (mi_ltF2 (3) (by decide) (by omega)) 14 10 ([(0, .int a3), (1, .int 0), (2, .int 3)], [], (0, 0), mi_G) (by rfl) ?_
      refine mi_sem_steps mi_in120 (mi_calok_none _ _) 2 _ (15, [(0, .int a3), (1, .int 0), (2, .int 3)], [.int 1], (0, 0), mi_G) (by rfl) ?_
      exact mi_sem_ret (cal := fun _ _ _ => none) mi_in120 (by rfl)
    refine mi_sem_call mi_in88 (i := (.invokestatic 74, 3, 120, 0, 9, 0, 152)) (by rfl) (by rfl) hM318 (by decide) ⟨Nat.le_of_ble_eq_true rfl, Nat.le_of_ble_eq_true rfl⟩ ?_
    refine mi_sem_steps mi_in88 (mi_calok_none _ _) 3 _ (11, [(0, .ref 0), (1, .int a1), (2, .int a2), (3, .int a3)], [.int 3, .int a3], (0, 0), mi_G) (by rfl) ?_
    refine mi_sem_b mi_in88 ((a3 != 3)) true (mi_neT (3) (by decide) (by omega)) 25 14 ([(0, .ref 0), (1, .int a1), (2, .int a2), (3, .int a3)], [], (0, 0), mi_G) (by rfl) ?_
    refine mi_sem_steps mi_in88 (mi_calok_none _ _) 1 _ (26, [(0, .ref 0), (1, .int a1), (2, .int a2), (3, .int a3)], [.int a2], (0, 0), mi_G) (by rfl) ?_
    refine mi_sem_b mi_in88 ((a2 == 0)) false (mi_eqF (0) (by decide) (by omega)) 31 29 ([(0, .ref 0), (1, .int a1), (2, .int a2), (3, .int a3)], [], (0, 0), mi_G) (by rfl) ?_
    refine mi_sem_steps mi_in88 (mi_calok_none _ _) 1 _ (30, [(0, .ref 0), (1, .int a1), (2, .int a2), (3, .int a3)], [.int (-1)], (0, 0), mi_G) (by rfl) ?_
    exact mi_sem_ret (cal := fun _ _ _ => none) mi_in88 (by rfl)
  · refine mi_met_of (y := 175) (q := (mi_h175, mi_c175)) rfl (by decide) (Nat.le_of_ble_eq_true rfl) ?_
    refine mi_sem_steps mi_in175 (mi_calok_none _ _) 1 _ (1, [(0, .ref 116), (1, .int a1), (2, .int a2), (3, .int a3)], [.int a1], (0, 0), mi_G) (by rfl) ?_
    have hM320 : mi_Met mi_N0 2 mi_h133 [.int a1] mi_G (some (.int 0)) mi_G := by
      refine mi_met_of (y := 133) (q := (mi_h133, mi_c133)) rfl (by decide) (Nat.le_of_ble_eq_true rfl) ?_
      refine mi_sem_steps mi_in133 (mi_calok_none _ _) 3 _ (3, [(0, .int a1)], [.int 5, .int 0, .int a1], (0, 0), mi_G) (by rfl) ?_
      have hM319 : mi_Met mi_N0 1 mi_h131 [.int a1, .int 0, .int 5] mi_G (some (.int 0)) mi_G := by
        refine mi_met_of (y := 131) (q := (mi_h131, mi_c131)) rfl (by decide) (Nat.le_of_ble_eq_true rfl) ?_
        refine mi_sem_steps mi_in131 (mi_calok_none _ _) 2 _ (2, [(0, .int a1), (1, .int 0), (2, .int 5)], [.int 0, .int a1], (0, 0), mi_G) (by rfl) ?_
        refine mi_sem_b mi_in131 (decide (a1 < 0)) true (mi_ltT (0) (by decide) (by omega)) 14 5 ([(0, .int a1), (1, .int 0), (2, .int 5)], [], (0, 0), mi_G) (by rfl) ?_
        refine mi_sem_steps mi_in131 (mi_calok_none _ _) 1 _ (15, [(0, .int a1), (1, .int 0), (2, .int 5)], [.int 0], (0, 0), mi_G) (by rfl) ?_
        exact mi_sem_ret (cal := fun _ _ _ => none) mi_in131 (by rfl)
      refine mi_sem_call mi_in133 (i := (.invokestatic 119, 3, 131, 0, 9, 0, 379)) (by rfl) (by rfl) hM319 (by decide) ⟨Nat.le_of_ble_eq_true rfl, Nat.le_of_ble_eq_true rfl⟩ ?_
      exact mi_sem_ret (cal := fun _ _ _ => none) mi_in133 (by rfl)
    refine mi_sem_call mi_in175 (i := (.invokestatic 127, 3, 133, 0, 9, 0, 382)) (by rfl) (by rfl) hM320 (by decide) ⟨Nat.le_of_ble_eq_true rfl, Nat.le_of_ble_eq_true rfl⟩ ?_
    refine mi_sem_steps mi_in175 (mi_calok_none _ _) 2 _ (37, [(0, .ref 116), (1, .int a1), (2, .int a2), (3, .int a3)], [.int (-1)], (0, 0), mi_G) (by rfl) ?_
    exact mi_sem_ret (cal := fun _ _ _ => none) mi_in175 (by rfl)

set_option maxRecDepth 100000 in
set_option maxHeartbeats 4000000 in
theorem mp_market_4 (a1 : Int32) (a2 : Int32) (a3 : Int32) (r0 : 0 ≤ (a3).toInt ∧ (a3).toInt ≤ 2) (r1 : (-2147483648) ≤ (a2).toInt ∧ (a2).toInt ≤ (-1)) (r2 : 0 ≤ (a1).toInt ∧ (a1).toInt ≤ 5) : mi_P 88 175 [.int a1, .int a2, .int a3] := by
  refine ⟨.int (-1), mi_G, mi_G, (mi_h88, mi_c88), (mi_h175, mi_c175), 2, 3, rfl, rfl, rfl, by decide, by decide, ?_, ?_⟩
  · refine mi_met_of (y := 88) (q := (mi_h88, mi_c88)) rfl (by decide) (Nat.le_of_ble_eq_true rfl) ?_
    refine mi_sem_steps mi_in88 (mi_calok_none _ _) 3 _ (3, [(0, .ref 0), (1, .int a1), (2, .int a2), (3, .int a3)], [.int 3, .int 0, .int a3], (0, 0), mi_G) (by rfl) ?_
    have hM322 : mi_Met mi_N0 1 mi_h120 [.int a3, .int 0, .int 3] mi_G (some (.int 1)) mi_G := by
      refine mi_met_of (y := 120) (q := (mi_h120, mi_c120)) rfl (by decide) (Nat.le_of_ble_eq_true rfl) ?_
      refine mi_sem_steps mi_in120 (mi_calok_none _ _) 2 _ (2, [(0, .int a3), (1, .int 0), (2, .int 3)], [.int 0, .int a3], (0, 0), mi_G) (by rfl) ?_
      refine mi_sem_b mi_in120 (decide (a3 < 0)) false (mi_ltF (0) (by decide) (by omega)) 14 5 ([(0, .int a3), (1, .int 0), (2, .int 3)], [], (0, 0), mi_G) (by rfl) ?_
      refine mi_sem_steps mi_in120 (mi_calok_none _ _) 2 _ (7, [(0, .int a3), (1, .int 0), (2, .int 3)], [.int 3, .int a3], (0, 0), mi_G) (by rfl) ?_
      refine mi_sem_b mi_in120 (decide (3 < a3)) false (mi_ltF2 (3) (by decide) (by omega)) 14 10 ([(0, .int a3), (1, .int 0), (2, .int 3)], [], (0, 0), mi_G) (by rfl) ?_
      refine mi_sem_steps mi_in120 (mi_calok_none _ _) 2 _ (15, [(0, .int a3), (1, .int 0), (2, .int 3)], [.int 1], (0, 0), mi_G) (by rfl) ?_
      exact mi_sem_ret (cal := fun _ _ _ => none) mi_in120 (by rfl)
    refine mi_sem_call mi_in88 (i := (.invokestatic 74, 3, 120, 0, 9, 0, 152)) (by rfl) (by rfl) hM322 (by decide) ⟨Nat.le_of_ble_eq_true rfl, Nat.le_of_ble_eq_true rfl⟩ ?_
    refine mi_sem_steps mi_in88 (mi_calok_none _ _) 3 _ (11, [(0, .ref 0), (1, .int a1), (2, .int a2), (3, .int a3)], [.int 3, .int a3], (0, 0), mi_G) (by rfl) ?_
    refine mi_sem_b mi_in88 ((a3 != 3)) true (mi_neT (3) (by decide) (by omega)) 25 14 ([(0, .ref 0), (1, .int a1), (2, .int a2), (3, .int a3)], [], (0, 0), mi_G) (by rfl) ?_
    refine mi_sem_steps mi_in88 (mi_calok_none _ _) 1 _ (26, [(0, .ref 0), (1, .int a1), (2, .int a2), (3, .int a3)], [.int a2], (0, 0), mi_G) (by rfl) ?_
    refine mi_sem_b mi_in88 ((a2 == 0)) false (mi_eqF (0) (by decide) (by omega)) 31 29 ([(0, .ref 0), (1, .int a1), (2, .int a2), (3, .int a3)], [], (0, 0), mi_G) (by rfl) ?_
    refine mi_sem_steps mi_in88 (mi_calok_none _ _) 1 _ (30, [(0, .ref 0), (1, .int a1), (2, .int a2), (3, .int a3)], [.int (-1)], (0, 0), mi_G) (by rfl) ?_
    exact mi_sem_ret (cal := fun _ _ _ => none) mi_in88 (by rfl)
  · refine mi_met_of (y := 175) (q := (mi_h175, mi_c175)) rfl (by decide) (Nat.le_of_ble_eq_true rfl) ?_
    refine mi_sem_steps mi_in175 (mi_calok_none _ _) 1 _ (1, [(0, .ref 116), (1, .int a1), (2, .int a2), (3, .int a3)], [.int a1], (0, 0), mi_G) (by rfl) ?_
    have hM324 : mi_Met mi_N0 2 mi_h133 [.int a1] mi_G (some (.int 1)) mi_G := by
      refine mi_met_of (y := 133) (q := (mi_h133, mi_c133)) rfl (by decide) (Nat.le_of_ble_eq_true rfl) ?_
      refine mi_sem_steps mi_in133 (mi_calok_none _ _) 3 _ (3, [(0, .int a1)], [.int 5, .int 0, .int a1], (0, 0), mi_G) (by rfl) ?_
      have hM323 : mi_Met mi_N0 1 mi_h131 [.int a1, .int 0, .int 5] mi_G (some (.int 1)) mi_G := by
        refine mi_met_of (y := 131) (q := (mi_h131, mi_c131)) rfl (by decide) (Nat.le_of_ble_eq_true rfl) ?_
        refine mi_sem_steps mi_in131 (mi_calok_none _ _) 2 _ (2, [(0, .int a1), (1, .int 0), (2, .int 5)], [.int 0, .int a1], (0, 0), mi_G) (by rfl) ?_
        refine mi_sem_b mi_in131 (decide (a1 < 0)) false (mi_ltF (0) (by decide) (by omega)) 14 5 ([(0, .int a1), (1, .int 0), (2, .int 5)], [], (0, 0), mi_G) (by rfl) ?_
        refine mi_sem_steps mi_in131 (mi_calok_none _ _) 2 _ (7, [(0, .int a1), (1, .int 0), (2, .int 5)], [.int 5, .int a1], (0, 0), mi_G) (by rfl) ?_
        refine mi_sem_b mi_in131 (decide (5 < a1)) false (mi_ltF2 (5) (by decide) (by omega)) 14 10 ([(0, .int a1), (1, .int 0), (2, .int 5)], [], (0, 0), mi_G) (by rfl) ?_
        refine mi_sem_steps mi_in131 (mi_calok_none _ _) 2 _ (15, [(0, .int a1), (1, .int 0), (2, .int 5)], [.int 1], (0, 0), mi_G) (by rfl) ?_
        exact mi_sem_ret (cal := fun _ _ _ => none) mi_in131 (by rfl)
      refine mi_sem_call mi_in133 (i := (.invokestatic 119, 3, 131, 0, 9, 0, 379)) (by rfl) (by rfl) hM323 (by decide) ⟨Nat.le_of_ble_eq_true rfl, Nat.le_of_ble_eq_true rfl⟩ ?_
      exact mi_sem_ret (cal := fun _ _ _ => none) mi_in133 (by rfl)
    refine mi_sem_call mi_in175 (i := (.invokestatic 127, 3, 133, 0, 9, 0, 382)) (by rfl) (by rfl) hM324 (by decide) ⟨Nat.le_of_ble_eq_true rfl, Nat.le_of_ble_eq_true rfl⟩ ?_
    refine mi_sem_steps mi_in175 (mi_calok_none _ _) 4 _ (10, [(0, .ref 116), (1, .int a1), (2, .int a2), (3, .int a3)], [.int 3, .int 0, .int a3], (0, 0), mi_G) (by rfl) ?_
    have hM325 : mi_Met mi_N0 1 mi_h131 [.int a3, .int 0, .int 3] mi_G (some (.int 1)) mi_G := by
      refine mi_met_of (y := 131) (q := (mi_h131, mi_c131)) rfl (by decide) (Nat.le_of_ble_eq_true rfl) ?_
      refine mi_sem_steps mi_in131 (mi_calok_none _ _) 2 _ (2, [(0, .int a3), (1, .int 0), (2, .int 3)], [.int 0, .int a3], (0, 0), mi_G) (by rfl) ?_
      refine mi_sem_b mi_in131 (decide (a3 < 0)) false (mi_ltF (0) (by decide) (by omega)) 14 5 ([(0, .int a3), (1, .int 0), (2, .int 3)], [], (0, 0), mi_G) (by rfl) ?_
      refine mi_sem_steps mi_in131 (mi_calok_none _ _) 2 _ (7, [(0, .int a3), (1, .int 0), (2, .int 3)], [.int 3, .int a3], (0, 0), mi_G) (by rfl) ?_
      refine mi_sem_b mi_in131 (decide (3 < a3)) false (mi_ltF2 (3) (by decide) (by omega)) 14 10 ([(0, .int a3), (1, .int 0), (2, .int 3)], [], (0, 0), mi_G) (by rfl) ?_
      refine mi_sem_steps mi_in131 (mi_calok_none _ _) 2 _ (15, [(0, .int a3), (1, .int 0), (2, .int 3)], [.int 1], (0, 0), mi_G) (by rfl) ?_
      exact mi_sem_ret (cal := fun _ _ _ => none) mi_in131 (by rfl)
    refine mi_sem_call mi_in175 (i := (.invokestatic 119, 3, 131, 0, 9, 0, 379)) (by rfl) (by rfl) hM325 (by decide) ⟨Nat.le_of_ble_eq_true rfl, Nat.le_of_ble_eq_true rfl⟩ ?_
    refine mi_sem_steps mi_in175 (mi_calok_none _ _) 3 _ (18, [(0, .ref 116), (1, .int a1), (2, .int a2), (3, .int a3)], [.int 3, .int a3], (0, 0), mi_G) (by rfl) ?_
    refine mi_sem_b mi_in175 ((a3 != 3)) true (mi_neT (3) (by decide) (by omega)) 32 21 ([(0, .ref 116), (1, .int a1), (2, .int a2), (3, .int a3)], [], (0, 0), mi_G) (by rfl) ?_
    refine mi_sem_steps mi_in175 (mi_calok_none _ _) 1 _ (33, [(0, .ref 116), (1, .int a1), (2, .int a2), (3, .int a3)], [.int a2], (0, 0), mi_G) (by rfl) ?_
    refine mi_sem_b mi_in175 ((a2 == 0)) false (mi_eqF (0) (by decide) (by omega)) 38 36 ([(0, .ref 116), (1, .int a1), (2, .int a2), (3, .int a3)], [], (0, 0), mi_G) (by rfl) ?_
    refine mi_sem_steps mi_in175 (mi_calok_none _ _) 1 _ (37, [(0, .ref 116), (1, .int a1), (2, .int a2), (3, .int a3)], [.int (-1)], (0, 0), mi_G) (by rfl) ?_
    exact mi_sem_ret (cal := fun _ _ _ => none) mi_in175 (by rfl)

set_option maxRecDepth 100000 in
set_option maxHeartbeats 4000000 in
theorem mp_market_5 (a1 : Int32) (a2 : Int32) (a3 : Int32) (r0 : 0 ≤ (a3).toInt ∧ (a3).toInt ≤ 2) (r1 : (-2147483648) ≤ (a2).toInt ∧ (a2).toInt ≤ (-1)) (r2 : 6 ≤ (a1).toInt ∧ (a1).toInt ≤ 2147483647) : mi_P 88 175 [.int a1, .int a2, .int a3] := by
  refine ⟨.int (-1), mi_G, mi_G, (mi_h88, mi_c88), (mi_h175, mi_c175), 2, 3, rfl, rfl, rfl, by decide, by decide, ?_, ?_⟩
  · refine mi_met_of (y := 88) (q := (mi_h88, mi_c88)) rfl (by decide) (Nat.le_of_ble_eq_true rfl) ?_
    refine mi_sem_steps mi_in88 (mi_calok_none _ _) 3 _ (3, [(0, .ref 0), (1, .int a1), (2, .int a2), (3, .int a3)], [.int 3, .int 0, .int a3], (0, 0), mi_G) (by rfl) ?_
    have hM326 : mi_Met mi_N0 1 mi_h120 [.int a3, .int 0, .int 3] mi_G (some (.int 1)) mi_G := by
      refine mi_met_of (y := 120) (q := (mi_h120, mi_c120)) rfl (by decide) (Nat.le_of_ble_eq_true rfl) ?_
      refine mi_sem_steps mi_in120 (mi_calok_none _ _) 2 _ (2, [(0, .int a3), (1, .int 0), (2, .int 3)], [.int 0, .int a3], (0, 0), mi_G) (by rfl) ?_
      refine mi_sem_b mi_in120 (decide (a3 < 0)) false (mi_ltF (0) (by decide) (by omega)) 14 5 ([(0, .int a3), (1, .int 0), (2, .int 3)], [], (0, 0), mi_G) (by rfl) ?_
      refine mi_sem_steps mi_in120 (mi_calok_none _ _) 2 _ (7, [(0, .int a3), (1, .int 0), (2, .int 3)], [.int 3, .int a3], (0, 0), mi_G) (by rfl) ?_
      refine mi_sem_b mi_in120 (decide (3 < a3)) false (mi_ltF2 (3) (by decide) (by omega)) 14 10 ([(0, .int a3), (1, .int 0), (2, .int 3)], [], (0, 0), mi_G) (by rfl) ?_
      refine mi_sem_steps mi_in120 (mi_calok_none _ _) 2 _ (15, [(0, .int a3), (1, .int 0), (2, .int 3)], [.int 1], (0, 0), mi_G) (by rfl) ?_
      exact mi_sem_ret (cal := fun _ _ _ => none) mi_in120 (by rfl)
    refine mi_sem_call mi_in88 (i := (.invokestatic 74, 3, 120, 0, 9, 0, 152)) (by rfl) (by rfl) hM326 (by decide) ⟨Nat.le_of_ble_eq_true rfl, Nat.le_of_ble_eq_true rfl⟩ ?_
    refine mi_sem_steps mi_in88 (mi_calok_none _ _) 3 _ (11, [(0, .ref 0), (1, .int a1), (2, .int a2), (3, .int a3)], [.int 3, .int a3], (0, 0), mi_G) (by rfl) ?_
    refine mi_sem_b mi_in88 ((a3 != 3)) true (mi_neT (3) (by decide) (by omega)) 25 14 ([(0, .ref 0), (1, .int a1), (2, .int a2), (3, .int a3)], [], (0, 0), mi_G) (by rfl) ?_
    refine mi_sem_steps mi_in88 (mi_calok_none _ _) 1 _ (26, [(0, .ref 0), (1, .int a1), (2, .int a2), (3, .int a3)], [.int a2], (0, 0), mi_G) (by rfl) ?_
    refine mi_sem_b mi_in88 ((a2 == 0)) false (mi_eqF (0) (by decide) (by omega)) 31 29 ([(0, .ref 0), (1, .int a1), (2, .int a2), (3, .int a3)], [], (0, 0), mi_G) (by rfl) ?_
    refine mi_sem_steps mi_in88 (mi_calok_none _ _) 1 _ (30, [(0, .ref 0), (1, .int a1), (2, .int a2), (3, .int a3)], [.int (-1)], (0, 0), mi_G) (by rfl) ?_
    exact mi_sem_ret (cal := fun _ _ _ => none) mi_in88 (by rfl)
  · refine mi_met_of (y := 175) (q := (mi_h175, mi_c175)) rfl (by decide) (Nat.le_of_ble_eq_true rfl) ?_
    refine mi_sem_steps mi_in175 (mi_calok_none _ _) 1 _ (1, [(0, .ref 116), (1, .int a1), (2, .int a2), (3, .int a3)], [.int a1], (0, 0), mi_G) (by rfl) ?_
    have hM328 : mi_Met mi_N0 2 mi_h133 [.int a1] mi_G (some (.int 0)) mi_G := by
      refine mi_met_of (y := 133) (q := (mi_h133, mi_c133)) rfl (by decide) (Nat.le_of_ble_eq_true rfl) ?_
      refine mi_sem_steps mi_in133 (mi_calok_none _ _) 3 _ (3, [(0, .int a1)], [.int 5, .int 0, .int a1], (0, 0), mi_G) (by rfl) ?_
      have hM327 : mi_Met mi_N0 1 mi_h131 [.int a1, .int 0, .int 5] mi_G (some (.int 0)) mi_G := by
        refine mi_met_of (y := 131) (q := (mi_h131, mi_c131)) rfl (by decide) (Nat.le_of_ble_eq_true rfl) ?_
        refine mi_sem_steps mi_in131 (mi_calok_none _ _) 2 _ (2, [(0, .int a1), (1, .int 0), (2, .int 5)], [.int 0, .int a1], (0, 0), mi_G) (by rfl) ?_
        refine mi_sem_b mi_in131 (decide (a1 < 0)) false (mi_ltF (0) (by decide) (by omega)) 14 5 ([(0, .int a1), (1, .int 0), (2, .int 5)], [], (0, 0), mi_G) (by rfl) ?_
        refine mi_sem_steps mi_in131 (mi_calok_none _ _) 2 _ (7, [(0, .int a1), (1, .int 0), (2, .int 5)], [.int 5, .int a1], (0, 0), mi_G) (by rfl) ?_
        refine mi_sem_b mi_in131 (decide (5 < a1)) true (mi_ltT2 (5) (by decide) (by omega)) 14 10 ([(0, .int a1), (1, .int 0), (2, .int 5)], [], (0, 0), mi_G) (by rfl) ?_
        refine mi_sem_steps mi_in131 (mi_calok_none _ _) 1 _ (15, [(0, .int a1), (1, .int 0), (2, .int 5)], [.int 0], (0, 0), mi_G) (by rfl) ?_
        exact mi_sem_ret (cal := fun _ _ _ => none) mi_in131 (by rfl)
      refine mi_sem_call mi_in133 (i := (.invokestatic 119, 3, 131, 0, 9, 0, 379)) (by rfl) (by rfl) hM327 (by decide) ⟨Nat.le_of_ble_eq_true rfl, Nat.le_of_ble_eq_true rfl⟩ ?_
      exact mi_sem_ret (cal := fun _ _ _ => none) mi_in133 (by rfl)
    refine mi_sem_call mi_in175 (i := (.invokestatic 127, 3, 133, 0, 9, 0, 382)) (by rfl) (by rfl) hM328 (by decide) ⟨Nat.le_of_ble_eq_true rfl, Nat.le_of_ble_eq_true rfl⟩ ?_
    refine mi_sem_steps mi_in175 (mi_calok_none _ _) 2 _ (37, [(0, .ref 116), (1, .int a1), (2, .int a2), (3, .int a3)], [.int (-1)], (0, 0), mi_G) (by rfl) ?_
    exact mi_sem_ret (cal := fun _ _ _ => none) mi_in175 (by rfl)

set_option maxRecDepth 100000 in
set_option maxHeartbeats 4000000 in
theorem mp_market_6 (a1 : Int32) (a3 : Int32) (r0 : 0 ≤ (a3).toInt ∧ (a3).toInt ≤ 2) (r1 : (-2147483648) ≤ (a1).toInt ∧ (a1).toInt ≤ (-1)) : mi_P 88 175 [.int a1, .int 0, .int a3] := by
  refine ⟨.int (-1), mi_G, mi_G, (mi_h88, mi_c88), (mi_h175, mi_c175), 5, 3, rfl, rfl, rfl, by decide, by decide, ?_, ?_⟩
  · refine mi_met_of (y := 88) (q := (mi_h88, mi_c88)) rfl (by decide) (Nat.le_of_ble_eq_true rfl) ?_
    refine mi_sem_steps mi_in88 (mi_calok_none _ _) 3 _ (3, [(0, .ref 0), (1, .int a1), (2, .int 0), (3, .int a3)], [.int 3, .int 0, .int a3], (0, 0), mi_G) (by rfl) ?_
    have hM331 : mi_Met mi_N0 1 mi_h120 [.int a3, .int 0, .int 3] mi_G (some (.int 1)) mi_G := by
      refine mi_met_of (y := 120) (q := (mi_h120, mi_c120)) rfl (by decide) (Nat.le_of_ble_eq_true rfl) ?_
      refine mi_sem_steps mi_in120 (mi_calok_none _ _) 2 _ (2, [(0, .int a3), (1, .int 0), (2, .int 3)], [.int 0, .int a3], (0, 0), mi_G) (by rfl) ?_
      refine mi_sem_b mi_in120 (decide (a3 < 0)) false (mi_ltF (0) (by decide) (by omega)) 14 5 ([(0, .int a3), (1, .int 0), (2, .int 3)], [], (0, 0), mi_G) (by rfl) ?_
      refine mi_sem_steps mi_in120 (mi_calok_none _ _) 2 _ (7, [(0, .int a3), (1, .int 0), (2, .int 3)], [.int 3, .int a3], (0, 0), mi_G) (by rfl) ?_
      refine mi_sem_b mi_in120 (decide (3 < a3)) false (mi_ltF2 (3) (by decide) (by omega)) 14 10 ([(0, .int a3), (1, .int 0), (2, .int 3)], [], (0, 0), mi_G) (by rfl) ?_
      refine mi_sem_steps mi_in120 (mi_calok_none _ _) 2 _ (15, [(0, .int a3), (1, .int 0), (2, .int 3)], [.int 1], (0, 0), mi_G) (by rfl) ?_
      exact mi_sem_ret (cal := fun _ _ _ => none) mi_in120 (by rfl)
    refine mi_sem_call mi_in88 (i := (.invokestatic 74, 3, 120, 0, 9, 0, 152)) (by rfl) (by rfl) hM331 (by decide) ⟨Nat.le_of_ble_eq_true rfl, Nat.le_of_ble_eq_true rfl⟩ ?_
    refine mi_sem_steps mi_in88 (mi_calok_none _ _) 3 _ (11, [(0, .ref 0), (1, .int a1), (2, .int 0), (3, .int a3)], [.int 3, .int a3], (0, 0), mi_G) (by rfl) ?_
    refine mi_sem_b mi_in88 ((a3 != 3)) true (mi_neT (3) (by decide) (by omega)) 25 14 ([(0, .ref 0), (1, .int a1), (2, .int 0), (3, .int a3)], [], (0, 0), mi_G) (by rfl) ?_
    refine mi_sem_steps mi_in88 (mi_calok_none _ _) 4 _ (33, [(0, .ref 0), (1, .int a1), (2, .int 0), (3, .int a3)], [.int a1, .ref 0], (0, 0), mi_G) (by rfl) ?_
    have hM335 : mi_Met mi_N0 4 mi_h129 [.ref 0, .int a1] mi_G (some (.int (-1))) mi_G := by
      refine mi_met_of (y := 129) (q := (mi_h129, mi_c129)) rfl (by decide) (Nat.le_of_ble_eq_true rfl) ?_
      refine mi_sem_steps mi_in129 (mi_calok_none _ _) 2 _ (2, [(0, .ref 0), (1, .int a1)], [.int a1, .ref 0], (0, 0), mi_G) (by rfl) ?_
      have hM334 : mi_Met mi_N0 3 mi_h127 [.ref 0, .int a1] mi_G (some (.int (-1))) mi_G := by
        refine mi_met_of (y := 127) (q := (mi_h127, mi_c127)) rfl (by decide) (Nat.le_of_ble_eq_true rfl) ?_
        refine mi_sem_steps mi_in127 (mi_calok_none _ _) 1 _ (1, [(0, .ref 0), (1, .int a1)], [.int a1], (0, 0), mi_G) (by rfl) ?_
        have hM333 : mi_Met mi_N0 2 mi_h121 [.int a1] mi_G (some (.int 0)) mi_G := by
          refine mi_met_of (y := 121) (q := (mi_h121, mi_c121)) rfl (by decide) (Nat.le_of_ble_eq_true rfl) ?_
          refine mi_sem_steps mi_in121 (mi_calok_none _ _) 3 _ (3, [(0, .int a1)], [.int 5, .int 0, .int a1], (0, 0), mi_G) (by rfl) ?_
          have hM332 : mi_Met mi_N0 1 mi_h120 [.int a1, .int 0, .int 5] mi_G (some (.int 0)) mi_G := by
            refine mi_met_of (y := 120) (q := (mi_h120, mi_c120)) rfl (by decide) (Nat.le_of_ble_eq_true rfl) ?_
            refine mi_sem_steps mi_in120 (mi_calok_none _ _) 2 _ (2, [(0, .int a1), (1, .int 0), (2, .int 5)], [.int 0, .int a1], (0, 0), mi_G) (by rfl) ?_
            refine mi_sem_b mi_in120 (decide (a1 < 0)) true (mi_ltT (0) (by decide) (by omega)) 14 5 ([(0, .int a1), (1, .int 0), (2, .int 5)], [], (0, 0), mi_G) (by rfl) ?_
            refine mi_sem_steps mi_in120 (mi_calok_none _ _) 1 _ (15, [(0, .int a1), (1, .int 0), (2, .int 5)], [.int 0], (0, 0), mi_G) (by rfl) ?_
            exact mi_sem_ret (cal := fun _ _ _ => none) mi_in120 (by rfl)
          refine mi_sem_call mi_in121 (i := (.invokestatic 74, 3, 120, 0, 9, 0, 152)) (by rfl) (by rfl) hM332 (by decide) ⟨Nat.le_of_ble_eq_true rfl, Nat.le_of_ble_eq_true rfl⟩ ?_
          exact mi_sem_ret (cal := fun _ _ _ => none) mi_in121 (by rfl)
        refine mi_sem_call mi_in127 (i := (.invokestatic 70, 3, 121, 0, 9, 0, 157)) (by rfl) (by rfl) hM333 (by decide) ⟨Nat.le_of_ble_eq_true rfl, Nat.le_of_ble_eq_true rfl⟩ ?_
        refine mi_sem_steps mi_in127 (mi_calok_none _ _) 2 _ (8, [(0, .ref 0), (1, .int a1)], [.int (-1)], (0, 0), mi_G) (by rfl) ?_
        exact mi_sem_ret (cal := fun _ _ _ => none) mi_in127 (by rfl)
      refine mi_sem_call mi_in129 (i := (.invokevirtual 217, 3, 127, 0, 9, 0, 209)) (by rfl) (by rfl) hM334 (by decide) ⟨Nat.le_of_ble_eq_true rfl, Nat.le_of_ble_eq_true rfl⟩ ?_
      refine mi_sem_steps mi_in129 (mi_calok_none _ _) 4 _ (31, [(2, .int (-1)), (0, .ref 0), (1, .int a1)], [.int (-1)], (0, 0), mi_G) (by rfl) ?_
      exact mi_sem_ret (cal := fun _ _ _ => none) mi_in129 (by rfl)
    refine mi_sem_call mi_in88 (i := (.invokevirtual 144, 3, 129, 0, 9, 0, 208)) (by rfl) (by rfl) hM335 (by decide) ⟨Nat.le_of_ble_eq_true rfl, Nat.le_of_ble_eq_true rfl⟩ ?_
    refine mi_sem_steps mi_in88 (mi_calok_none _ _) 4 _ (45, [(4, .int (-1)), (0, .ref 0), (1, .int a1), (2, .int 0), (3, .int a3)], [.int (-1)], (0, 0), mi_G) (by rfl) ?_
    exact mi_sem_ret (cal := fun _ _ _ => none) mi_in88 (by rfl)
  · refine mi_met_of (y := 175) (q := (mi_h175, mi_c175)) rfl (by decide) (Nat.le_of_ble_eq_true rfl) ?_
    refine mi_sem_steps mi_in175 (mi_calok_none _ _) 1 _ (1, [(0, .ref 116), (1, .int a1), (2, .int 0), (3, .int a3)], [.int a1], (0, 0), mi_G) (by rfl) ?_
    have hM337 : mi_Met mi_N0 2 mi_h133 [.int a1] mi_G (some (.int 0)) mi_G := by
      refine mi_met_of (y := 133) (q := (mi_h133, mi_c133)) rfl (by decide) (Nat.le_of_ble_eq_true rfl) ?_
      refine mi_sem_steps mi_in133 (mi_calok_none _ _) 3 _ (3, [(0, .int a1)], [.int 5, .int 0, .int a1], (0, 0), mi_G) (by rfl) ?_
      have hM336 : mi_Met mi_N0 1 mi_h131 [.int a1, .int 0, .int 5] mi_G (some (.int 0)) mi_G := by
        refine mi_met_of (y := 131) (q := (mi_h131, mi_c131)) rfl (by decide) (Nat.le_of_ble_eq_true rfl) ?_
        refine mi_sem_steps mi_in131 (mi_calok_none _ _) 2 _ (2, [(0, .int a1), (1, .int 0), (2, .int 5)], [.int 0, .int a1], (0, 0), mi_G) (by rfl) ?_
        refine mi_sem_b mi_in131 (decide (a1 < 0)) true (mi_ltT (0) (by decide) (by omega)) 14 5 ([(0, .int a1), (1, .int 0), (2, .int 5)], [], (0, 0), mi_G) (by rfl) ?_
        refine mi_sem_steps mi_in131 (mi_calok_none _ _) 1 _ (15, [(0, .int a1), (1, .int 0), (2, .int 5)], [.int 0], (0, 0), mi_G) (by rfl) ?_
        exact mi_sem_ret (cal := fun _ _ _ => none) mi_in131 (by rfl)
      refine mi_sem_call mi_in133 (i := (.invokestatic 119, 3, 131, 0, 9, 0, 379)) (by rfl) (by rfl) hM336 (by decide) ⟨Nat.le_of_ble_eq_true rfl, Nat.le_of_ble_eq_true rfl⟩ ?_
      exact mi_sem_ret (cal := fun _ _ _ => none) mi_in133 (by rfl)
    refine mi_sem_call mi_in175 (i := (.invokestatic 127, 3, 133, 0, 9, 0, 382)) (by rfl) (by rfl) hM337 (by decide) ⟨Nat.le_of_ble_eq_true rfl, Nat.le_of_ble_eq_true rfl⟩ ?_
    refine mi_sem_steps mi_in175 (mi_calok_none _ _) 2 _ (37, [(0, .ref 116), (1, .int a1), (2, .int 0), (3, .int a3)], [.int (-1)], (0, 0), mi_G) (by rfl) ?_
    exact mi_sem_ret (cal := fun _ _ _ => none) mi_in175 (by rfl)

set_option maxRecDepth 100000 in
set_option maxHeartbeats 4000000 in
theorem mp_market_7 (a3 : Int32) (r0 : 0 ≤ (a3).toInt ∧ (a3).toInt ≤ 2) : mi_P 88 175 [.int 0, .int 0, .int a3] := by
  refine ⟨.int (-11), mi_G, mi_G, (mi_h88, mi_c88), (mi_h175, mi_c175), 5, 3, rfl, rfl, rfl, by decide, by decide, ?_, ?_⟩
  · refine mi_met_of (y := 88) (q := (mi_h88, mi_c88)) rfl (by decide) (Nat.le_of_ble_eq_true rfl) ?_
    refine mi_sem_steps mi_in88 (mi_calok_none _ _) 3 _ (3, [(0, .ref 0), (1, .int 0), (2, .int 0), (3, .int a3)], [.int 3, .int 0, .int a3], (0, 0), mi_G) (by rfl) ?_
    have hM342 : mi_Met mi_N0 1 mi_h120 [.int a3, .int 0, .int 3] mi_G (some (.int 1)) mi_G := by
      refine mi_met_of (y := 120) (q := (mi_h120, mi_c120)) rfl (by decide) (Nat.le_of_ble_eq_true rfl) ?_
      refine mi_sem_steps mi_in120 (mi_calok_none _ _) 2 _ (2, [(0, .int a3), (1, .int 0), (2, .int 3)], [.int 0, .int a3], (0, 0), mi_G) (by rfl) ?_
      refine mi_sem_b mi_in120 (decide (a3 < 0)) false (mi_ltF (0) (by decide) (by omega)) 14 5 ([(0, .int a3), (1, .int 0), (2, .int 3)], [], (0, 0), mi_G) (by rfl) ?_
      refine mi_sem_steps mi_in120 (mi_calok_none _ _) 2 _ (7, [(0, .int a3), (1, .int 0), (2, .int 3)], [.int 3, .int a3], (0, 0), mi_G) (by rfl) ?_
      refine mi_sem_b mi_in120 (decide (3 < a3)) false (mi_ltF2 (3) (by decide) (by omega)) 14 10 ([(0, .int a3), (1, .int 0), (2, .int 3)], [], (0, 0), mi_G) (by rfl) ?_
      refine mi_sem_steps mi_in120 (mi_calok_none _ _) 2 _ (15, [(0, .int a3), (1, .int 0), (2, .int 3)], [.int 1], (0, 0), mi_G) (by rfl) ?_
      exact mi_sem_ret (cal := fun _ _ _ => none) mi_in120 (by rfl)
    refine mi_sem_call mi_in88 (i := (.invokestatic 74, 3, 120, 0, 9, 0, 152)) (by rfl) (by rfl) hM342 (by decide) ⟨Nat.le_of_ble_eq_true rfl, Nat.le_of_ble_eq_true rfl⟩ ?_
    refine mi_sem_steps mi_in88 (mi_calok_none _ _) 3 _ (11, [(0, .ref 0), (1, .int 0), (2, .int 0), (3, .int a3)], [.int 3, .int a3], (0, 0), mi_G) (by rfl) ?_
    refine mi_sem_b mi_in88 ((a3 != 3)) true (mi_neT (3) (by decide) (by omega)) 25 14 ([(0, .ref 0), (1, .int 0), (2, .int 0), (3, .int a3)], [], (0, 0), mi_G) (by rfl) ?_
    refine mi_sem_steps mi_in88 (mi_calok_none _ _) 4 _ (33, [(0, .ref 0), (1, .int 0), (2, .int 0), (3, .int a3)], [.int 0, .ref 0], (0, 0), mi_G) (by rfl) ?_
    have hM343 : mi_Met mi_N0 4 mi_h129 [.ref 0, .int 0] mi_G (some (.int (-11))) mi_G := mi_fun_ok mi_N0 4 129 (mi_h129, mi_c129) _ _ _ _ rfl (mi_eR_ok (by decide +kernel))
    refine mi_sem_call mi_in88 (i := (.invokevirtual 144, 3, 129, 0, 9, 0, 208)) (by rfl) (by rfl) hM343 (by decide) ⟨Nat.le_of_ble_eq_true rfl, Nat.le_of_ble_eq_true rfl⟩ ?_
    refine mi_sem_steps mi_in88 (mi_calok_none _ _) 4 _ (45, [(4, .int (-11)), (0, .ref 0), (1, .int 0), (2, .int 0), (3, .int a3)], [.int (-11)], (0, 0), mi_G) (by rfl) ?_
    exact mi_sem_ret (cal := fun _ _ _ => none) mi_in88 (by rfl)
  · refine mi_met_of (y := 175) (q := (mi_h175, mi_c175)) rfl (by decide) (Nat.le_of_ble_eq_true rfl) ?_
    refine mi_sem_steps mi_in175 (mi_calok_none _ _) 1 _ (1, [(0, .ref 116), (1, .int 0), (2, .int 0), (3, .int a3)], [.int 0], (0, 0), mi_G) (by rfl) ?_
    have hM344 : mi_Met mi_N0 2 mi_h133 [.int 0] mi_G (some (.int 1)) mi_G := mi_fun_ok mi_N0 2 133 (mi_h133, mi_c133) _ _ _ _ rfl (mi_eR_ok (by decide +kernel))
    refine mi_sem_call mi_in175 (i := (.invokestatic 127, 3, 133, 0, 9, 0, 382)) (by rfl) (by rfl) hM344 (by decide) ⟨Nat.le_of_ble_eq_true rfl, Nat.le_of_ble_eq_true rfl⟩ ?_
    refine mi_sem_steps mi_in175 (mi_calok_none _ _) 4 _ (10, [(0, .ref 116), (1, .int 0), (2, .int 0), (3, .int a3)], [.int 3, .int 0, .int a3], (0, 0), mi_G) (by rfl) ?_
    have hM345 : mi_Met mi_N0 1 mi_h131 [.int a3, .int 0, .int 3] mi_G (some (.int 1)) mi_G := by
      refine mi_met_of (y := 131) (q := (mi_h131, mi_c131)) rfl (by decide) (Nat.le_of_ble_eq_true rfl) ?_
      refine mi_sem_steps mi_in131 (mi_calok_none _ _) 2 _ (2, [(0, .int a3), (1, .int 0), (2, .int 3)], [.int 0, .int a3], (0, 0), mi_G) (by rfl) ?_
      refine mi_sem_b mi_in131 (decide (a3 < 0)) false (mi_ltF (0) (by decide) (by omega)) 14 5 ([(0, .int a3), (1, .int 0), (2, .int 3)], [], (0, 0), mi_G) (by rfl) ?_
      refine mi_sem_steps mi_in131 (mi_calok_none _ _) 2 _ (7, [(0, .int a3), (1, .int 0), (2, .int 3)], [.int 3, .int a3], (0, 0), mi_G) (by rfl) ?_
      refine mi_sem_b mi_in131 (decide (3 < a3)) false (mi_ltF2 (3) (by decide) (by omega)) 14 10 ([(0, .int a3), (1, .int 0), (2, .int 3)], [], (0, 0), mi_G) (by rfl) ?_
      refine mi_sem_steps mi_in131 (mi_calok_none _ _) 2 _ (15, [(0, .int a3), (1, .int 0), (2, .int 3)], [.int 1], (0, 0), mi_G) (by rfl) ?_
      exact mi_sem_ret (cal := fun _ _ _ => none) mi_in131 (by rfl)
    refine mi_sem_call mi_in175 (i := (.invokestatic 119, 3, 131, 0, 9, 0, 379)) (by rfl) (by rfl) hM345 (by decide) ⟨Nat.le_of_ble_eq_true rfl, Nat.le_of_ble_eq_true rfl⟩ ?_
    refine mi_sem_steps mi_in175 (mi_calok_none _ _) 3 _ (18, [(0, .ref 116), (1, .int 0), (2, .int 0), (3, .int a3)], [.int 3, .int a3], (0, 0), mi_G) (by rfl) ?_
    refine mi_sem_b mi_in175 ((a3 != 3)) true (mi_neT (3) (by decide) (by omega)) 32 21 ([(0, .ref 116), (1, .int 0), (2, .int 0), (3, .int a3)], [], (0, 0), mi_G) (by rfl) ?_
    refine mi_sem_steps mi_in175 (mi_calok_none _ _) 4 _ (40, [(0, .ref 116), (1, .int 0), (2, .int 0), (3, .int a3)], [.int 0, .ref 116], (0, 0), mi_G) (by rfl) ?_
    have hM346 : mi_Met mi_N0 1 mi_h173 [.ref 116, .int 0] mi_G (some (.int (-11))) mi_G := mi_fun_ok mi_N0 1 173 (mi_h173, mi_c173) _ _ _ _ rfl (mi_eR_ok (by decide +kernel))
    refine mi_sem_call mi_in175 (i := (.invokevirtual 276, 3, 173, 0, 9, 0, 410)) (by rfl) (by rfl) hM346 (by decide) ⟨Nat.le_of_ble_eq_true rfl, Nat.le_of_ble_eq_true rfl⟩ ?_
    refine mi_sem_steps mi_in175 (mi_calok_none _ _) 4 _ (52, [(4, .int (-11)), (0, .ref 116), (1, .int 0), (2, .int 0), (3, .int a3)], [.int (-11)], (0, 0), mi_G) (by rfl) ?_
    exact mi_sem_ret (cal := fun _ _ _ => none) mi_in175 (by rfl)

set_option maxRecDepth 100000 in
set_option maxHeartbeats 4000000 in
theorem mp_market_8 (a3 : Int32) (r0 : 0 ≤ (a3).toInt ∧ (a3).toInt ≤ 2) : mi_P 88 175 [.int 1, .int 0, .int a3] := by
  refine ⟨.int (-11), mi_G, mi_G, (mi_h88, mi_c88), (mi_h175, mi_c175), 5, 3, rfl, rfl, rfl, by decide, by decide, ?_, ?_⟩
  · refine mi_met_of (y := 88) (q := (mi_h88, mi_c88)) rfl (by decide) (Nat.le_of_ble_eq_true rfl) ?_
    refine mi_sem_steps mi_in88 (mi_calok_none _ _) 3 _ (3, [(0, .ref 0), (1, .int 1), (2, .int 0), (3, .int a3)], [.int 3, .int 0, .int a3], (0, 0), mi_G) (by rfl) ?_
    have hM350 : mi_Met mi_N0 1 mi_h120 [.int a3, .int 0, .int 3] mi_G (some (.int 1)) mi_G := by
      refine mi_met_of (y := 120) (q := (mi_h120, mi_c120)) rfl (by decide) (Nat.le_of_ble_eq_true rfl) ?_
      refine mi_sem_steps mi_in120 (mi_calok_none _ _) 2 _ (2, [(0, .int a3), (1, .int 0), (2, .int 3)], [.int 0, .int a3], (0, 0), mi_G) (by rfl) ?_
      refine mi_sem_b mi_in120 (decide (a3 < 0)) false (mi_ltF (0) (by decide) (by omega)) 14 5 ([(0, .int a3), (1, .int 0), (2, .int 3)], [], (0, 0), mi_G) (by rfl) ?_
      refine mi_sem_steps mi_in120 (mi_calok_none _ _) 2 _ (7, [(0, .int a3), (1, .int 0), (2, .int 3)], [.int 3, .int a3], (0, 0), mi_G) (by rfl) ?_
      refine mi_sem_b mi_in120 (decide (3 < a3)) false (mi_ltF2 (3) (by decide) (by omega)) 14 10 ([(0, .int a3), (1, .int 0), (2, .int 3)], [], (0, 0), mi_G) (by rfl) ?_
      refine mi_sem_steps mi_in120 (mi_calok_none _ _) 2 _ (15, [(0, .int a3), (1, .int 0), (2, .int 3)], [.int 1], (0, 0), mi_G) (by rfl) ?_
      exact mi_sem_ret (cal := fun _ _ _ => none) mi_in120 (by rfl)
    refine mi_sem_call mi_in88 (i := (.invokestatic 74, 3, 120, 0, 9, 0, 152)) (by rfl) (by rfl) hM350 (by decide) ⟨Nat.le_of_ble_eq_true rfl, Nat.le_of_ble_eq_true rfl⟩ ?_
    refine mi_sem_steps mi_in88 (mi_calok_none _ _) 3 _ (11, [(0, .ref 0), (1, .int 1), (2, .int 0), (3, .int a3)], [.int 3, .int a3], (0, 0), mi_G) (by rfl) ?_
    refine mi_sem_b mi_in88 ((a3 != 3)) true (mi_neT (3) (by decide) (by omega)) 25 14 ([(0, .ref 0), (1, .int 1), (2, .int 0), (3, .int a3)], [], (0, 0), mi_G) (by rfl) ?_
    refine mi_sem_steps mi_in88 (mi_calok_none _ _) 4 _ (33, [(0, .ref 0), (1, .int 1), (2, .int 0), (3, .int a3)], [.int 1, .ref 0], (0, 0), mi_G) (by rfl) ?_
    have hM351 : mi_Met mi_N0 4 mi_h129 [.ref 0, .int 1] mi_G (some (.int (-11))) mi_G := mi_fun_ok mi_N0 4 129 (mi_h129, mi_c129) _ _ _ _ rfl (mi_eR_ok (by decide +kernel))
    refine mi_sem_call mi_in88 (i := (.invokevirtual 144, 3, 129, 0, 9, 0, 208)) (by rfl) (by rfl) hM351 (by decide) ⟨Nat.le_of_ble_eq_true rfl, Nat.le_of_ble_eq_true rfl⟩ ?_
    refine mi_sem_steps mi_in88 (mi_calok_none _ _) 4 _ (45, [(4, .int (-11)), (0, .ref 0), (1, .int 1), (2, .int 0), (3, .int a3)], [.int (-11)], (0, 0), mi_G) (by rfl) ?_
    exact mi_sem_ret (cal := fun _ _ _ => none) mi_in88 (by rfl)
  · refine mi_met_of (y := 175) (q := (mi_h175, mi_c175)) rfl (by decide) (Nat.le_of_ble_eq_true rfl) ?_
    refine mi_sem_steps mi_in175 (mi_calok_none _ _) 1 _ (1, [(0, .ref 116), (1, .int 1), (2, .int 0), (3, .int a3)], [.int 1], (0, 0), mi_G) (by rfl) ?_
    have hM352 : mi_Met mi_N0 2 mi_h133 [.int 1] mi_G (some (.int 1)) mi_G := mi_fun_ok mi_N0 2 133 (mi_h133, mi_c133) _ _ _ _ rfl (mi_eR_ok (by decide +kernel))
    refine mi_sem_call mi_in175 (i := (.invokestatic 127, 3, 133, 0, 9, 0, 382)) (by rfl) (by rfl) hM352 (by decide) ⟨Nat.le_of_ble_eq_true rfl, Nat.le_of_ble_eq_true rfl⟩ ?_
    refine mi_sem_steps mi_in175 (mi_calok_none _ _) 4 _ (10, [(0, .ref 116), (1, .int 1), (2, .int 0), (3, .int a3)], [.int 3, .int 0, .int a3], (0, 0), mi_G) (by rfl) ?_
    have hM353 : mi_Met mi_N0 1 mi_h131 [.int a3, .int 0, .int 3] mi_G (some (.int 1)) mi_G := by
      refine mi_met_of (y := 131) (q := (mi_h131, mi_c131)) rfl (by decide) (Nat.le_of_ble_eq_true rfl) ?_
      refine mi_sem_steps mi_in131 (mi_calok_none _ _) 2 _ (2, [(0, .int a3), (1, .int 0), (2, .int 3)], [.int 0, .int a3], (0, 0), mi_G) (by rfl) ?_
      refine mi_sem_b mi_in131 (decide (a3 < 0)) false (mi_ltF (0) (by decide) (by omega)) 14 5 ([(0, .int a3), (1, .int 0), (2, .int 3)], [], (0, 0), mi_G) (by rfl) ?_
      refine mi_sem_steps mi_in131 (mi_calok_none _ _) 2 _ (7, [(0, .int a3), (1, .int 0), (2, .int 3)], [.int 3, .int a3], (0, 0), mi_G) (by rfl) ?_
      refine mi_sem_b mi_in131 (decide (3 < a3)) false (mi_ltF2 (3) (by decide) (by omega)) 14 10 ([(0, .int a3), (1, .int 0), (2, .int 3)], [], (0, 0), mi_G) (by rfl) ?_
      refine mi_sem_steps mi_in131 (mi_calok_none _ _) 2 _ (15, [(0, .int a3), (1, .int 0), (2, .int 3)], [.int 1], (0, 0), mi_G) (by rfl) ?_
      exact mi_sem_ret (cal := fun _ _ _ => none) mi_in131 (by rfl)
    refine mi_sem_call mi_in175 (i := (.invokestatic 119, 3, 131, 0, 9, 0, 379)) (by rfl) (by rfl) hM353 (by decide) ⟨Nat.le_of_ble_eq_true rfl, Nat.le_of_ble_eq_true rfl⟩ ?_
    refine mi_sem_steps mi_in175 (mi_calok_none _ _) 3 _ (18, [(0, .ref 116), (1, .int 1), (2, .int 0), (3, .int a3)], [.int 3, .int a3], (0, 0), mi_G) (by rfl) ?_
    refine mi_sem_b mi_in175 ((a3 != 3)) true (mi_neT (3) (by decide) (by omega)) 32 21 ([(0, .ref 116), (1, .int 1), (2, .int 0), (3, .int a3)], [], (0, 0), mi_G) (by rfl) ?_
    refine mi_sem_steps mi_in175 (mi_calok_none _ _) 4 _ (40, [(0, .ref 116), (1, .int 1), (2, .int 0), (3, .int a3)], [.int 1, .ref 116], (0, 0), mi_G) (by rfl) ?_
    have hM354 : mi_Met mi_N0 1 mi_h173 [.ref 116, .int 1] mi_G (some (.int (-11))) mi_G := mi_fun_ok mi_N0 1 173 (mi_h173, mi_c173) _ _ _ _ rfl (mi_eR_ok (by decide +kernel))
    refine mi_sem_call mi_in175 (i := (.invokevirtual 276, 3, 173, 0, 9, 0, 410)) (by rfl) (by rfl) hM354 (by decide) ⟨Nat.le_of_ble_eq_true rfl, Nat.le_of_ble_eq_true rfl⟩ ?_
    refine mi_sem_steps mi_in175 (mi_calok_none _ _) 4 _ (52, [(4, .int (-11)), (0, .ref 116), (1, .int 1), (2, .int 0), (3, .int a3)], [.int (-11)], (0, 0), mi_G) (by rfl) ?_
    exact mi_sem_ret (cal := fun _ _ _ => none) mi_in175 (by rfl)

set_option maxRecDepth 100000 in
set_option maxHeartbeats 4000000 in
theorem mp_market_9 (a3 : Int32) (r0 : 0 ≤ (a3).toInt ∧ (a3).toInt ≤ 2) : mi_P 88 175 [.int 2, .int 0, .int a3] := by
  refine ⟨.int (-11), mi_G, mi_G, (mi_h88, mi_c88), (mi_h175, mi_c175), 5, 3, rfl, rfl, rfl, by decide, by decide, ?_, ?_⟩
  · refine mi_met_of (y := 88) (q := (mi_h88, mi_c88)) rfl (by decide) (Nat.le_of_ble_eq_true rfl) ?_
    refine mi_sem_steps mi_in88 (mi_calok_none _ _) 3 _ (3, [(0, .ref 0), (1, .int 2), (2, .int 0), (3, .int a3)], [.int 3, .int 0, .int a3], (0, 0), mi_G) (by rfl) ?_
    have hM358 : mi_Met mi_N0 1 mi_h120 [.int a3, .int 0, .int 3] mi_G (some (.int 1)) mi_G := by
      refine mi_met_of (y := 120) (q := (mi_h120, mi_c120)) rfl (by decide) (Nat.le_of_ble_eq_true rfl) ?_
      refine mi_sem_steps mi_in120 (mi_calok_none _ _) 2 _ (2, [(0, .int a3), (1, .int 0), (2, .int 3)], [.int 0, .int a3], (0, 0), mi_G) (by rfl) ?_
      refine mi_sem_b mi_in120 (decide (a3 < 0)) false (mi_ltF (0) (by decide) (by omega)) 14 5 ([(0, .int a3), (1, .int 0), (2, .int 3)], [], (0, 0), mi_G) (by rfl) ?_
      refine mi_sem_steps mi_in120 (mi_calok_none _ _) 2 _ (7, [(0, .int a3), (1, .int 0), (2, .int 3)], [.int 3, .int a3], (0, 0), mi_G) (by rfl) ?_
      refine mi_sem_b mi_in120 (decide (3 < a3)) false (mi_ltF2 (3) (by decide) (by omega)) 14 10 ([(0, .int a3), (1, .int 0), (2, .int 3)], [], (0, 0), mi_G) (by rfl) ?_
      refine mi_sem_steps mi_in120 (mi_calok_none _ _) 2 _ (15, [(0, .int a3), (1, .int 0), (2, .int 3)], [.int 1], (0, 0), mi_G) (by rfl) ?_
      exact mi_sem_ret (cal := fun _ _ _ => none) mi_in120 (by rfl)
    refine mi_sem_call mi_in88 (i := (.invokestatic 74, 3, 120, 0, 9, 0, 152)) (by rfl) (by rfl) hM358 (by decide) ⟨Nat.le_of_ble_eq_true rfl, Nat.le_of_ble_eq_true rfl⟩ ?_
    refine mi_sem_steps mi_in88 (mi_calok_none _ _) 3 _ (11, [(0, .ref 0), (1, .int 2), (2, .int 0), (3, .int a3)], [.int 3, .int a3], (0, 0), mi_G) (by rfl) ?_
    refine mi_sem_b mi_in88 ((a3 != 3)) true (mi_neT (3) (by decide) (by omega)) 25 14 ([(0, .ref 0), (1, .int 2), (2, .int 0), (3, .int a3)], [], (0, 0), mi_G) (by rfl) ?_
    refine mi_sem_steps mi_in88 (mi_calok_none _ _) 4 _ (33, [(0, .ref 0), (1, .int 2), (2, .int 0), (3, .int a3)], [.int 2, .ref 0], (0, 0), mi_G) (by rfl) ?_
    have hM359 : mi_Met mi_N0 4 mi_h129 [.ref 0, .int 2] mi_G (some (.int (-11))) mi_G := mi_fun_ok mi_N0 4 129 (mi_h129, mi_c129) _ _ _ _ rfl (mi_eR_ok (by decide +kernel))
    refine mi_sem_call mi_in88 (i := (.invokevirtual 144, 3, 129, 0, 9, 0, 208)) (by rfl) (by rfl) hM359 (by decide) ⟨Nat.le_of_ble_eq_true rfl, Nat.le_of_ble_eq_true rfl⟩ ?_
    refine mi_sem_steps mi_in88 (mi_calok_none _ _) 4 _ (45, [(4, .int (-11)), (0, .ref 0), (1, .int 2), (2, .int 0), (3, .int a3)], [.int (-11)], (0, 0), mi_G) (by rfl) ?_
    exact mi_sem_ret (cal := fun _ _ _ => none) mi_in88 (by rfl)
  · refine mi_met_of (y := 175) (q := (mi_h175, mi_c175)) rfl (by decide) (Nat.le_of_ble_eq_true rfl) ?_
    refine mi_sem_steps mi_in175 (mi_calok_none _ _) 1 _ (1, [(0, .ref 116), (1, .int 2), (2, .int 0), (3, .int a3)], [.int 2], (0, 0), mi_G) (by rfl) ?_
    have hM360 : mi_Met mi_N0 2 mi_h133 [.int 2] mi_G (some (.int 1)) mi_G := mi_fun_ok mi_N0 2 133 (mi_h133, mi_c133) _ _ _ _ rfl (mi_eR_ok (by decide +kernel))
    refine mi_sem_call mi_in175 (i := (.invokestatic 127, 3, 133, 0, 9, 0, 382)) (by rfl) (by rfl) hM360 (by decide) ⟨Nat.le_of_ble_eq_true rfl, Nat.le_of_ble_eq_true rfl⟩ ?_
    refine mi_sem_steps mi_in175 (mi_calok_none _ _) 4 _ (10, [(0, .ref 116), (1, .int 2), (2, .int 0), (3, .int a3)], [.int 3, .int 0, .int a3], (0, 0), mi_G) (by rfl) ?_
    have hM361 : mi_Met mi_N0 1 mi_h131 [.int a3, .int 0, .int 3] mi_G (some (.int 1)) mi_G := by
      refine mi_met_of (y := 131) (q := (mi_h131, mi_c131)) rfl (by decide) (Nat.le_of_ble_eq_true rfl) ?_
      refine mi_sem_steps mi_in131 (mi_calok_none _ _) 2 _ (2, [(0, .int a3), (1, .int 0), (2, .int 3)], [.int 0, .int a3], (0, 0), mi_G) (by rfl) ?_
      refine mi_sem_b mi_in131 (decide (a3 < 0)) false (mi_ltF (0) (by decide) (by omega)) 14 5 ([(0, .int a3), (1, .int 0), (2, .int 3)], [], (0, 0), mi_G) (by rfl) ?_
      refine mi_sem_steps mi_in131 (mi_calok_none _ _) 2 _ (7, [(0, .int a3), (1, .int 0), (2, .int 3)], [.int 3, .int a3], (0, 0), mi_G) (by rfl) ?_
      refine mi_sem_b mi_in131 (decide (3 < a3)) false (mi_ltF2 (3) (by decide) (by omega)) 14 10 ([(0, .int a3), (1, .int 0), (2, .int 3)], [], (0, 0), mi_G) (by rfl) ?_
      refine mi_sem_steps mi_in131 (mi_calok_none _ _) 2 _ (15, [(0, .int a3), (1, .int 0), (2, .int 3)], [.int 1], (0, 0), mi_G) (by rfl) ?_
      exact mi_sem_ret (cal := fun _ _ _ => none) mi_in131 (by rfl)
    refine mi_sem_call mi_in175 (i := (.invokestatic 119, 3, 131, 0, 9, 0, 379)) (by rfl) (by rfl) hM361 (by decide) ⟨Nat.le_of_ble_eq_true rfl, Nat.le_of_ble_eq_true rfl⟩ ?_
    refine mi_sem_steps mi_in175 (mi_calok_none _ _) 3 _ (18, [(0, .ref 116), (1, .int 2), (2, .int 0), (3, .int a3)], [.int 3, .int a3], (0, 0), mi_G) (by rfl) ?_
    refine mi_sem_b mi_in175 ((a3 != 3)) true (mi_neT (3) (by decide) (by omega)) 32 21 ([(0, .ref 116), (1, .int 2), (2, .int 0), (3, .int a3)], [], (0, 0), mi_G) (by rfl) ?_
    refine mi_sem_steps mi_in175 (mi_calok_none _ _) 4 _ (40, [(0, .ref 116), (1, .int 2), (2, .int 0), (3, .int a3)], [.int 2, .ref 116], (0, 0), mi_G) (by rfl) ?_
    have hM362 : mi_Met mi_N0 1 mi_h173 [.ref 116, .int 2] mi_G (some (.int (-11))) mi_G := mi_fun_ok mi_N0 1 173 (mi_h173, mi_c173) _ _ _ _ rfl (mi_eR_ok (by decide +kernel))
    refine mi_sem_call mi_in175 (i := (.invokevirtual 276, 3, 173, 0, 9, 0, 410)) (by rfl) (by rfl) hM362 (by decide) ⟨Nat.le_of_ble_eq_true rfl, Nat.le_of_ble_eq_true rfl⟩ ?_
    refine mi_sem_steps mi_in175 (mi_calok_none _ _) 4 _ (52, [(4, .int (-11)), (0, .ref 116), (1, .int 2), (2, .int 0), (3, .int a3)], [.int (-11)], (0, 0), mi_G) (by rfl) ?_
    exact mi_sem_ret (cal := fun _ _ _ => none) mi_in175 (by rfl)

set_option maxRecDepth 100000 in
set_option maxHeartbeats 4000000 in
theorem mp_market_10 (a3 : Int32) (r0 : 0 ≤ (a3).toInt ∧ (a3).toInt ≤ 2) : mi_P 88 175 [.int 3, .int 0, .int a3] := by
  refine ⟨.int (-11), mi_G, mi_G, (mi_h88, mi_c88), (mi_h175, mi_c175), 5, 3, rfl, rfl, rfl, by decide, by decide, ?_, ?_⟩
  · refine mi_met_of (y := 88) (q := (mi_h88, mi_c88)) rfl (by decide) (Nat.le_of_ble_eq_true rfl) ?_
    refine mi_sem_steps mi_in88 (mi_calok_none _ _) 3 _ (3, [(0, .ref 0), (1, .int 3), (2, .int 0), (3, .int a3)], [.int 3, .int 0, .int a3], (0, 0), mi_G) (by rfl) ?_
    have hM366 : mi_Met mi_N0 1 mi_h120 [.int a3, .int 0, .int 3] mi_G (some (.int 1)) mi_G := by
      refine mi_met_of (y := 120) (q := (mi_h120, mi_c120)) rfl (by decide) (Nat.le_of_ble_eq_true rfl) ?_
      refine mi_sem_steps mi_in120 (mi_calok_none _ _) 2 _ (2, [(0, .int a3), (1, .int 0), (2, .int 3)], [.int 0, .int a3], (0, 0), mi_G) (by rfl) ?_
      refine mi_sem_b mi_in120 (decide (a3 < 0)) false (mi_ltF (0) (by decide) (by omega)) 14 5 ([(0, .int a3), (1, .int 0), (2, .int 3)], [], (0, 0), mi_G) (by rfl) ?_
      refine mi_sem_steps mi_in120 (mi_calok_none _ _) 2 _ (7, [(0, .int a3), (1, .int 0), (2, .int 3)], [.int 3, .int a3], (0, 0), mi_G) (by rfl) ?_
      refine mi_sem_b mi_in120 (decide (3 < a3)) false (mi_ltF2 (3) (by decide) (by omega)) 14 10 ([(0, .int a3), (1, .int 0), (2, .int 3)], [], (0, 0), mi_G) (by rfl) ?_
      refine mi_sem_steps mi_in120 (mi_calok_none _ _) 2 _ (15, [(0, .int a3), (1, .int 0), (2, .int 3)], [.int 1], (0, 0), mi_G) (by rfl) ?_
      exact mi_sem_ret (cal := fun _ _ _ => none) mi_in120 (by rfl)
    refine mi_sem_call mi_in88 (i := (.invokestatic 74, 3, 120, 0, 9, 0, 152)) (by rfl) (by rfl) hM366 (by decide) ⟨Nat.le_of_ble_eq_true rfl, Nat.le_of_ble_eq_true rfl⟩ ?_
    refine mi_sem_steps mi_in88 (mi_calok_none _ _) 3 _ (11, [(0, .ref 0), (1, .int 3), (2, .int 0), (3, .int a3)], [.int 3, .int a3], (0, 0), mi_G) (by rfl) ?_
    refine mi_sem_b mi_in88 ((a3 != 3)) true (mi_neT (3) (by decide) (by omega)) 25 14 ([(0, .ref 0), (1, .int 3), (2, .int 0), (3, .int a3)], [], (0, 0), mi_G) (by rfl) ?_
    refine mi_sem_steps mi_in88 (mi_calok_none _ _) 4 _ (33, [(0, .ref 0), (1, .int 3), (2, .int 0), (3, .int a3)], [.int 3, .ref 0], (0, 0), mi_G) (by rfl) ?_
    have hM367 : mi_Met mi_N0 4 mi_h129 [.ref 0, .int 3] mi_G (some (.int (-11))) mi_G := mi_fun_ok mi_N0 4 129 (mi_h129, mi_c129) _ _ _ _ rfl (mi_eR_ok (by decide +kernel))
    refine mi_sem_call mi_in88 (i := (.invokevirtual 144, 3, 129, 0, 9, 0, 208)) (by rfl) (by rfl) hM367 (by decide) ⟨Nat.le_of_ble_eq_true rfl, Nat.le_of_ble_eq_true rfl⟩ ?_
    refine mi_sem_steps mi_in88 (mi_calok_none _ _) 4 _ (45, [(4, .int (-11)), (0, .ref 0), (1, .int 3), (2, .int 0), (3, .int a3)], [.int (-11)], (0, 0), mi_G) (by rfl) ?_
    exact mi_sem_ret (cal := fun _ _ _ => none) mi_in88 (by rfl)
  · refine mi_met_of (y := 175) (q := (mi_h175, mi_c175)) rfl (by decide) (Nat.le_of_ble_eq_true rfl) ?_
    refine mi_sem_steps mi_in175 (mi_calok_none _ _) 1 _ (1, [(0, .ref 116), (1, .int 3), (2, .int 0), (3, .int a3)], [.int 3], (0, 0), mi_G) (by rfl) ?_
    have hM368 : mi_Met mi_N0 2 mi_h133 [.int 3] mi_G (some (.int 1)) mi_G := mi_fun_ok mi_N0 2 133 (mi_h133, mi_c133) _ _ _ _ rfl (mi_eR_ok (by decide +kernel))
    refine mi_sem_call mi_in175 (i := (.invokestatic 127, 3, 133, 0, 9, 0, 382)) (by rfl) (by rfl) hM368 (by decide) ⟨Nat.le_of_ble_eq_true rfl, Nat.le_of_ble_eq_true rfl⟩ ?_
    refine mi_sem_steps mi_in175 (mi_calok_none _ _) 4 _ (10, [(0, .ref 116), (1, .int 3), (2, .int 0), (3, .int a3)], [.int 3, .int 0, .int a3], (0, 0), mi_G) (by rfl) ?_
    have hM369 : mi_Met mi_N0 1 mi_h131 [.int a3, .int 0, .int 3] mi_G (some (.int 1)) mi_G := by
      refine mi_met_of (y := 131) (q := (mi_h131, mi_c131)) rfl (by decide) (Nat.le_of_ble_eq_true rfl) ?_
      refine mi_sem_steps mi_in131 (mi_calok_none _ _) 2 _ (2, [(0, .int a3), (1, .int 0), (2, .int 3)], [.int 0, .int a3], (0, 0), mi_G) (by rfl) ?_
      refine mi_sem_b mi_in131 (decide (a3 < 0)) false (mi_ltF (0) (by decide) (by omega)) 14 5 ([(0, .int a3), (1, .int 0), (2, .int 3)], [], (0, 0), mi_G) (by rfl) ?_
      refine mi_sem_steps mi_in131 (mi_calok_none _ _) 2 _ (7, [(0, .int a3), (1, .int 0), (2, .int 3)], [.int 3, .int a3], (0, 0), mi_G) (by rfl) ?_
      refine mi_sem_b mi_in131 (decide (3 < a3)) false (mi_ltF2 (3) (by decide) (by omega)) 14 10 ([(0, .int a3), (1, .int 0), (2, .int 3)], [], (0, 0), mi_G) (by rfl) ?_
      refine mi_sem_steps mi_in131 (mi_calok_none _ _) 2 _ (15, [(0, .int a3), (1, .int 0), (2, .int 3)], [.int 1], (0, 0), mi_G) (by rfl) ?_
      exact mi_sem_ret (cal := fun _ _ _ => none) mi_in131 (by rfl)
    refine mi_sem_call mi_in175 (i := (.invokestatic 119, 3, 131, 0, 9, 0, 379)) (by rfl) (by rfl) hM369 (by decide) ⟨Nat.le_of_ble_eq_true rfl, Nat.le_of_ble_eq_true rfl⟩ ?_
    refine mi_sem_steps mi_in175 (mi_calok_none _ _) 3 _ (18, [(0, .ref 116), (1, .int 3), (2, .int 0), (3, .int a3)], [.int 3, .int a3], (0, 0), mi_G) (by rfl) ?_
    refine mi_sem_b mi_in175 ((a3 != 3)) true (mi_neT (3) (by decide) (by omega)) 32 21 ([(0, .ref 116), (1, .int 3), (2, .int 0), (3, .int a3)], [], (0, 0), mi_G) (by rfl) ?_
    refine mi_sem_steps mi_in175 (mi_calok_none _ _) 4 _ (40, [(0, .ref 116), (1, .int 3), (2, .int 0), (3, .int a3)], [.int 3, .ref 116], (0, 0), mi_G) (by rfl) ?_
    have hM370 : mi_Met mi_N0 1 mi_h173 [.ref 116, .int 3] mi_G (some (.int (-11))) mi_G := mi_fun_ok mi_N0 1 173 (mi_h173, mi_c173) _ _ _ _ rfl (mi_eR_ok (by decide +kernel))
    refine mi_sem_call mi_in175 (i := (.invokevirtual 276, 3, 173, 0, 9, 0, 410)) (by rfl) (by rfl) hM370 (by decide) ⟨Nat.le_of_ble_eq_true rfl, Nat.le_of_ble_eq_true rfl⟩ ?_
    refine mi_sem_steps mi_in175 (mi_calok_none _ _) 4 _ (52, [(4, .int (-11)), (0, .ref 116), (1, .int 3), (2, .int 0), (3, .int a3)], [.int (-11)], (0, 0), mi_G) (by rfl) ?_
    exact mi_sem_ret (cal := fun _ _ _ => none) mi_in175 (by rfl)

set_option maxRecDepth 100000 in
set_option maxHeartbeats 4000000 in
theorem mp_market_11 (a3 : Int32) (r0 : 0 ≤ (a3).toInt ∧ (a3).toInt ≤ 2) : mi_P 88 175 [.int 4, .int 0, .int a3] := by
  refine ⟨.int (-11), mi_G, mi_G, (mi_h88, mi_c88), (mi_h175, mi_c175), 5, 3, rfl, rfl, rfl, by decide, by decide, ?_, ?_⟩
  · refine mi_met_of (y := 88) (q := (mi_h88, mi_c88)) rfl (by decide) (Nat.le_of_ble_eq_true rfl) ?_
    refine mi_sem_steps mi_in88 (mi_calok_none _ _) 3 _ (3, [(0, .ref 0), (1, .int 4), (2, .int 0), (3, .int a3)], [.int 3, .int 0, .int a3], (0, 0), mi_G) (by rfl) ?_
    have hM374 : mi_Met mi_N0 1 mi_h120 [.int a3, .int 0, .int 3] mi_G (some (.int 1)) mi_G := by
      refine mi_met_of (y := 120) (q := (mi_h120, mi_c120)) rfl (by decide) (Nat.le_of_ble_eq_true rfl) ?_
      refine mi_sem_steps mi_in120 (mi_calok_none _ _) 2 _ (2, [(0, .int a3), (1, .int 0), (2, .int 3)], [.int 0, .int a3], (0, 0), mi_G) (by rfl) ?_
      refine mi_sem_b mi_in120 (decide (a3 < 0)) false (mi_ltF (0) (by decide) (by omega)) 14 5 ([(0, .int a3), (1, .int 0), (2, .int 3)], [], (0, 0), mi_G) (by rfl) ?_
      refine mi_sem_steps mi_in120 (mi_calok_none _ _) 2 _ (7, [(0, .int a3), (1, .int 0), (2, .int 3)], [.int 3, .int a3], (0, 0), mi_G) (by rfl) ?_
      refine mi_sem_b mi_in120 (decide (3 < a3)) false (mi_ltF2 (3) (by decide) (by omega)) 14 10 ([(0, .int a3), (1, .int 0), (2, .int 3)], [], (0, 0), mi_G) (by rfl) ?_
      refine mi_sem_steps mi_in120 (mi_calok_none _ _) 2 _ (15, [(0, .int a3), (1, .int 0), (2, .int 3)], [.int 1], (0, 0), mi_G) (by rfl) ?_
      exact mi_sem_ret (cal := fun _ _ _ => none) mi_in120 (by rfl)
    refine mi_sem_call mi_in88 (i := (.invokestatic 74, 3, 120, 0, 9, 0, 152)) (by rfl) (by rfl) hM374 (by decide) ⟨Nat.le_of_ble_eq_true rfl, Nat.le_of_ble_eq_true rfl⟩ ?_
    refine mi_sem_steps mi_in88 (mi_calok_none _ _) 3 _ (11, [(0, .ref 0), (1, .int 4), (2, .int 0), (3, .int a3)], [.int 3, .int a3], (0, 0), mi_G) (by rfl) ?_
    refine mi_sem_b mi_in88 ((a3 != 3)) true (mi_neT (3) (by decide) (by omega)) 25 14 ([(0, .ref 0), (1, .int 4), (2, .int 0), (3, .int a3)], [], (0, 0), mi_G) (by rfl) ?_
    refine mi_sem_steps mi_in88 (mi_calok_none _ _) 4 _ (33, [(0, .ref 0), (1, .int 4), (2, .int 0), (3, .int a3)], [.int 4, .ref 0], (0, 0), mi_G) (by rfl) ?_
    have hM375 : mi_Met mi_N0 4 mi_h129 [.ref 0, .int 4] mi_G (some (.int (-11))) mi_G := mi_fun_ok mi_N0 4 129 (mi_h129, mi_c129) _ _ _ _ rfl (mi_eR_ok (by decide +kernel))
    refine mi_sem_call mi_in88 (i := (.invokevirtual 144, 3, 129, 0, 9, 0, 208)) (by rfl) (by rfl) hM375 (by decide) ⟨Nat.le_of_ble_eq_true rfl, Nat.le_of_ble_eq_true rfl⟩ ?_
    refine mi_sem_steps mi_in88 (mi_calok_none _ _) 4 _ (45, [(4, .int (-11)), (0, .ref 0), (1, .int 4), (2, .int 0), (3, .int a3)], [.int (-11)], (0, 0), mi_G) (by rfl) ?_
    exact mi_sem_ret (cal := fun _ _ _ => none) mi_in88 (by rfl)
  · refine mi_met_of (y := 175) (q := (mi_h175, mi_c175)) rfl (by decide) (Nat.le_of_ble_eq_true rfl) ?_
    refine mi_sem_steps mi_in175 (mi_calok_none _ _) 1 _ (1, [(0, .ref 116), (1, .int 4), (2, .int 0), (3, .int a3)], [.int 4], (0, 0), mi_G) (by rfl) ?_
    have hM376 : mi_Met mi_N0 2 mi_h133 [.int 4] mi_G (some (.int 1)) mi_G := mi_fun_ok mi_N0 2 133 (mi_h133, mi_c133) _ _ _ _ rfl (mi_eR_ok (by decide +kernel))
    refine mi_sem_call mi_in175 (i := (.invokestatic 127, 3, 133, 0, 9, 0, 382)) (by rfl) (by rfl) hM376 (by decide) ⟨Nat.le_of_ble_eq_true rfl, Nat.le_of_ble_eq_true rfl⟩ ?_
    refine mi_sem_steps mi_in175 (mi_calok_none _ _) 4 _ (10, [(0, .ref 116), (1, .int 4), (2, .int 0), (3, .int a3)], [.int 3, .int 0, .int a3], (0, 0), mi_G) (by rfl) ?_
    have hM377 : mi_Met mi_N0 1 mi_h131 [.int a3, .int 0, .int 3] mi_G (some (.int 1)) mi_G := by
      refine mi_met_of (y := 131) (q := (mi_h131, mi_c131)) rfl (by decide) (Nat.le_of_ble_eq_true rfl) ?_
      refine mi_sem_steps mi_in131 (mi_calok_none _ _) 2 _ (2, [(0, .int a3), (1, .int 0), (2, .int 3)], [.int 0, .int a3], (0, 0), mi_G) (by rfl) ?_
      refine mi_sem_b mi_in131 (decide (a3 < 0)) false (mi_ltF (0) (by decide) (by omega)) 14 5 ([(0, .int a3), (1, .int 0), (2, .int 3)], [], (0, 0), mi_G) (by rfl) ?_
      refine mi_sem_steps mi_in131 (mi_calok_none _ _) 2 _ (7, [(0, .int a3), (1, .int 0), (2, .int 3)], [.int 3, .int a3], (0, 0), mi_G) (by rfl) ?_
      refine mi_sem_b mi_in131 (decide (3 < a3)) false (mi_ltF2 (3) (by decide) (by omega)) 14 10 ([(0, .int a3), (1, .int 0), (2, .int 3)], [], (0, 0), mi_G) (by rfl) ?_
      refine mi_sem_steps mi_in131 (mi_calok_none _ _) 2 _ (15, [(0, .int a3), (1, .int 0), (2, .int 3)], [.int 1], (0, 0), mi_G) (by rfl) ?_
      exact mi_sem_ret (cal := fun _ _ _ => none) mi_in131 (by rfl)
    refine mi_sem_call mi_in175 (i := (.invokestatic 119, 3, 131, 0, 9, 0, 379)) (by rfl) (by rfl) hM377 (by decide) ⟨Nat.le_of_ble_eq_true rfl, Nat.le_of_ble_eq_true rfl⟩ ?_
    refine mi_sem_steps mi_in175 (mi_calok_none _ _) 3 _ (18, [(0, .ref 116), (1, .int 4), (2, .int 0), (3, .int a3)], [.int 3, .int a3], (0, 0), mi_G) (by rfl) ?_
    refine mi_sem_b mi_in175 ((a3 != 3)) true (mi_neT (3) (by decide) (by omega)) 32 21 ([(0, .ref 116), (1, .int 4), (2, .int 0), (3, .int a3)], [], (0, 0), mi_G) (by rfl) ?_
    refine mi_sem_steps mi_in175 (mi_calok_none _ _) 4 _ (40, [(0, .ref 116), (1, .int 4), (2, .int 0), (3, .int a3)], [.int 4, .ref 116], (0, 0), mi_G) (by rfl) ?_
    have hM378 : mi_Met mi_N0 1 mi_h173 [.ref 116, .int 4] mi_G (some (.int (-11))) mi_G := mi_fun_ok mi_N0 1 173 (mi_h173, mi_c173) _ _ _ _ rfl (mi_eR_ok (by decide +kernel))
    refine mi_sem_call mi_in175 (i := (.invokevirtual 276, 3, 173, 0, 9, 0, 410)) (by rfl) (by rfl) hM378 (by decide) ⟨Nat.le_of_ble_eq_true rfl, Nat.le_of_ble_eq_true rfl⟩ ?_
    refine mi_sem_steps mi_in175 (mi_calok_none _ _) 4 _ (52, [(4, .int (-11)), (0, .ref 116), (1, .int 4), (2, .int 0), (3, .int a3)], [.int (-11)], (0, 0), mi_G) (by rfl) ?_
    exact mi_sem_ret (cal := fun _ _ _ => none) mi_in175 (by rfl)

set_option maxRecDepth 100000 in
set_option maxHeartbeats 4000000 in
theorem mp_market_12 (a3 : Int32) (r0 : 0 ≤ (a3).toInt ∧ (a3).toInt ≤ 2) : mi_P 88 175 [.int 5, .int 0, .int a3] := by
  refine ⟨.int (-11), mi_G, mi_G, (mi_h88, mi_c88), (mi_h175, mi_c175), 5, 3, rfl, rfl, rfl, by decide, by decide, ?_, ?_⟩
  · refine mi_met_of (y := 88) (q := (mi_h88, mi_c88)) rfl (by decide) (Nat.le_of_ble_eq_true rfl) ?_
    refine mi_sem_steps mi_in88 (mi_calok_none _ _) 3 _ (3, [(0, .ref 0), (1, .int 5), (2, .int 0), (3, .int a3)], [.int 3, .int 0, .int a3], (0, 0), mi_G) (by rfl) ?_
    have hM379 : mi_Met mi_N0 1 mi_h120 [.int a3, .int 0, .int 3] mi_G (some (.int 1)) mi_G := by
      refine mi_met_of (y := 120) (q := (mi_h120, mi_c120)) rfl (by decide) (Nat.le_of_ble_eq_true rfl) ?_
      refine mi_sem_steps mi_in120 (mi_calok_none _ _) 2 _ (2, [(0, .int a3), (1, .int 0), (2, .int 3)], [.int 0, .int a3], (0, 0), mi_G) (by rfl) ?_
      refine mi_sem_b mi_in120 (decide (a3 < 0)) false (mi_ltF (0) (by decide) (by omega)) 14 5 ([(0, .int a3), (1, .int 0), (2, .int 3)], [], (0, 0), mi_G) (by rfl) ?_
      refine mi_sem_steps mi_in120 (mi_calok_none _ _) 2 _ (7, [(0, .int a3), (1, .int 0), (2, .int 3)], [.int 3, .int a3], (0, 0), mi_G) (by rfl) ?_
      refine mi_sem_b mi_in120 (decide (3 < a3)) false (mi_ltF2 (3) (by decide) (by omega)) 14 10 ([(0, .int a3), (1, .int 0), (2, .int 3)], [], (0, 0), mi_G) (by rfl) ?_
      refine mi_sem_steps mi_in120 (mi_calok_none _ _) 2 _ (15, [(0, .int a3), (1, .int 0), (2, .int 3)], [.int 1], (0, 0), mi_G) (by rfl) ?_
      exact mi_sem_ret (cal := fun _ _ _ => none) mi_in120 (by rfl)
    refine mi_sem_call mi_in88 (i := (.invokestatic 74, 3, 120, 0, 9, 0, 152)) (by rfl) (by rfl) hM379 (by decide) ⟨Nat.le_of_ble_eq_true rfl, Nat.le_of_ble_eq_true rfl⟩ ?_
    refine mi_sem_steps mi_in88 (mi_calok_none _ _) 3 _ (11, [(0, .ref 0), (1, .int 5), (2, .int 0), (3, .int a3)], [.int 3, .int a3], (0, 0), mi_G) (by rfl) ?_
    refine mi_sem_b mi_in88 ((a3 != 3)) true (mi_neT (3) (by decide) (by omega)) 25 14 ([(0, .ref 0), (1, .int 5), (2, .int 0), (3, .int a3)], [], (0, 0), mi_G) (by rfl) ?_
    refine mi_sem_steps mi_in88 (mi_calok_none _ _) 4 _ (33, [(0, .ref 0), (1, .int 5), (2, .int 0), (3, .int a3)], [.int 5, .ref 0], (0, 0), mi_G) (by rfl) ?_
    have hM380 : mi_Met mi_N0 4 mi_h129 [.ref 0, .int 5] mi_G (some (.int (-11))) mi_G := mi_fun_ok mi_N0 4 129 (mi_h129, mi_c129) _ _ _ _ rfl (mi_eR_ok (by decide +kernel))
    refine mi_sem_call mi_in88 (i := (.invokevirtual 144, 3, 129, 0, 9, 0, 208)) (by rfl) (by rfl) hM380 (by decide) ⟨Nat.le_of_ble_eq_true rfl, Nat.le_of_ble_eq_true rfl⟩ ?_
    refine mi_sem_steps mi_in88 (mi_calok_none _ _) 4 _ (45, [(4, .int (-11)), (0, .ref 0), (1, .int 5), (2, .int 0), (3, .int a3)], [.int (-11)], (0, 0), mi_G) (by rfl) ?_
    exact mi_sem_ret (cal := fun _ _ _ => none) mi_in88 (by rfl)
  · refine mi_met_of (y := 175) (q := (mi_h175, mi_c175)) rfl (by decide) (Nat.le_of_ble_eq_true rfl) ?_
    refine mi_sem_steps mi_in175 (mi_calok_none _ _) 1 _ (1, [(0, .ref 116), (1, .int 5), (2, .int 0), (3, .int a3)], [.int 5], (0, 0), mi_G) (by rfl) ?_
    have hM381 : mi_Met mi_N0 2 mi_h133 [.int 5] mi_G (some (.int 1)) mi_G := mi_fun_ok mi_N0 2 133 (mi_h133, mi_c133) _ _ _ _ rfl (mi_eR_ok (by decide +kernel))
    refine mi_sem_call mi_in175 (i := (.invokestatic 127, 3, 133, 0, 9, 0, 382)) (by rfl) (by rfl) hM381 (by decide) ⟨Nat.le_of_ble_eq_true rfl, Nat.le_of_ble_eq_true rfl⟩ ?_
    refine mi_sem_steps mi_in175 (mi_calok_none _ _) 4 _ (10, [(0, .ref 116), (1, .int 5), (2, .int 0), (3, .int a3)], [.int 3, .int 0, .int a3], (0, 0), mi_G) (by rfl) ?_
    have hM382 : mi_Met mi_N0 1 mi_h131 [.int a3, .int 0, .int 3] mi_G (some (.int 1)) mi_G := by
      refine mi_met_of (y := 131) (q := (mi_h131, mi_c131)) rfl (by decide) (Nat.le_of_ble_eq_true rfl) ?_
      refine mi_sem_steps mi_in131 (mi_calok_none _ _) 2 _ (2, [(0, .int a3), (1, .int 0), (2, .int 3)], [.int 0, .int a3], (0, 0), mi_G) (by rfl) ?_
      refine mi_sem_b mi_in131 (decide (a3 < 0)) false (mi_ltF (0) (by decide) (by omega)) 14 5 ([(0, .int a3), (1, .int 0), (2, .int 3)], [], (0, 0), mi_G) (by rfl) ?_
      refine mi_sem_steps mi_in131 (mi_calok_none _ _) 2 _ (7, [(0, .int a3), (1, .int 0), (2, .int 3)], [.int 3, .int a3], (0, 0), mi_G) (by rfl) ?_
      refine mi_sem_b mi_in131 (decide (3 < a3)) false (mi_ltF2 (3) (by decide) (by omega)) 14 10 ([(0, .int a3), (1, .int 0), (2, .int 3)], [], (0, 0), mi_G) (by rfl) ?_
      refine mi_sem_steps mi_in131 (mi_calok_none _ _) 2 _ (15, [(0, .int a3), (1, .int 0), (2, .int 3)], [.int 1], (0, 0), mi_G) (by rfl) ?_
      exact mi_sem_ret (cal := fun _ _ _ => none) mi_in131 (by rfl)
    refine mi_sem_call mi_in175 (i := (.invokestatic 119, 3, 131, 0, 9, 0, 379)) (by rfl) (by rfl) hM382 (by decide) ⟨Nat.le_of_ble_eq_true rfl, Nat.le_of_ble_eq_true rfl⟩ ?_
    refine mi_sem_steps mi_in175 (mi_calok_none _ _) 3 _ (18, [(0, .ref 116), (1, .int 5), (2, .int 0), (3, .int a3)], [.int 3, .int a3], (0, 0), mi_G) (by rfl) ?_
    refine mi_sem_b mi_in175 ((a3 != 3)) true (mi_neT (3) (by decide) (by omega)) 32 21 ([(0, .ref 116), (1, .int 5), (2, .int 0), (3, .int a3)], [], (0, 0), mi_G) (by rfl) ?_
    refine mi_sem_steps mi_in175 (mi_calok_none _ _) 4 _ (40, [(0, .ref 116), (1, .int 5), (2, .int 0), (3, .int a3)], [.int 5, .ref 116], (0, 0), mi_G) (by rfl) ?_
    have hM383 : mi_Met mi_N0 1 mi_h173 [.ref 116, .int 5] mi_G (some (.int (-11))) mi_G := mi_fun_ok mi_N0 1 173 (mi_h173, mi_c173) _ _ _ _ rfl (mi_eR_ok (by decide +kernel))
    refine mi_sem_call mi_in175 (i := (.invokevirtual 276, 3, 173, 0, 9, 0, 410)) (by rfl) (by rfl) hM383 (by decide) ⟨Nat.le_of_ble_eq_true rfl, Nat.le_of_ble_eq_true rfl⟩ ?_
    refine mi_sem_steps mi_in175 (mi_calok_none _ _) 4 _ (52, [(4, .int (-11)), (0, .ref 116), (1, .int 5), (2, .int 0), (3, .int a3)], [.int (-11)], (0, 0), mi_G) (by rfl) ?_
    exact mi_sem_ret (cal := fun _ _ _ => none) mi_in175 (by rfl)

set_option maxRecDepth 100000 in
set_option maxHeartbeats 4000000 in
theorem mp_market_13 (a1 : Int32) (a3 : Int32) (r0 : 0 ≤ (a3).toInt ∧ (a3).toInt ≤ 2) (r1 : 6 ≤ (a1).toInt ∧ (a1).toInt ≤ 2147483647) : mi_P 88 175 [.int a1, .int 0, .int a3] := by
  refine ⟨.int (-1), mi_G, mi_G, (mi_h88, mi_c88), (mi_h175, mi_c175), 5, 3, rfl, rfl, rfl, by decide, by decide, ?_, ?_⟩
  · refine mi_met_of (y := 88) (q := (mi_h88, mi_c88)) rfl (by decide) (Nat.le_of_ble_eq_true rfl) ?_
    refine mi_sem_steps mi_in88 (mi_calok_none _ _) 3 _ (3, [(0, .ref 0), (1, .int a1), (2, .int 0), (3, .int a3)], [.int 3, .int 0, .int a3], (0, 0), mi_G) (by rfl) ?_
    have hM384 : mi_Met mi_N0 1 mi_h120 [.int a3, .int 0, .int 3] mi_G (some (.int 1)) mi_G := by
      refine mi_met_of (y := 120) (q := (mi_h120, mi_c120)) rfl (by decide) (Nat.le_of_ble_eq_true rfl) ?_
      refine mi_sem_steps mi_in120 (mi_calok_none _ _) 2 _ (2, [(0, .int a3), (1, .int 0), (2, .int 3)], [.int 0, .int a3], (0, 0), mi_G) (by rfl) ?_
      refine mi_sem_b mi_in120 (decide (a3 < 0)) false (mi_ltF (0) (by decide) (by omega)) 14 5 ([(0, .int a3), (1, .int 0), (2, .int 3)], [], (0, 0), mi_G) (by rfl) ?_
      refine mi_sem_steps mi_in120 (mi_calok_none _ _) 2 _ (7, [(0, .int a3), (1, .int 0), (2, .int 3)], [.int 3, .int a3], (0, 0), mi_G) (by rfl) ?_
      refine mi_sem_b mi_in120 (decide (3 < a3)) false (mi_ltF2 (3) (by decide) (by omega)) 14 10 ([(0, .int a3), (1, .int 0), (2, .int 3)], [], (0, 0), mi_G) (by rfl) ?_
      refine mi_sem_steps mi_in120 (mi_calok_none _ _) 2 _ (15, [(0, .int a3), (1, .int 0), (2, .int 3)], [.int 1], (0, 0), mi_G) (by rfl) ?_
      exact mi_sem_ret (cal := fun _ _ _ => none) mi_in120 (by rfl)
    refine mi_sem_call mi_in88 (i := (.invokestatic 74, 3, 120, 0, 9, 0, 152)) (by rfl) (by rfl) hM384 (by decide) ⟨Nat.le_of_ble_eq_true rfl, Nat.le_of_ble_eq_true rfl⟩ ?_
    refine mi_sem_steps mi_in88 (mi_calok_none _ _) 3 _ (11, [(0, .ref 0), (1, .int a1), (2, .int 0), (3, .int a3)], [.int 3, .int a3], (0, 0), mi_G) (by rfl) ?_
    refine mi_sem_b mi_in88 ((a3 != 3)) true (mi_neT (3) (by decide) (by omega)) 25 14 ([(0, .ref 0), (1, .int a1), (2, .int 0), (3, .int a3)], [], (0, 0), mi_G) (by rfl) ?_
    refine mi_sem_steps mi_in88 (mi_calok_none _ _) 4 _ (33, [(0, .ref 0), (1, .int a1), (2, .int 0), (3, .int a3)], [.int a1, .ref 0], (0, 0), mi_G) (by rfl) ?_
    have hM388 : mi_Met mi_N0 4 mi_h129 [.ref 0, .int a1] mi_G (some (.int (-1))) mi_G := by
      refine mi_met_of (y := 129) (q := (mi_h129, mi_c129)) rfl (by decide) (Nat.le_of_ble_eq_true rfl) ?_
      refine mi_sem_steps mi_in129 (mi_calok_none _ _) 2 _ (2, [(0, .ref 0), (1, .int a1)], [.int a1, .ref 0], (0, 0), mi_G) (by rfl) ?_
      have hM387 : mi_Met mi_N0 3 mi_h127 [.ref 0, .int a1] mi_G (some (.int (-1))) mi_G := by
        refine mi_met_of (y := 127) (q := (mi_h127, mi_c127)) rfl (by decide) (Nat.le_of_ble_eq_true rfl) ?_
        refine mi_sem_steps mi_in127 (mi_calok_none _ _) 1 _ (1, [(0, .ref 0), (1, .int a1)], [.int a1], (0, 0), mi_G) (by rfl) ?_
        have hM386 : mi_Met mi_N0 2 mi_h121 [.int a1] mi_G (some (.int 0)) mi_G := by
          refine mi_met_of (y := 121) (q := (mi_h121, mi_c121)) rfl (by decide) (Nat.le_of_ble_eq_true rfl) ?_
          refine mi_sem_steps mi_in121 (mi_calok_none _ _) 3 _ (3, [(0, .int a1)], [.int 5, .int 0, .int a1], (0, 0), mi_G) (by rfl) ?_
          have hM385 : mi_Met mi_N0 1 mi_h120 [.int a1, .int 0, .int 5] mi_G (some (.int 0)) mi_G := by
            refine mi_met_of (y := 120) (q := (mi_h120, mi_c120)) rfl (by decide) (Nat.le_of_ble_eq_true rfl) ?_
            refine mi_sem_steps mi_in120 (mi_calok_none _ _) 2 _ (2, [(0, .int a1), (1, .int 0), (2, .int 5)], [.int 0, .int a1], (0, 0), mi_G) (by rfl) ?_
            refine mi_sem_b mi_in120 (decide (a1 < 0)) false (mi_ltF (0) (by decide) (by omega)) 14 5 ([(0, .int a1), (1, .int 0), (2, .int 5)], [], (0, 0), mi_G) (by rfl) ?_
            refine mi_sem_steps mi_in120 (mi_calok_none _ _) 2 _ (7, [(0, .int a1), (1, .int 0), (2, .int 5)], [.int 5, .int a1], (0, 0), mi_G) (by rfl) ?_
            refine mi_sem_b mi_in120 (decide (5 < a1)) true (mi_ltT2 (5) (by decide) (by omega)) 14 10 ([(0, .int a1), (1, .int 0), (2, .int 5)], [], (0, 0), mi_G) (by rfl) ?_
            refine mi_sem_steps mi_in120 (mi_calok_none _ _) 1 _ (15, [(0, .int a1), (1, .int 0), (2, .int 5)], [.int 0], (0, 0), mi_G) (by rfl) ?_
            exact mi_sem_ret (cal := fun _ _ _ => none) mi_in120 (by rfl)
          refine mi_sem_call mi_in121 (i := (.invokestatic 74, 3, 120, 0, 9, 0, 152)) (by rfl) (by rfl) hM385 (by decide) ⟨Nat.le_of_ble_eq_true rfl, Nat.le_of_ble_eq_true rfl⟩ ?_
          exact mi_sem_ret (cal := fun _ _ _ => none) mi_in121 (by rfl)
        refine mi_sem_call mi_in127 (i := (.invokestatic 70, 3, 121, 0, 9, 0, 157)) (by rfl) (by rfl) hM386 (by decide) ⟨Nat.le_of_ble_eq_true rfl, Nat.le_of_ble_eq_true rfl⟩ ?_
        refine mi_sem_steps mi_in127 (mi_calok_none _ _) 2 _ (8, [(0, .ref 0), (1, .int a1)], [.int (-1)], (0, 0), mi_G) (by rfl) ?_
        exact mi_sem_ret (cal := fun _ _ _ => none) mi_in127 (by rfl)
      refine mi_sem_call mi_in129 (i := (.invokevirtual 217, 3, 127, 0, 9, 0, 209)) (by rfl) (by rfl) hM387 (by decide) ⟨Nat.le_of_ble_eq_true rfl, Nat.le_of_ble_eq_true rfl⟩ ?_
      refine mi_sem_steps mi_in129 (mi_calok_none _ _) 4 _ (31, [(2, .int (-1)), (0, .ref 0), (1, .int a1)], [.int (-1)], (0, 0), mi_G) (by rfl) ?_
      exact mi_sem_ret (cal := fun _ _ _ => none) mi_in129 (by rfl)
    refine mi_sem_call mi_in88 (i := (.invokevirtual 144, 3, 129, 0, 9, 0, 208)) (by rfl) (by rfl) hM388 (by decide) ⟨Nat.le_of_ble_eq_true rfl, Nat.le_of_ble_eq_true rfl⟩ ?_
    refine mi_sem_steps mi_in88 (mi_calok_none _ _) 4 _ (45, [(4, .int (-1)), (0, .ref 0), (1, .int a1), (2, .int 0), (3, .int a3)], [.int (-1)], (0, 0), mi_G) (by rfl) ?_
    exact mi_sem_ret (cal := fun _ _ _ => none) mi_in88 (by rfl)
  · refine mi_met_of (y := 175) (q := (mi_h175, mi_c175)) rfl (by decide) (Nat.le_of_ble_eq_true rfl) ?_
    refine mi_sem_steps mi_in175 (mi_calok_none _ _) 1 _ (1, [(0, .ref 116), (1, .int a1), (2, .int 0), (3, .int a3)], [.int a1], (0, 0), mi_G) (by rfl) ?_
    have hM390 : mi_Met mi_N0 2 mi_h133 [.int a1] mi_G (some (.int 0)) mi_G := by
      refine mi_met_of (y := 133) (q := (mi_h133, mi_c133)) rfl (by decide) (Nat.le_of_ble_eq_true rfl) ?_
      refine mi_sem_steps mi_in133 (mi_calok_none _ _) 3 _ (3, [(0, .int a1)], [.int 5, .int 0, .int a1], (0, 0), mi_G) (by rfl) ?_
      have hM389 : mi_Met mi_N0 1 mi_h131 [.int a1, .int 0, .int 5] mi_G (some (.int 0)) mi_G := by
        refine mi_met_of (y := 131) (q := (mi_h131, mi_c131)) rfl (by decide) (Nat.le_of_ble_eq_true rfl) ?_
        refine mi_sem_steps mi_in131 (mi_calok_none _ _) 2 _ (2, [(0, .int a1), (1, .int 0), (2, .int 5)], [.int 0, .int a1], (0, 0), mi_G) (by rfl) ?_
        refine mi_sem_b mi_in131 (decide (a1 < 0)) false (mi_ltF (0) (by decide) (by omega)) 14 5 ([(0, .int a1), (1, .int 0), (2, .int 5)], [], (0, 0), mi_G) (by rfl) ?_
        refine mi_sem_steps mi_in131 (mi_calok_none _ _) 2 _ (7, [(0, .int a1), (1, .int 0), (2, .int 5)], [.int 5, .int a1], (0, 0), mi_G) (by rfl) ?_
        refine mi_sem_b mi_in131 (decide (5 < a1)) true (mi_ltT2 (5) (by decide) (by omega)) 14 10 ([(0, .int a1), (1, .int 0), (2, .int 5)], [], (0, 0), mi_G) (by rfl) ?_
        refine mi_sem_steps mi_in131 (mi_calok_none _ _) 1 _ (15, [(0, .int a1), (1, .int 0), (2, .int 5)], [.int 0], (0, 0), mi_G) (by rfl) ?_
        exact mi_sem_ret (cal := fun _ _ _ => none) mi_in131 (by rfl)
      refine mi_sem_call mi_in133 (i := (.invokestatic 119, 3, 131, 0, 9, 0, 379)) (by rfl) (by rfl) hM389 (by decide) ⟨Nat.le_of_ble_eq_true rfl, Nat.le_of_ble_eq_true rfl⟩ ?_
      exact mi_sem_ret (cal := fun _ _ _ => none) mi_in133 (by rfl)
    refine mi_sem_call mi_in175 (i := (.invokestatic 127, 3, 133, 0, 9, 0, 382)) (by rfl) (by rfl) hM390 (by decide) ⟨Nat.le_of_ble_eq_true rfl, Nat.le_of_ble_eq_true rfl⟩ ?_
    refine mi_sem_steps mi_in175 (mi_calok_none _ _) 2 _ (37, [(0, .ref 116), (1, .int a1), (2, .int 0), (3, .int a3)], [.int (-1)], (0, 0), mi_G) (by rfl) ?_
    exact mi_sem_ret (cal := fun _ _ _ => none) mi_in175 (by rfl)

set_option maxRecDepth 100000 in
set_option maxHeartbeats 4000000 in
theorem mp_market_14 (a1 : Int32) (a2 : Int32) (a3 : Int32) (r0 : 0 ≤ (a3).toInt ∧ (a3).toInt ≤ 2) (r1 : 1 ≤ (a2).toInt ∧ (a2).toInt ≤ 2147483647) (r2 : (-2147483648) ≤ (a1).toInt ∧ (a1).toInt ≤ (-1)) : mi_P 88 175 [.int a1, .int a2, .int a3] := by
  refine ⟨.int (-1), mi_G, mi_G, (mi_h88, mi_c88), (mi_h175, mi_c175), 2, 3, rfl, rfl, rfl, by decide, by decide, ?_, ?_⟩
  · refine mi_met_of (y := 88) (q := (mi_h88, mi_c88)) rfl (by decide) (Nat.le_of_ble_eq_true rfl) ?_
    refine mi_sem_steps mi_in88 (mi_calok_none _ _) 3 _ (3, [(0, .ref 0), (1, .int a1), (2, .int a2), (3, .int a3)], [.int 3, .int 0, .int a3], (0, 0), mi_G) (by rfl) ?_
    have hM392 : mi_Met mi_N0 1 mi_h120 [.int a3, .int 0, .int 3] mi_G (some (.int 1)) mi_G := by
      refine mi_met_of (y := 120) (q := (mi_h120, mi_c120)) rfl (by decide) (Nat.le_of_ble_eq_true rfl) ?_
      refine mi_sem_steps mi_in120 (mi_calok_none _ _) 2 _ (2, [(0, .int a3), (1, .int 0), (2, .int 3)], [.int 0, .int a3], (0, 0), mi_G) (by rfl) ?_
      refine mi_sem_b mi_in120 (decide (a3 < 0)) false (mi_ltF (0) (by decide) (by omega)) 14 5 ([(0, .int a3), (1, .int 0), (2, .int 3)], [], (0, 0), mi_G) (by rfl) ?_
      refine mi_sem_steps mi_in120 (mi_calok_none _ _) 2 _ (7, [(0, .int a3), (1, .int 0), (2, .int 3)], [.int 3, .int a3], (0, 0), mi_G) (by rfl) ?_
      refine mi_sem_b mi_in120 (decide (3 < a3)) false (mi_ltF2 (3) (by decide) (by omega)) 14 10 ([(0, .int a3), (1, .int 0), (2, .int 3)], [], (0, 0), mi_G) (by rfl) ?_
      refine mi_sem_steps mi_in120 (mi_calok_none _ _) 2 _ (15, [(0, .int a3), (1, .int 0), (2, .int 3)], [.int 1], (0, 0), mi_G) (by rfl) ?_
      exact mi_sem_ret (cal := fun _ _ _ => none) mi_in120 (by rfl)
    refine mi_sem_call mi_in88 (i := (.invokestatic 74, 3, 120, 0, 9, 0, 152)) (by rfl) (by rfl) hM392 (by decide) ⟨Nat.le_of_ble_eq_true rfl, Nat.le_of_ble_eq_true rfl⟩ ?_
    refine mi_sem_steps mi_in88 (mi_calok_none _ _) 3 _ (11, [(0, .ref 0), (1, .int a1), (2, .int a2), (3, .int a3)], [.int 3, .int a3], (0, 0), mi_G) (by rfl) ?_
    refine mi_sem_b mi_in88 ((a3 != 3)) true (mi_neT (3) (by decide) (by omega)) 25 14 ([(0, .ref 0), (1, .int a1), (2, .int a2), (3, .int a3)], [], (0, 0), mi_G) (by rfl) ?_
    refine mi_sem_steps mi_in88 (mi_calok_none _ _) 1 _ (26, [(0, .ref 0), (1, .int a1), (2, .int a2), (3, .int a3)], [.int a2], (0, 0), mi_G) (by rfl) ?_
    refine mi_sem_b mi_in88 ((a2 == 0)) false (mi_eqF (0) (by decide) (by omega)) 31 29 ([(0, .ref 0), (1, .int a1), (2, .int a2), (3, .int a3)], [], (0, 0), mi_G) (by rfl) ?_
    refine mi_sem_steps mi_in88 (mi_calok_none _ _) 1 _ (30, [(0, .ref 0), (1, .int a1), (2, .int a2), (3, .int a3)], [.int (-1)], (0, 0), mi_G) (by rfl) ?_
    exact mi_sem_ret (cal := fun _ _ _ => none) mi_in88 (by rfl)
  · refine mi_met_of (y := 175) (q := (mi_h175, mi_c175)) rfl (by decide) (Nat.le_of_ble_eq_true rfl) ?_
    refine mi_sem_steps mi_in175 (mi_calok_none _ _) 1 _ (1, [(0, .ref 116), (1, .int a1), (2, .int a2), (3, .int a3)], [.int a1], (0, 0), mi_G) (by rfl) ?_
    have hM394 : mi_Met mi_N0 2 mi_h133 [.int a1] mi_G (some (.int 0)) mi_G := by
      refine mi_met_of (y := 133) (q := (mi_h133, mi_c133)) rfl (by decide) (Nat.le_of_ble_eq_true rfl) ?_
      refine mi_sem_steps mi_in133 (mi_calok_none _ _) 3 _ (3, [(0, .int a1)], [.int 5, .int 0, .int a1], (0, 0), mi_G) (by rfl) ?_
      have hM393 : mi_Met mi_N0 1 mi_h131 [.int a1, .int 0, .int 5] mi_G (some (.int 0)) mi_G := by
        refine mi_met_of (y := 131) (q := (mi_h131, mi_c131)) rfl (by decide) (Nat.le_of_ble_eq_true rfl) ?_
        refine mi_sem_steps mi_in131 (mi_calok_none _ _) 2 _ (2, [(0, .int a1), (1, .int 0), (2, .int 5)], [.int 0, .int a1], (0, 0), mi_G) (by rfl) ?_
        refine mi_sem_b mi_in131 (decide (a1 < 0)) true (mi_ltT (0) (by decide) (by omega)) 14 5 ([(0, .int a1), (1, .int 0), (2, .int 5)], [], (0, 0), mi_G) (by rfl) ?_
        refine mi_sem_steps mi_in131 (mi_calok_none _ _) 1 _ (15, [(0, .int a1), (1, .int 0), (2, .int 5)], [.int 0], (0, 0), mi_G) (by rfl) ?_
        exact mi_sem_ret (cal := fun _ _ _ => none) mi_in131 (by rfl)
      refine mi_sem_call mi_in133 (i := (.invokestatic 119, 3, 131, 0, 9, 0, 379)) (by rfl) (by rfl) hM393 (by decide) ⟨Nat.le_of_ble_eq_true rfl, Nat.le_of_ble_eq_true rfl⟩ ?_
      exact mi_sem_ret (cal := fun _ _ _ => none) mi_in133 (by rfl)
    refine mi_sem_call mi_in175 (i := (.invokestatic 127, 3, 133, 0, 9, 0, 382)) (by rfl) (by rfl) hM394 (by decide) ⟨Nat.le_of_ble_eq_true rfl, Nat.le_of_ble_eq_true rfl⟩ ?_
    refine mi_sem_steps mi_in175 (mi_calok_none _ _) 2 _ (37, [(0, .ref 116), (1, .int a1), (2, .int a2), (3, .int a3)], [.int (-1)], (0, 0), mi_G) (by rfl) ?_
    exact mi_sem_ret (cal := fun _ _ _ => none) mi_in175 (by rfl)

set_option maxRecDepth 100000 in
set_option maxHeartbeats 4000000 in
theorem mp_market_15 (a1 : Int32) (a2 : Int32) (a3 : Int32) (r0 : 0 ≤ (a3).toInt ∧ (a3).toInt ≤ 2) (r1 : 1 ≤ (a2).toInt ∧ (a2).toInt ≤ 2147483647) (r2 : 0 ≤ (a1).toInt ∧ (a1).toInt ≤ 5) : mi_P 88 175 [.int a1, .int a2, .int a3] := by
  refine ⟨.int (-1), mi_G, mi_G, (mi_h88, mi_c88), (mi_h175, mi_c175), 2, 3, rfl, rfl, rfl, by decide, by decide, ?_, ?_⟩
  · refine mi_met_of (y := 88) (q := (mi_h88, mi_c88)) rfl (by decide) (Nat.le_of_ble_eq_true rfl) ?_
    refine mi_sem_steps mi_in88 (mi_calok_none _ _) 3 _ (3, [(0, .ref 0), (1, .int a1), (2, .int a2), (3, .int a3)], [.int 3, .int 0, .int a3], (0, 0), mi_G) (by rfl) ?_
    have hM396 : mi_Met mi_N0 1 mi_h120 [.int a3, .int 0, .int 3] mi_G (some (.int 1)) mi_G := by
      refine mi_met_of (y := 120) (q := (mi_h120, mi_c120)) rfl (by decide) (Nat.le_of_ble_eq_true rfl) ?_
      refine mi_sem_steps mi_in120 (mi_calok_none _ _) 2 _ (2, [(0, .int a3), (1, .int 0), (2, .int 3)], [.int 0, .int a3], (0, 0), mi_G) (by rfl) ?_
      refine mi_sem_b mi_in120 (decide (a3 < 0)) false (mi_ltF (0) (by decide) (by omega)) 14 5 ([(0, .int a3), (1, .int 0), (2, .int 3)], [], (0, 0), mi_G) (by rfl) ?_
      refine mi_sem_steps mi_in120 (mi_calok_none _ _) 2 _ (7, [(0, .int a3), (1, .int 0), (2, .int 3)], [.int 3, .int a3], (0, 0), mi_G) (by rfl) ?_
      refine mi_sem_b mi_in120 (decide (3 < a3)) false (mi_ltF2 (3) (by decide) (by omega)) 14 10 ([(0, .int a3), (1, .int 0), (2, .int 3)], [], (0, 0), mi_G) (by rfl) ?_
      refine mi_sem_steps mi_in120 (mi_calok_none _ _) 2 _ (15, [(0, .int a3), (1, .int 0), (2, .int 3)], [.int 1], (0, 0), mi_G) (by rfl) ?_
      exact mi_sem_ret (cal := fun _ _ _ => none) mi_in120 (by rfl)
    refine mi_sem_call mi_in88 (i := (.invokestatic 74, 3, 120, 0, 9, 0, 152)) (by rfl) (by rfl) hM396 (by decide) ⟨Nat.le_of_ble_eq_true rfl, Nat.le_of_ble_eq_true rfl⟩ ?_
    refine mi_sem_steps mi_in88 (mi_calok_none _ _) 3 _ (11, [(0, .ref 0), (1, .int a1), (2, .int a2), (3, .int a3)], [.int 3, .int a3], (0, 0), mi_G) (by rfl) ?_
    refine mi_sem_b mi_in88 ((a3 != 3)) true (mi_neT (3) (by decide) (by omega)) 25 14 ([(0, .ref 0), (1, .int a1), (2, .int a2), (3, .int a3)], [], (0, 0), mi_G) (by rfl) ?_
    refine mi_sem_steps mi_in88 (mi_calok_none _ _) 1 _ (26, [(0, .ref 0), (1, .int a1), (2, .int a2), (3, .int a3)], [.int a2], (0, 0), mi_G) (by rfl) ?_
    refine mi_sem_b mi_in88 ((a2 == 0)) false (mi_eqF (0) (by decide) (by omega)) 31 29 ([(0, .ref 0), (1, .int a1), (2, .int a2), (3, .int a3)], [], (0, 0), mi_G) (by rfl) ?_
    refine mi_sem_steps mi_in88 (mi_calok_none _ _) 1 _ (30, [(0, .ref 0), (1, .int a1), (2, .int a2), (3, .int a3)], [.int (-1)], (0, 0), mi_G) (by rfl) ?_
    exact mi_sem_ret (cal := fun _ _ _ => none) mi_in88 (by rfl)
  · refine mi_met_of (y := 175) (q := (mi_h175, mi_c175)) rfl (by decide) (Nat.le_of_ble_eq_true rfl) ?_
    refine mi_sem_steps mi_in175 (mi_calok_none _ _) 1 _ (1, [(0, .ref 116), (1, .int a1), (2, .int a2), (3, .int a3)], [.int a1], (0, 0), mi_G) (by rfl) ?_
    have hM398 : mi_Met mi_N0 2 mi_h133 [.int a1] mi_G (some (.int 1)) mi_G := by
      refine mi_met_of (y := 133) (q := (mi_h133, mi_c133)) rfl (by decide) (Nat.le_of_ble_eq_true rfl) ?_
      refine mi_sem_steps mi_in133 (mi_calok_none _ _) 3 _ (3, [(0, .int a1)], [.int 5, .int 0, .int a1], (0, 0), mi_G) (by rfl) ?_
      have hM397 : mi_Met mi_N0 1 mi_h131 [.int a1, .int 0, .int 5] mi_G (some (.int 1)) mi_G := by
        refine mi_met_of (y := 131) (q := (mi_h131, mi_c131)) rfl (by decide) (Nat.le_of_ble_eq_true rfl) ?_
        refine mi_sem_steps mi_in131 (mi_calok_none _ _) 2 _ (2, [(0, .int a1), (1, .int 0), (2, .int 5)], [.int 0, .int a1], (0, 0), mi_G) (by rfl) ?_
        refine mi_sem_b mi_in131 (decide (a1 < 0)) false (mi_ltF (0) (by decide) (by omega)) 14 5 ([(0, .int a1), (1, .int 0), (2, .int 5)], [], (0, 0), mi_G) (by rfl) ?_
        refine mi_sem_steps mi_in131 (mi_calok_none _ _) 2 _ (7, [(0, .int a1), (1, .int 0), (2, .int 5)], [.int 5, .int a1], (0, 0), mi_G) (by rfl) ?_
        refine mi_sem_b mi_in131 (decide (5 < a1)) false (mi_ltF2 (5) (by decide) (by omega)) 14 10 ([(0, .int a1), (1, .int 0), (2, .int 5)], [], (0, 0), mi_G) (by rfl) ?_
        refine mi_sem_steps mi_in131 (mi_calok_none _ _) 2 _ (15, [(0, .int a1), (1, .int 0), (2, .int 5)], [.int 1], (0, 0), mi_G) (by rfl) ?_
        exact mi_sem_ret (cal := fun _ _ _ => none) mi_in131 (by rfl)
      refine mi_sem_call mi_in133 (i := (.invokestatic 119, 3, 131, 0, 9, 0, 379)) (by rfl) (by rfl) hM397 (by decide) ⟨Nat.le_of_ble_eq_true rfl, Nat.le_of_ble_eq_true rfl⟩ ?_
      exact mi_sem_ret (cal := fun _ _ _ => none) mi_in133 (by rfl)
    refine mi_sem_call mi_in175 (i := (.invokestatic 127, 3, 133, 0, 9, 0, 382)) (by rfl) (by rfl) hM398 (by decide) ⟨Nat.le_of_ble_eq_true rfl, Nat.le_of_ble_eq_true rfl⟩ ?_
    refine mi_sem_steps mi_in175 (mi_calok_none _ _) 4 _ (10, [(0, .ref 116), (1, .int a1), (2, .int a2), (3, .int a3)], [.int 3, .int 0, .int a3], (0, 0), mi_G) (by rfl) ?_
    have hM399 : mi_Met mi_N0 1 mi_h131 [.int a3, .int 0, .int 3] mi_G (some (.int 1)) mi_G := by
      refine mi_met_of (y := 131) (q := (mi_h131, mi_c131)) rfl (by decide) (Nat.le_of_ble_eq_true rfl) ?_
      refine mi_sem_steps mi_in131 (mi_calok_none _ _) 2 _ (2, [(0, .int a3), (1, .int 0), (2, .int 3)], [.int 0, .int a3], (0, 0), mi_G) (by rfl) ?_
      refine mi_sem_b mi_in131 (decide (a3 < 0)) false (mi_ltF (0) (by decide) (by omega)) 14 5 ([(0, .int a3), (1, .int 0), (2, .int 3)], [], (0, 0), mi_G) (by rfl) ?_
      refine mi_sem_steps mi_in131 (mi_calok_none _ _) 2 _ (7, [(0, .int a3), (1, .int 0), (2, .int 3)], [.int 3, .int a3], (0, 0), mi_G) (by rfl) ?_
      refine mi_sem_b mi_in131 (decide (3 < a3)) false (mi_ltF2 (3) (by decide) (by omega)) 14 10 ([(0, .int a3), (1, .int 0), (2, .int 3)], [], (0, 0), mi_G) (by rfl) ?_
      refine mi_sem_steps mi_in131 (mi_calok_none _ _) 2 _ (15, [(0, .int a3), (1, .int 0), (2, .int 3)], [.int 1], (0, 0), mi_G) (by rfl) ?_
      exact mi_sem_ret (cal := fun _ _ _ => none) mi_in131 (by rfl)
    refine mi_sem_call mi_in175 (i := (.invokestatic 119, 3, 131, 0, 9, 0, 379)) (by rfl) (by rfl) hM399 (by decide) ⟨Nat.le_of_ble_eq_true rfl, Nat.le_of_ble_eq_true rfl⟩ ?_
    refine mi_sem_steps mi_in175 (mi_calok_none _ _) 3 _ (18, [(0, .ref 116), (1, .int a1), (2, .int a2), (3, .int a3)], [.int 3, .int a3], (0, 0), mi_G) (by rfl) ?_
    refine mi_sem_b mi_in175 ((a3 != 3)) true (mi_neT (3) (by decide) (by omega)) 32 21 ([(0, .ref 116), (1, .int a1), (2, .int a2), (3, .int a3)], [], (0, 0), mi_G) (by rfl) ?_
    refine mi_sem_steps mi_in175 (mi_calok_none _ _) 1 _ (33, [(0, .ref 116), (1, .int a1), (2, .int a2), (3, .int a3)], [.int a2], (0, 0), mi_G) (by rfl) ?_
    refine mi_sem_b mi_in175 ((a2 == 0)) false (mi_eqF (0) (by decide) (by omega)) 38 36 ([(0, .ref 116), (1, .int a1), (2, .int a2), (3, .int a3)], [], (0, 0), mi_G) (by rfl) ?_
    refine mi_sem_steps mi_in175 (mi_calok_none _ _) 1 _ (37, [(0, .ref 116), (1, .int a1), (2, .int a2), (3, .int a3)], [.int (-1)], (0, 0), mi_G) (by rfl) ?_
    exact mi_sem_ret (cal := fun _ _ _ => none) mi_in175 (by rfl)

set_option maxRecDepth 100000 in
set_option maxHeartbeats 4000000 in
theorem mp_market_16 (a1 : Int32) (a2 : Int32) (a3 : Int32) (r0 : 0 ≤ (a3).toInt ∧ (a3).toInt ≤ 2) (r1 : 1 ≤ (a2).toInt ∧ (a2).toInt ≤ 2147483647) (r2 : 6 ≤ (a1).toInt ∧ (a1).toInt ≤ 2147483647) : mi_P 88 175 [.int a1, .int a2, .int a3] := by
  refine ⟨.int (-1), mi_G, mi_G, (mi_h88, mi_c88), (mi_h175, mi_c175), 2, 3, rfl, rfl, rfl, by decide, by decide, ?_, ?_⟩
  · refine mi_met_of (y := 88) (q := (mi_h88, mi_c88)) rfl (by decide) (Nat.le_of_ble_eq_true rfl) ?_
    refine mi_sem_steps mi_in88 (mi_calok_none _ _) 3 _ (3, [(0, .ref 0), (1, .int a1), (2, .int a2), (3, .int a3)], [.int 3, .int 0, .int a3], (0, 0), mi_G) (by rfl) ?_
    have hM400 : mi_Met mi_N0 1 mi_h120 [.int a3, .int 0, .int 3] mi_G (some (.int 1)) mi_G := by
      refine mi_met_of (y := 120) (q := (mi_h120, mi_c120)) rfl (by decide) (Nat.le_of_ble_eq_true rfl) ?_
      refine mi_sem_steps mi_in120 (mi_calok_none _ _) 2 _ (2, [(0, .int a3), (1, .int 0), (2, .int 3)], [.int 0, .int a3], (0, 0), mi_G) (by rfl) ?_
      refine mi_sem_b mi_in120 (decide (a3 < 0)) false (mi_ltF (0) (by decide) (by omega)) 14 5 ([(0, .int a3), (1, .int 0), (2, .int 3)], [], (0, 0), mi_G) (by rfl) ?_
      refine mi_sem_steps mi_in120 (mi_calok_none _ _) 2 _ (7, [(0, .int a3), (1, .int 0), (2, .int 3)], [.int 3, .int a3], (0, 0), mi_G) (by rfl) ?_
      refine mi_sem_b mi_in120 (decide (3 < a3)) false (mi_ltF2 (3) (by decide) (by omega)) 14 10 ([(0, .int a3), (1, .int 0), (2, .int 3)], [], (0, 0), mi_G) (by rfl) ?_
      refine mi_sem_steps mi_in120 (mi_calok_none _ _) 2 _ (15, [(0, .int a3), (1, .int 0), (2, .int 3)], [.int 1], (0, 0), mi_G) (by rfl) ?_
      exact mi_sem_ret (cal := fun _ _ _ => none) mi_in120 (by rfl)
    refine mi_sem_call mi_in88 (i := (.invokestatic 74, 3, 120, 0, 9, 0, 152)) (by rfl) (by rfl) hM400 (by decide) ⟨Nat.le_of_ble_eq_true rfl, Nat.le_of_ble_eq_true rfl⟩ ?_
    refine mi_sem_steps mi_in88 (mi_calok_none _ _) 3 _ (11, [(0, .ref 0), (1, .int a1), (2, .int a2), (3, .int a3)], [.int 3, .int a3], (0, 0), mi_G) (by rfl) ?_
    refine mi_sem_b mi_in88 ((a3 != 3)) true (mi_neT (3) (by decide) (by omega)) 25 14 ([(0, .ref 0), (1, .int a1), (2, .int a2), (3, .int a3)], [], (0, 0), mi_G) (by rfl) ?_
    refine mi_sem_steps mi_in88 (mi_calok_none _ _) 1 _ (26, [(0, .ref 0), (1, .int a1), (2, .int a2), (3, .int a3)], [.int a2], (0, 0), mi_G) (by rfl) ?_
    refine mi_sem_b mi_in88 ((a2 == 0)) false (mi_eqF (0) (by decide) (by omega)) 31 29 ([(0, .ref 0), (1, .int a1), (2, .int a2), (3, .int a3)], [], (0, 0), mi_G) (by rfl) ?_
    refine mi_sem_steps mi_in88 (mi_calok_none _ _) 1 _ (30, [(0, .ref 0), (1, .int a1), (2, .int a2), (3, .int a3)], [.int (-1)], (0, 0), mi_G) (by rfl) ?_
    exact mi_sem_ret (cal := fun _ _ _ => none) mi_in88 (by rfl)
  · refine mi_met_of (y := 175) (q := (mi_h175, mi_c175)) rfl (by decide) (Nat.le_of_ble_eq_true rfl) ?_
    refine mi_sem_steps mi_in175 (mi_calok_none _ _) 1 _ (1, [(0, .ref 116), (1, .int a1), (2, .int a2), (3, .int a3)], [.int a1], (0, 0), mi_G) (by rfl) ?_
    have hM402 : mi_Met mi_N0 2 mi_h133 [.int a1] mi_G (some (.int 0)) mi_G := by
      refine mi_met_of (y := 133) (q := (mi_h133, mi_c133)) rfl (by decide) (Nat.le_of_ble_eq_true rfl) ?_
      refine mi_sem_steps mi_in133 (mi_calok_none _ _) 3 _ (3, [(0, .int a1)], [.int 5, .int 0, .int a1], (0, 0), mi_G) (by rfl) ?_
      have hM401 : mi_Met mi_N0 1 mi_h131 [.int a1, .int 0, .int 5] mi_G (some (.int 0)) mi_G := by
        refine mi_met_of (y := 131) (q := (mi_h131, mi_c131)) rfl (by decide) (Nat.le_of_ble_eq_true rfl) ?_
        refine mi_sem_steps mi_in131 (mi_calok_none _ _) 2 _ (2, [(0, .int a1), (1, .int 0), (2, .int 5)], [.int 0, .int a1], (0, 0), mi_G) (by rfl) ?_
        refine mi_sem_b mi_in131 (decide (a1 < 0)) false (mi_ltF (0) (by decide) (by omega)) 14 5 ([(0, .int a1), (1, .int 0), (2, .int 5)], [], (0, 0), mi_G) (by rfl) ?_
        refine mi_sem_steps mi_in131 (mi_calok_none _ _) 2 _ (7, [(0, .int a1), (1, .int 0), (2, .int 5)], [.int 5, .int a1], (0, 0), mi_G) (by rfl) ?_
        refine mi_sem_b mi_in131 (decide (5 < a1)) true (mi_ltT2 (5) (by decide) (by omega)) 14 10 ([(0, .int a1), (1, .int 0), (2, .int 5)], [], (0, 0), mi_G) (by rfl) ?_
        refine mi_sem_steps mi_in131 (mi_calok_none _ _) 1 _ (15, [(0, .int a1), (1, .int 0), (2, .int 5)], [.int 0], (0, 0), mi_G) (by rfl) ?_
        exact mi_sem_ret (cal := fun _ _ _ => none) mi_in131 (by rfl)
      refine mi_sem_call mi_in133 (i := (.invokestatic 119, 3, 131, 0, 9, 0, 379)) (by rfl) (by rfl) hM401 (by decide) ⟨Nat.le_of_ble_eq_true rfl, Nat.le_of_ble_eq_true rfl⟩ ?_
      exact mi_sem_ret (cal := fun _ _ _ => none) mi_in133 (by rfl)
    refine mi_sem_call mi_in175 (i := (.invokestatic 127, 3, 133, 0, 9, 0, 382)) (by rfl) (by rfl) hM402 (by decide) ⟨Nat.le_of_ble_eq_true rfl, Nat.le_of_ble_eq_true rfl⟩ ?_
    refine mi_sem_steps mi_in175 (mi_calok_none _ _) 2 _ (37, [(0, .ref 116), (1, .int a1), (2, .int a2), (3, .int a3)], [.int (-1)], (0, 0), mi_G) (by rfl) ?_
    exact mi_sem_ret (cal := fun _ _ _ => none) mi_in175 (by rfl)

set_option maxRecDepth 100000 in
set_option maxHeartbeats 4000000 in
theorem mp_market_17 (a1 : Int32) (a2 : Int32) (r0 : (-2147483648) ≤ (a2).toInt ∧ (a2).toInt ≤ (-1)) (r1 : (-2147483648) ≤ (a1).toInt ∧ (a1).toInt ≤ (-1)) : mi_P 88 175 [.int a1, .int a2, .int 3] := by
  refine ⟨.int (-1), mi_G, mi_G, (mi_h88, mi_c88), (mi_h175, mi_c175), 3, 3, rfl, rfl, rfl, by decide, by decide, ?_, ?_⟩
  · refine mi_met_of (y := 88) (q := (mi_h88, mi_c88)) rfl (by decide) (Nat.le_of_ble_eq_true rfl) ?_
    refine mi_sem_steps mi_in88 (mi_calok_none _ _) 3 _ (3, [(0, .ref 0), (1, .int a1), (2, .int a2), (3, .int 3)], [.int 3, .int 0, .int 3], (0, 0), mi_G) (by rfl) ?_
    have hM407 : mi_Met mi_N0 1 mi_h120 [.int 3, .int 0, .int 3] mi_G (some (.int 1)) mi_G := mi_fun_ok mi_N0 1 120 (mi_h120, mi_c120) _ _ _ _ rfl (mi_eR_ok (by decide +kernel))
    refine mi_sem_call mi_in88 (i := (.invokestatic 74, 3, 120, 0, 9, 0, 152)) (by rfl) (by rfl) hM407 (by decide) ⟨Nat.le_of_ble_eq_true rfl, Nat.le_of_ble_eq_true rfl⟩ ?_
    refine mi_sem_steps mi_in88 (mi_calok_none _ _) 6 _ (16, [(0, .ref 0), (1, .int a1), (2, .int a2), (3, .int 3)], [.int a2, .ref 0], (0, 0), mi_G) (by rfl) ?_
    have hM409 : mi_Met mi_N0 2 mi_h123 [.ref 0, .int a2] mi_G (some (.int 0)) mi_G := by
      refine mi_met_of (y := 123) (q := (mi_h123, mi_c123)) rfl (by decide) (Nat.le_of_ble_eq_true rfl) ?_
      refine mi_sem_steps mi_in123 (mi_calok_none _ _) 3 _ (5, [(0, .ref 0), (1, .int a2)], [.int a2, .ref 1], (0, 0), mi_G) (by rfl) ?_
      have hM408 : mi_Met mi_N0 1 mi_h24 [.ref 1, .int a2] mi_G (some (.int 0)) mi_G := by
        refine mi_met_of (y := 24) (q := (mi_h24, mi_c24)) rfl (by decide) (Nat.le_of_ble_eq_true rfl) ?_
        refine mi_sem_steps mi_in24 (mi_calok_none _ _) 1 _ (1, [(0, .ref 1), (1, .int a2)], [.int a2], (0, 0), mi_G) (by rfl) ?_
        refine mi_sem_b mi_in24 (decide (a2 < 0)) true (mi_ltT (0) (by decide) (by omega)) 22 4 ([(0, .ref 1), (1, .int a2)], [], (0, 0), mi_G) (by rfl) ?_
        refine mi_sem_steps mi_in24 (mi_calok_none _ _) 1 _ (23, [(0, .ref 1), (1, .int a2)], [.int 0], (0, 0), mi_G) (by rfl) ?_
        exact mi_sem_ret (cal := fun _ _ _ => none) mi_in24 (by rfl)
      refine mi_sem_call mi_in123 (i := (.invokevirtual 342, 3, 24, 0, 9, 0, 163)) (by rfl) (by rfl) hM408 (by decide) ⟨Nat.le_of_ble_eq_true rfl, Nat.le_of_ble_eq_true rfl⟩ ?_
      exact mi_sem_ret (cal := fun _ _ _ => none) mi_in123 (by rfl)
    refine mi_sem_call mi_in88 (i := (.invokevirtual 141, 3, 123, 0, 9, 0, 162)) (by rfl) (by rfl) hM409 (by decide) ⟨Nat.le_of_ble_eq_true rfl, Nat.le_of_ble_eq_true rfl⟩ ?_
    refine mi_sem_steps mi_in88 (mi_calok_none _ _) 3 _ (30, [(0, .ref 0), (1, .int a1), (2, .int a2), (3, .int 3)], [.int (-1)], (0, 0), mi_G) (by rfl) ?_
    exact mi_sem_ret (cal := fun _ _ _ => none) mi_in88 (by rfl)
  · refine mi_met_of (y := 175) (q := (mi_h175, mi_c175)) rfl (by decide) (Nat.le_of_ble_eq_true rfl) ?_
    refine mi_sem_steps mi_in175 (mi_calok_none _ _) 1 _ (1, [(0, .ref 116), (1, .int a1), (2, .int a2), (3, .int 3)], [.int a1], (0, 0), mi_G) (by rfl) ?_
    have hM411 : mi_Met mi_N0 2 mi_h133 [.int a1] mi_G (some (.int 0)) mi_G := by
      refine mi_met_of (y := 133) (q := (mi_h133, mi_c133)) rfl (by decide) (Nat.le_of_ble_eq_true rfl) ?_
      refine mi_sem_steps mi_in133 (mi_calok_none _ _) 3 _ (3, [(0, .int a1)], [.int 5, .int 0, .int a1], (0, 0), mi_G) (by rfl) ?_
      have hM410 : mi_Met mi_N0 1 mi_h131 [.int a1, .int 0, .int 5] mi_G (some (.int 0)) mi_G := by
        refine mi_met_of (y := 131) (q := (mi_h131, mi_c131)) rfl (by decide) (Nat.le_of_ble_eq_true rfl) ?_
        refine mi_sem_steps mi_in131 (mi_calok_none _ _) 2 _ (2, [(0, .int a1), (1, .int 0), (2, .int 5)], [.int 0, .int a1], (0, 0), mi_G) (by rfl) ?_
        refine mi_sem_b mi_in131 (decide (a1 < 0)) true (mi_ltT (0) (by decide) (by omega)) 14 5 ([(0, .int a1), (1, .int 0), (2, .int 5)], [], (0, 0), mi_G) (by rfl) ?_
        refine mi_sem_steps mi_in131 (mi_calok_none _ _) 1 _ (15, [(0, .int a1), (1, .int 0), (2, .int 5)], [.int 0], (0, 0), mi_G) (by rfl) ?_
        exact mi_sem_ret (cal := fun _ _ _ => none) mi_in131 (by rfl)
      refine mi_sem_call mi_in133 (i := (.invokestatic 119, 3, 131, 0, 9, 0, 379)) (by rfl) (by rfl) hM410 (by decide) ⟨Nat.le_of_ble_eq_true rfl, Nat.le_of_ble_eq_true rfl⟩ ?_
      exact mi_sem_ret (cal := fun _ _ _ => none) mi_in133 (by rfl)
    refine mi_sem_call mi_in175 (i := (.invokestatic 127, 3, 133, 0, 9, 0, 382)) (by rfl) (by rfl) hM411 (by decide) ⟨Nat.le_of_ble_eq_true rfl, Nat.le_of_ble_eq_true rfl⟩ ?_
    refine mi_sem_steps mi_in175 (mi_calok_none _ _) 2 _ (37, [(0, .ref 116), (1, .int a1), (2, .int a2), (3, .int 3)], [.int (-1)], (0, 0), mi_G) (by rfl) ?_
    exact mi_sem_ret (cal := fun _ _ _ => none) mi_in175 (by rfl)

set_option maxRecDepth 100000 in
set_option maxHeartbeats 4000000 in
theorem mp_market_18 (a1 : Int32) (a2 : Int32) (r0 : (-2147483648) ≤ (a2).toInt ∧ (a2).toInt ≤ (-1)) (r1 : 0 ≤ (a1).toInt ∧ (a1).toInt ≤ 5) : mi_P 88 175 [.int a1, .int a2, .int 3] := by
  refine ⟨.int (-1), mi_G, mi_G, (mi_h88, mi_c88), (mi_h175, mi_c175), 3, 3, rfl, rfl, rfl, by decide, by decide, ?_, ?_⟩
  · refine mi_met_of (y := 88) (q := (mi_h88, mi_c88)) rfl (by decide) (Nat.le_of_ble_eq_true rfl) ?_
    refine mi_sem_steps mi_in88 (mi_calok_none _ _) 3 _ (3, [(0, .ref 0), (1, .int a1), (2, .int a2), (3, .int 3)], [.int 3, .int 0, .int 3], (0, 0), mi_G) (by rfl) ?_
    have hM415 : mi_Met mi_N0 1 mi_h120 [.int 3, .int 0, .int 3] mi_G (some (.int 1)) mi_G := mi_fun_ok mi_N0 1 120 (mi_h120, mi_c120) _ _ _ _ rfl (mi_eR_ok (by decide +kernel))
    refine mi_sem_call mi_in88 (i := (.invokestatic 74, 3, 120, 0, 9, 0, 152)) (by rfl) (by rfl) hM415 (by decide) ⟨Nat.le_of_ble_eq_true rfl, Nat.le_of_ble_eq_true rfl⟩ ?_
    refine mi_sem_steps mi_in88 (mi_calok_none _ _) 6 _ (16, [(0, .ref 0), (1, .int a1), (2, .int a2), (3, .int 3)], [.int a2, .ref 0], (0, 0), mi_G) (by rfl) ?_
    have hM417 : mi_Met mi_N0 2 mi_h123 [.ref 0, .int a2] mi_G (some (.int 0)) mi_G := by
      refine mi_met_of (y := 123) (q := (mi_h123, mi_c123)) rfl (by decide) (Nat.le_of_ble_eq_true rfl) ?_
      refine mi_sem_steps mi_in123 (mi_calok_none _ _) 3 _ (5, [(0, .ref 0), (1, .int a2)], [.int a2, .ref 1], (0, 0), mi_G) (by rfl) ?_
      have hM416 : mi_Met mi_N0 1 mi_h24 [.ref 1, .int a2] mi_G (some (.int 0)) mi_G := by
        refine mi_met_of (y := 24) (q := (mi_h24, mi_c24)) rfl (by decide) (Nat.le_of_ble_eq_true rfl) ?_
        refine mi_sem_steps mi_in24 (mi_calok_none _ _) 1 _ (1, [(0, .ref 1), (1, .int a2)], [.int a2], (0, 0), mi_G) (by rfl) ?_
        refine mi_sem_b mi_in24 (decide (a2 < 0)) true (mi_ltT (0) (by decide) (by omega)) 22 4 ([(0, .ref 1), (1, .int a2)], [], (0, 0), mi_G) (by rfl) ?_
        refine mi_sem_steps mi_in24 (mi_calok_none _ _) 1 _ (23, [(0, .ref 1), (1, .int a2)], [.int 0], (0, 0), mi_G) (by rfl) ?_
        exact mi_sem_ret (cal := fun _ _ _ => none) mi_in24 (by rfl)
      refine mi_sem_call mi_in123 (i := (.invokevirtual 342, 3, 24, 0, 9, 0, 163)) (by rfl) (by rfl) hM416 (by decide) ⟨Nat.le_of_ble_eq_true rfl, Nat.le_of_ble_eq_true rfl⟩ ?_
      exact mi_sem_ret (cal := fun _ _ _ => none) mi_in123 (by rfl)
    refine mi_sem_call mi_in88 (i := (.invokevirtual 141, 3, 123, 0, 9, 0, 162)) (by rfl) (by rfl) hM417 (by decide) ⟨Nat.le_of_ble_eq_true rfl, Nat.le_of_ble_eq_true rfl⟩ ?_
    refine mi_sem_steps mi_in88 (mi_calok_none _ _) 3 _ (30, [(0, .ref 0), (1, .int a1), (2, .int a2), (3, .int 3)], [.int (-1)], (0, 0), mi_G) (by rfl) ?_
    exact mi_sem_ret (cal := fun _ _ _ => none) mi_in88 (by rfl)
  · refine mi_met_of (y := 175) (q := (mi_h175, mi_c175)) rfl (by decide) (Nat.le_of_ble_eq_true rfl) ?_
    refine mi_sem_steps mi_in175 (mi_calok_none _ _) 1 _ (1, [(0, .ref 116), (1, .int a1), (2, .int a2), (3, .int 3)], [.int a1], (0, 0), mi_G) (by rfl) ?_
    have hM419 : mi_Met mi_N0 2 mi_h133 [.int a1] mi_G (some (.int 1)) mi_G := by
      refine mi_met_of (y := 133) (q := (mi_h133, mi_c133)) rfl (by decide) (Nat.le_of_ble_eq_true rfl) ?_
      refine mi_sem_steps mi_in133 (mi_calok_none _ _) 3 _ (3, [(0, .int a1)], [.int 5, .int 0, .int a1], (0, 0), mi_G) (by rfl) ?_
      have hM418 : mi_Met mi_N0 1 mi_h131 [.int a1, .int 0, .int 5] mi_G (some (.int 1)) mi_G := by
        refine mi_met_of (y := 131) (q := (mi_h131, mi_c131)) rfl (by decide) (Nat.le_of_ble_eq_true rfl) ?_
        refine mi_sem_steps mi_in131 (mi_calok_none _ _) 2 _ (2, [(0, .int a1), (1, .int 0), (2, .int 5)], [.int 0, .int a1], (0, 0), mi_G) (by rfl) ?_
        refine mi_sem_b mi_in131 (decide (a1 < 0)) false (mi_ltF (0) (by decide) (by omega)) 14 5 ([(0, .int a1), (1, .int 0), (2, .int 5)], [], (0, 0), mi_G) (by rfl) ?_
        refine mi_sem_steps mi_in131 (mi_calok_none _ _) 2 _ (7, [(0, .int a1), (1, .int 0), (2, .int 5)], [.int 5, .int a1], (0, 0), mi_G) (by rfl) ?_
        refine mi_sem_b mi_in131 (decide (5 < a1)) false (mi_ltF2 (5) (by decide) (by omega)) 14 10 ([(0, .int a1), (1, .int 0), (2, .int 5)], [], (0, 0), mi_G) (by rfl) ?_
        refine mi_sem_steps mi_in131 (mi_calok_none _ _) 2 _ (15, [(0, .int a1), (1, .int 0), (2, .int 5)], [.int 1], (0, 0), mi_G) (by rfl) ?_
        exact mi_sem_ret (cal := fun _ _ _ => none) mi_in131 (by rfl)
      refine mi_sem_call mi_in133 (i := (.invokestatic 119, 3, 131, 0, 9, 0, 379)) (by rfl) (by rfl) hM418 (by decide) ⟨Nat.le_of_ble_eq_true rfl, Nat.le_of_ble_eq_true rfl⟩ ?_
      exact mi_sem_ret (cal := fun _ _ _ => none) mi_in133 (by rfl)
    refine mi_sem_call mi_in175 (i := (.invokestatic 127, 3, 133, 0, 9, 0, 382)) (by rfl) (by rfl) hM419 (by decide) ⟨Nat.le_of_ble_eq_true rfl, Nat.le_of_ble_eq_true rfl⟩ ?_
    refine mi_sem_steps mi_in175 (mi_calok_none _ _) 4 _ (10, [(0, .ref 116), (1, .int a1), (2, .int a2), (3, .int 3)], [.int 3, .int 0, .int 3], (0, 0), mi_G) (by rfl) ?_
    have hM420 : mi_Met mi_N0 1 mi_h131 [.int 3, .int 0, .int 3] mi_G (some (.int 1)) mi_G := mi_fun_ok mi_N0 1 131 (mi_h131, mi_c131) _ _ _ _ rfl (mi_eR_ok (by decide +kernel))
    refine mi_sem_call mi_in175 (i := (.invokestatic 119, 3, 131, 0, 9, 0, 379)) (by rfl) (by rfl) hM420 (by decide) ⟨Nat.le_of_ble_eq_true rfl, Nat.le_of_ble_eq_true rfl⟩ ?_
    refine mi_sem_steps mi_in175 (mi_calok_none _ _) 6 _ (23, [(0, .ref 116), (1, .int a1), (2, .int a2), (3, .int 3)], [.int a2, .ref 116], (0, 0), mi_G) (by rfl) ?_
    have hM422 : mi_Met mi_N0 2 mi_h132 [.ref 116, .int a2] mi_G (some (.int 0)) mi_G := by
      refine mi_met_of (y := 132) (q := (mi_h132, mi_c132)) rfl (by decide) (Nat.le_of_ble_eq_true rfl) ?_
      refine mi_sem_steps mi_in132 (mi_calok_none _ _) 6 _ (8, [(0, .ref 116), (1, .int a2)], [.int (-1), .int 0, .int a2], (0, 0), mi_G) (by rfl) ?_
      have hM421 : mi_Met mi_N0 1 mi_h131 [.int a2, .int 0, .int (-1)] mi_G (some (.int 0)) mi_G := by
        refine mi_met_of (y := 131) (q := (mi_h131, mi_c131)) rfl (by decide) (Nat.le_of_ble_eq_true rfl) ?_
        refine mi_sem_steps mi_in131 (mi_calok_none _ _) 2 _ (2, [(0, .int a2), (1, .int 0), (2, .int (-1))], [.int 0, .int a2], (0, 0), mi_G) (by rfl) ?_
        refine mi_sem_b mi_in131 (decide (a2 < 0)) true (mi_ltT (0) (by decide) (by omega)) 14 5 ([(0, .int a2), (1, .int 0), (2, .int (-1))], [], (0, 0), mi_G) (by rfl) ?_
        refine mi_sem_steps mi_in131 (mi_calok_none _ _) 1 _ (15, [(0, .int a2), (1, .int 0), (2, .int (-1))], [.int 0], (0, 0), mi_G) (by rfl) ?_
        exact mi_sem_ret (cal := fun _ _ _ => none) mi_in131 (by rfl)
      refine mi_sem_call mi_in132 (i := (.invokestatic 119, 3, 131, 0, 9, 0, 379)) (by rfl) (by rfl) hM421 (by decide) ⟨Nat.le_of_ble_eq_true rfl, Nat.le_of_ble_eq_true rfl⟩ ?_
      exact mi_sem_ret (cal := fun _ _ _ => none) mi_in132 (by rfl)
    refine mi_sem_call mi_in175 (i := (.invokevirtual 137, 3, 132, 0, 9, 0, 387)) (by rfl) (by rfl) hM422 (by decide) ⟨Nat.le_of_ble_eq_true rfl, Nat.le_of_ble_eq_true rfl⟩ ?_
    refine mi_sem_steps mi_in175 (mi_calok_none _ _) 2 _ (37, [(0, .ref 116), (1, .int a1), (2, .int a2), (3, .int 3)], [.int (-1)], (0, 0), mi_G) (by rfl) ?_
    exact mi_sem_ret (cal := fun _ _ _ => none) mi_in175 (by rfl)

set_option maxRecDepth 100000 in
set_option maxHeartbeats 4000000 in
theorem mp_market_19 (a1 : Int32) (a2 : Int32) (r0 : (-2147483648) ≤ (a2).toInt ∧ (a2).toInt ≤ (-1)) (r1 : 6 ≤ (a1).toInt ∧ (a1).toInt ≤ 2147483647) : mi_P 88 175 [.int a1, .int a2, .int 3] := by
  refine ⟨.int (-1), mi_G, mi_G, (mi_h88, mi_c88), (mi_h175, mi_c175), 3, 3, rfl, rfl, rfl, by decide, by decide, ?_, ?_⟩
  · refine mi_met_of (y := 88) (q := (mi_h88, mi_c88)) rfl (by decide) (Nat.le_of_ble_eq_true rfl) ?_
    refine mi_sem_steps mi_in88 (mi_calok_none _ _) 3 _ (3, [(0, .ref 0), (1, .int a1), (2, .int a2), (3, .int 3)], [.int 3, .int 0, .int 3], (0, 0), mi_G) (by rfl) ?_
    have hM423 : mi_Met mi_N0 1 mi_h120 [.int 3, .int 0, .int 3] mi_G (some (.int 1)) mi_G := mi_fun_ok mi_N0 1 120 (mi_h120, mi_c120) _ _ _ _ rfl (mi_eR_ok (by decide +kernel))
    refine mi_sem_call mi_in88 (i := (.invokestatic 74, 3, 120, 0, 9, 0, 152)) (by rfl) (by rfl) hM423 (by decide) ⟨Nat.le_of_ble_eq_true rfl, Nat.le_of_ble_eq_true rfl⟩ ?_
    refine mi_sem_steps mi_in88 (mi_calok_none _ _) 6 _ (16, [(0, .ref 0), (1, .int a1), (2, .int a2), (3, .int 3)], [.int a2, .ref 0], (0, 0), mi_G) (by rfl) ?_
    have hM425 : mi_Met mi_N0 2 mi_h123 [.ref 0, .int a2] mi_G (some (.int 0)) mi_G := by
      refine mi_met_of (y := 123) (q := (mi_h123, mi_c123)) rfl (by decide) (Nat.le_of_ble_eq_true rfl) ?_
      refine mi_sem_steps mi_in123 (mi_calok_none _ _) 3 _ (5, [(0, .ref 0), (1, .int a2)], [.int a2, .ref 1], (0, 0), mi_G) (by rfl) ?_
      have hM424 : mi_Met mi_N0 1 mi_h24 [.ref 1, .int a2] mi_G (some (.int 0)) mi_G := by
        refine mi_met_of (y := 24) (q := (mi_h24, mi_c24)) rfl (by decide) (Nat.le_of_ble_eq_true rfl) ?_
        refine mi_sem_steps mi_in24 (mi_calok_none _ _) 1 _ (1, [(0, .ref 1), (1, .int a2)], [.int a2], (0, 0), mi_G) (by rfl) ?_
        refine mi_sem_b mi_in24 (decide (a2 < 0)) true (mi_ltT (0) (by decide) (by omega)) 22 4 ([(0, .ref 1), (1, .int a2)], [], (0, 0), mi_G) (by rfl) ?_
        refine mi_sem_steps mi_in24 (mi_calok_none _ _) 1 _ (23, [(0, .ref 1), (1, .int a2)], [.int 0], (0, 0), mi_G) (by rfl) ?_
        exact mi_sem_ret (cal := fun _ _ _ => none) mi_in24 (by rfl)
      refine mi_sem_call mi_in123 (i := (.invokevirtual 342, 3, 24, 0, 9, 0, 163)) (by rfl) (by rfl) hM424 (by decide) ⟨Nat.le_of_ble_eq_true rfl, Nat.le_of_ble_eq_true rfl⟩ ?_
      exact mi_sem_ret (cal := fun _ _ _ => none) mi_in123 (by rfl)
    refine mi_sem_call mi_in88 (i := (.invokevirtual 141, 3, 123, 0, 9, 0, 162)) (by rfl) (by rfl) hM425 (by decide) ⟨Nat.le_of_ble_eq_true rfl, Nat.le_of_ble_eq_true rfl⟩ ?_
    refine mi_sem_steps mi_in88 (mi_calok_none _ _) 3 _ (30, [(0, .ref 0), (1, .int a1), (2, .int a2), (3, .int 3)], [.int (-1)], (0, 0), mi_G) (by rfl) ?_
    exact mi_sem_ret (cal := fun _ _ _ => none) mi_in88 (by rfl)
  · refine mi_met_of (y := 175) (q := (mi_h175, mi_c175)) rfl (by decide) (Nat.le_of_ble_eq_true rfl) ?_
    refine mi_sem_steps mi_in175 (mi_calok_none _ _) 1 _ (1, [(0, .ref 116), (1, .int a1), (2, .int a2), (3, .int 3)], [.int a1], (0, 0), mi_G) (by rfl) ?_
    have hM427 : mi_Met mi_N0 2 mi_h133 [.int a1] mi_G (some (.int 0)) mi_G := by
      refine mi_met_of (y := 133) (q := (mi_h133, mi_c133)) rfl (by decide) (Nat.le_of_ble_eq_true rfl) ?_
      refine mi_sem_steps mi_in133 (mi_calok_none _ _) 3 _ (3, [(0, .int a1)], [.int 5, .int 0, .int a1], (0, 0), mi_G) (by rfl) ?_
      have hM426 : mi_Met mi_N0 1 mi_h131 [.int a1, .int 0, .int 5] mi_G (some (.int 0)) mi_G := by
        refine mi_met_of (y := 131) (q := (mi_h131, mi_c131)) rfl (by decide) (Nat.le_of_ble_eq_true rfl) ?_
        refine mi_sem_steps mi_in131 (mi_calok_none _ _) 2 _ (2, [(0, .int a1), (1, .int 0), (2, .int 5)], [.int 0, .int a1], (0, 0), mi_G) (by rfl) ?_
        refine mi_sem_b mi_in131 (decide (a1 < 0)) false (mi_ltF (0) (by decide) (by omega)) 14 5 ([(0, .int a1), (1, .int 0), (2, .int 5)], [], (0, 0), mi_G) (by rfl) ?_
        refine mi_sem_steps mi_in131 (mi_calok_none _ _) 2 _ (7, [(0, .int a1), (1, .int 0), (2, .int 5)], [.int 5, .int a1], (0, 0), mi_G) (by rfl) ?_
        refine mi_sem_b mi_in131 (decide (5 < a1)) true (mi_ltT2 (5) (by decide) (by omega)) 14 10 ([(0, .int a1), (1, .int 0), (2, .int 5)], [], (0, 0), mi_G) (by rfl) ?_
        refine mi_sem_steps mi_in131 (mi_calok_none _ _) 1 _ (15, [(0, .int a1), (1, .int 0), (2, .int 5)], [.int 0], (0, 0), mi_G) (by rfl) ?_
        exact mi_sem_ret (cal := fun _ _ _ => none) mi_in131 (by rfl)
      refine mi_sem_call mi_in133 (i := (.invokestatic 119, 3, 131, 0, 9, 0, 379)) (by rfl) (by rfl) hM426 (by decide) ⟨Nat.le_of_ble_eq_true rfl, Nat.le_of_ble_eq_true rfl⟩ ?_
      exact mi_sem_ret (cal := fun _ _ _ => none) mi_in133 (by rfl)
    refine mi_sem_call mi_in175 (i := (.invokestatic 127, 3, 133, 0, 9, 0, 382)) (by rfl) (by rfl) hM427 (by decide) ⟨Nat.le_of_ble_eq_true rfl, Nat.le_of_ble_eq_true rfl⟩ ?_
    refine mi_sem_steps mi_in175 (mi_calok_none _ _) 2 _ (37, [(0, .ref 116), (1, .int a1), (2, .int a2), (3, .int 3)], [.int (-1)], (0, 0), mi_G) (by rfl) ?_
    exact mi_sem_ret (cal := fun _ _ _ => none) mi_in175 (by rfl)

set_option maxRecDepth 100000 in
set_option maxHeartbeats 4000000 in
theorem mp_market_20 (a1 : Int32) (a2 : Int32) (r0 : 0 ≤ (a2).toInt ∧ (a2).toInt ≤ 2147483647) (r1 : (-2147483648) ≤ (a1).toInt ∧ (a1).toInt ≤ (-1)) : mi_P 88 175 [.int a1, .int a2, .int 3] := by
  refine ⟨.int (-1), mi_G, mi_G, (mi_h88, mi_c88), (mi_h175, mi_c175), 3, 3, rfl, rfl, rfl, by decide, by decide, ?_, ?_⟩
  · refine mi_met_of (y := 88) (q := (mi_h88, mi_c88)) rfl (by decide) (Nat.le_of_ble_eq_true rfl) ?_
    refine mi_sem_steps mi_in88 (mi_calok_none _ _) 3 _ (3, [(0, .ref 0), (1, .int a1), (2, .int a2), (3, .int 3)], [.int 3, .int 0, .int 3], (0, 0), mi_G) (by rfl) ?_
    have hM431 : mi_Met mi_N0 1 mi_h120 [.int 3, .int 0, .int 3] mi_G (some (.int 1)) mi_G := mi_fun_ok mi_N0 1 120 (mi_h120, mi_c120) _ _ _ _ rfl (mi_eR_ok (by decide +kernel))
    refine mi_sem_call mi_in88 (i := (.invokestatic 74, 3, 120, 0, 9, 0, 152)) (by rfl) (by rfl) hM431 (by decide) ⟨Nat.le_of_ble_eq_true rfl, Nat.le_of_ble_eq_true rfl⟩ ?_
    refine mi_sem_steps mi_in88 (mi_calok_none _ _) 6 _ (16, [(0, .ref 0), (1, .int a1), (2, .int a2), (3, .int 3)], [.int a2, .ref 0], (0, 0), mi_G) (by rfl) ?_
    have hM433 : mi_Met mi_N0 2 mi_h123 [.ref 0, .int a2] mi_G (some (.int 0)) mi_G := by
      refine mi_met_of (y := 123) (q := (mi_h123, mi_c123)) rfl (by decide) (Nat.le_of_ble_eq_true rfl) ?_
      refine mi_sem_steps mi_in123 (mi_calok_none _ _) 3 _ (5, [(0, .ref 0), (1, .int a2)], [.int a2, .ref 1], (0, 0), mi_G) (by rfl) ?_
      have hM432 : mi_Met mi_N0 1 mi_h24 [.ref 1, .int a2] mi_G (some (.int 0)) mi_G := by
        refine mi_met_of (y := 24) (q := (mi_h24, mi_c24)) rfl (by decide) (Nat.le_of_ble_eq_true rfl) ?_
        refine mi_sem_steps mi_in24 (mi_calok_none _ _) 1 _ (1, [(0, .ref 1), (1, .int a2)], [.int a2], (0, 0), mi_G) (by rfl) ?_
        refine mi_sem_b mi_in24 (decide (a2 < 0)) false (mi_ltF (0) (by decide) (by omega)) 22 4 ([(0, .ref 1), (1, .int a2)], [], (0, 0), mi_G) (by rfl) ?_
        refine mi_sem_steps mi_in24 (mi_calok_none _ _) 3 _ (9, [(0, .ref 1), (1, .int a2)], [.int 0, .int a2], (0, 0), mi_G) (by rfl) ?_
        refine mi_sem_b mi_in24 (decide (0 ≤ a2)) true (mi_leT2 (0) (by decide) (by omega)) 22 12 ([(0, .ref 1), (1, .int a2)], [], (0, 0), mi_G) (by rfl) ?_
        refine mi_sem_steps mi_in24 (mi_calok_none _ _) 1 _ (23, [(0, .ref 1), (1, .int a2)], [.int 0], (0, 0), mi_G) (by rfl) ?_
        exact mi_sem_ret (cal := fun _ _ _ => none) mi_in24 (by rfl)
      refine mi_sem_call mi_in123 (i := (.invokevirtual 342, 3, 24, 0, 9, 0, 163)) (by rfl) (by rfl) hM432 (by decide) ⟨Nat.le_of_ble_eq_true rfl, Nat.le_of_ble_eq_true rfl⟩ ?_
      exact mi_sem_ret (cal := fun _ _ _ => none) mi_in123 (by rfl)
    refine mi_sem_call mi_in88 (i := (.invokevirtual 141, 3, 123, 0, 9, 0, 162)) (by rfl) (by rfl) hM433 (by decide) ⟨Nat.le_of_ble_eq_true rfl, Nat.le_of_ble_eq_true rfl⟩ ?_
    refine mi_sem_steps mi_in88 (mi_calok_none _ _) 3 _ (30, [(0, .ref 0), (1, .int a1), (2, .int a2), (3, .int 3)], [.int (-1)], (0, 0), mi_G) (by rfl) ?_
    exact mi_sem_ret (cal := fun _ _ _ => none) mi_in88 (by rfl)
  · refine mi_met_of (y := 175) (q := (mi_h175, mi_c175)) rfl (by decide) (Nat.le_of_ble_eq_true rfl) ?_
    refine mi_sem_steps mi_in175 (mi_calok_none _ _) 1 _ (1, [(0, .ref 116), (1, .int a1), (2, .int a2), (3, .int 3)], [.int a1], (0, 0), mi_G) (by rfl) ?_
    have hM435 : mi_Met mi_N0 2 mi_h133 [.int a1] mi_G (some (.int 0)) mi_G := by
      refine mi_met_of (y := 133) (q := (mi_h133, mi_c133)) rfl (by decide) (Nat.le_of_ble_eq_true rfl) ?_
      refine mi_sem_steps mi_in133 (mi_calok_none _ _) 3 _ (3, [(0, .int a1)], [.int 5, .int 0, .int a1], (0, 0), mi_G) (by rfl) ?_
      have hM434 : mi_Met mi_N0 1 mi_h131 [.int a1, .int 0, .int 5] mi_G (some (.int 0)) mi_G := by
        refine mi_met_of (y := 131) (q := (mi_h131, mi_c131)) rfl (by decide) (Nat.le_of_ble_eq_true rfl) ?_
        refine mi_sem_steps mi_in131 (mi_calok_none _ _) 2 _ (2, [(0, .int a1), (1, .int 0), (2, .int 5)], [.int 0, .int a1], (0, 0), mi_G) (by rfl) ?_
        refine mi_sem_b mi_in131 (decide (a1 < 0)) true (mi_ltT (0) (by decide) (by omega)) 14 5 ([(0, .int a1), (1, .int 0), (2, .int 5)], [], (0, 0), mi_G) (by rfl) ?_
        refine mi_sem_steps mi_in131 (mi_calok_none _ _) 1 _ (15, [(0, .int a1), (1, .int 0), (2, .int 5)], [.int 0], (0, 0), mi_G) (by rfl) ?_
        exact mi_sem_ret (cal := fun _ _ _ => none) mi_in131 (by rfl)
      refine mi_sem_call mi_in133 (i := (.invokestatic 119, 3, 131, 0, 9, 0, 379)) (by rfl) (by rfl) hM434 (by decide) ⟨Nat.le_of_ble_eq_true rfl, Nat.le_of_ble_eq_true rfl⟩ ?_
      exact mi_sem_ret (cal := fun _ _ _ => none) mi_in133 (by rfl)
    refine mi_sem_call mi_in175 (i := (.invokestatic 127, 3, 133, 0, 9, 0, 382)) (by rfl) (by rfl) hM435 (by decide) ⟨Nat.le_of_ble_eq_true rfl, Nat.le_of_ble_eq_true rfl⟩ ?_
    refine mi_sem_steps mi_in175 (mi_calok_none _ _) 2 _ (37, [(0, .ref 116), (1, .int a1), (2, .int a2), (3, .int 3)], [.int (-1)], (0, 0), mi_G) (by rfl) ?_
    exact mi_sem_ret (cal := fun _ _ _ => none) mi_in175 (by rfl)

set_option maxRecDepth 100000 in
set_option maxHeartbeats 4000000 in
theorem mp_market_21 (a1 : Int32) (a2 : Int32) (r0 : 0 ≤ (a2).toInt ∧ (a2).toInt ≤ 2147483647) (r1 : 0 ≤ (a1).toInt ∧ (a1).toInt ≤ 5) : mi_P 88 175 [.int a1, .int a2, .int 3] := by
  refine ⟨.int (-1), mi_G, mi_G, (mi_h88, mi_c88), (mi_h175, mi_c175), 3, 3, rfl, rfl, rfl, by decide, by decide, ?_, ?_⟩
  · refine mi_met_of (y := 88) (q := (mi_h88, mi_c88)) rfl (by decide) (Nat.le_of_ble_eq_true rfl) ?_
    refine mi_sem_steps mi_in88 (mi_calok_none _ _) 3 _ (3, [(0, .ref 0), (1, .int a1), (2, .int a2), (3, .int 3)], [.int 3, .int 0, .int 3], (0, 0), mi_G) (by rfl) ?_
    have hM439 : mi_Met mi_N0 1 mi_h120 [.int 3, .int 0, .int 3] mi_G (some (.int 1)) mi_G := mi_fun_ok mi_N0 1 120 (mi_h120, mi_c120) _ _ _ _ rfl (mi_eR_ok (by decide +kernel))
    refine mi_sem_call mi_in88 (i := (.invokestatic 74, 3, 120, 0, 9, 0, 152)) (by rfl) (by rfl) hM439 (by decide) ⟨Nat.le_of_ble_eq_true rfl, Nat.le_of_ble_eq_true rfl⟩ ?_
    refine mi_sem_steps mi_in88 (mi_calok_none _ _) 6 _ (16, [(0, .ref 0), (1, .int a1), (2, .int a2), (3, .int 3)], [.int a2, .ref 0], (0, 0), mi_G) (by rfl) ?_
    have hM441 : mi_Met mi_N0 2 mi_h123 [.ref 0, .int a2] mi_G (some (.int 0)) mi_G := by
      refine mi_met_of (y := 123) (q := (mi_h123, mi_c123)) rfl (by decide) (Nat.le_of_ble_eq_true rfl) ?_
      refine mi_sem_steps mi_in123 (mi_calok_none _ _) 3 _ (5, [(0, .ref 0), (1, .int a2)], [.int a2, .ref 1], (0, 0), mi_G) (by rfl) ?_
      have hM440 : mi_Met mi_N0 1 mi_h24 [.ref 1, .int a2] mi_G (some (.int 0)) mi_G := by
        refine mi_met_of (y := 24) (q := (mi_h24, mi_c24)) rfl (by decide) (Nat.le_of_ble_eq_true rfl) ?_
        refine mi_sem_steps mi_in24 (mi_calok_none _ _) 1 _ (1, [(0, .ref 1), (1, .int a2)], [.int a2], (0, 0), mi_G) (by rfl) ?_
        refine mi_sem_b mi_in24 (decide (a2 < 0)) false (mi_ltF (0) (by decide) (by omega)) 22 4 ([(0, .ref 1), (1, .int a2)], [], (0, 0), mi_G) (by rfl) ?_
        refine mi_sem_steps mi_in24 (mi_calok_none _ _) 3 _ (9, [(0, .ref 1), (1, .int a2)], [.int 0, .int a2], (0, 0), mi_G) (by rfl) ?_
        refine mi_sem_b mi_in24 (decide (0 ≤ a2)) true (mi_leT2 (0) (by decide) (by omega)) 22 12 ([(0, .ref 1), (1, .int a2)], [], (0, 0), mi_G) (by rfl) ?_
        refine mi_sem_steps mi_in24 (mi_calok_none _ _) 1 _ (23, [(0, .ref 1), (1, .int a2)], [.int 0], (0, 0), mi_G) (by rfl) ?_
        exact mi_sem_ret (cal := fun _ _ _ => none) mi_in24 (by rfl)
      refine mi_sem_call mi_in123 (i := (.invokevirtual 342, 3, 24, 0, 9, 0, 163)) (by rfl) (by rfl) hM440 (by decide) ⟨Nat.le_of_ble_eq_true rfl, Nat.le_of_ble_eq_true rfl⟩ ?_
      exact mi_sem_ret (cal := fun _ _ _ => none) mi_in123 (by rfl)
    refine mi_sem_call mi_in88 (i := (.invokevirtual 141, 3, 123, 0, 9, 0, 162)) (by rfl) (by rfl) hM441 (by decide) ⟨Nat.le_of_ble_eq_true rfl, Nat.le_of_ble_eq_true rfl⟩ ?_
    refine mi_sem_steps mi_in88 (mi_calok_none _ _) 3 _ (30, [(0, .ref 0), (1, .int a1), (2, .int a2), (3, .int 3)], [.int (-1)], (0, 0), mi_G) (by rfl) ?_
    exact mi_sem_ret (cal := fun _ _ _ => none) mi_in88 (by rfl)
  · refine mi_met_of (y := 175) (q := (mi_h175, mi_c175)) rfl (by decide) (Nat.le_of_ble_eq_true rfl) ?_
    refine mi_sem_steps mi_in175 (mi_calok_none _ _) 1 _ (1, [(0, .ref 116), (1, .int a1), (2, .int a2), (3, .int 3)], [.int a1], (0, 0), mi_G) (by rfl) ?_
    have hM443 : mi_Met mi_N0 2 mi_h133 [.int a1] mi_G (some (.int 1)) mi_G := by
      refine mi_met_of (y := 133) (q := (mi_h133, mi_c133)) rfl (by decide) (Nat.le_of_ble_eq_true rfl) ?_
      refine mi_sem_steps mi_in133 (mi_calok_none _ _) 3 _ (3, [(0, .int a1)], [.int 5, .int 0, .int a1], (0, 0), mi_G) (by rfl) ?_
      have hM442 : mi_Met mi_N0 1 mi_h131 [.int a1, .int 0, .int 5] mi_G (some (.int 1)) mi_G := by
        refine mi_met_of (y := 131) (q := (mi_h131, mi_c131)) rfl (by decide) (Nat.le_of_ble_eq_true rfl) ?_
        refine mi_sem_steps mi_in131 (mi_calok_none _ _) 2 _ (2, [(0, .int a1), (1, .int 0), (2, .int 5)], [.int 0, .int a1], (0, 0), mi_G) (by rfl) ?_
        refine mi_sem_b mi_in131 (decide (a1 < 0)) false (mi_ltF (0) (by decide) (by omega)) 14 5 ([(0, .int a1), (1, .int 0), (2, .int 5)], [], (0, 0), mi_G) (by rfl) ?_
        refine mi_sem_steps mi_in131 (mi_calok_none _ _) 2 _ (7, [(0, .int a1), (1, .int 0), (2, .int 5)], [.int 5, .int a1], (0, 0), mi_G) (by rfl) ?_
        refine mi_sem_b mi_in131 (decide (5 < a1)) false (mi_ltF2 (5) (by decide) (by omega)) 14 10 ([(0, .int a1), (1, .int 0), (2, .int 5)], [], (0, 0), mi_G) (by rfl) ?_
        refine mi_sem_steps mi_in131 (mi_calok_none _ _) 2 _ (15, [(0, .int a1), (1, .int 0), (2, .int 5)], [.int 1], (0, 0), mi_G) (by rfl) ?_
        exact mi_sem_ret (cal := fun _ _ _ => none) mi_in131 (by rfl)
      refine mi_sem_call mi_in133 (i := (.invokestatic 119, 3, 131, 0, 9, 0, 379)) (by rfl) (by rfl) hM442 (by decide) ⟨Nat.le_of_ble_eq_true rfl, Nat.le_of_ble_eq_true rfl⟩ ?_
      exact mi_sem_ret (cal := fun _ _ _ => none) mi_in133 (by rfl)
    refine mi_sem_call mi_in175 (i := (.invokestatic 127, 3, 133, 0, 9, 0, 382)) (by rfl) (by rfl) hM443 (by decide) ⟨Nat.le_of_ble_eq_true rfl, Nat.le_of_ble_eq_true rfl⟩ ?_
    refine mi_sem_steps mi_in175 (mi_calok_none _ _) 4 _ (10, [(0, .ref 116), (1, .int a1), (2, .int a2), (3, .int 3)], [.int 3, .int 0, .int 3], (0, 0), mi_G) (by rfl) ?_
    have hM444 : mi_Met mi_N0 1 mi_h131 [.int 3, .int 0, .int 3] mi_G (some (.int 1)) mi_G := mi_fun_ok mi_N0 1 131 (mi_h131, mi_c131) _ _ _ _ rfl (mi_eR_ok (by decide +kernel))
    refine mi_sem_call mi_in175 (i := (.invokestatic 119, 3, 131, 0, 9, 0, 379)) (by rfl) (by rfl) hM444 (by decide) ⟨Nat.le_of_ble_eq_true rfl, Nat.le_of_ble_eq_true rfl⟩ ?_
    refine mi_sem_steps mi_in175 (mi_calok_none _ _) 6 _ (23, [(0, .ref 116), (1, .int a1), (2, .int a2), (3, .int 3)], [.int a2, .ref 116], (0, 0), mi_G) (by rfl) ?_
    have hM446 : mi_Met mi_N0 2 mi_h132 [.ref 116, .int a2] mi_G (some (.int 0)) mi_G := by
      refine mi_met_of (y := 132) (q := (mi_h132, mi_c132)) rfl (by decide) (Nat.le_of_ble_eq_true rfl) ?_
      refine mi_sem_steps mi_in132 (mi_calok_none _ _) 6 _ (8, [(0, .ref 116), (1, .int a2)], [.int (-1), .int 0, .int a2], (0, 0), mi_G) (by rfl) ?_
      have hM445 : mi_Met mi_N0 1 mi_h131 [.int a2, .int 0, .int (-1)] mi_G (some (.int 0)) mi_G := by
        refine mi_met_of (y := 131) (q := (mi_h131, mi_c131)) rfl (by decide) (Nat.le_of_ble_eq_true rfl) ?_
        refine mi_sem_steps mi_in131 (mi_calok_none _ _) 2 _ (2, [(0, .int a2), (1, .int 0), (2, .int (-1))], [.int 0, .int a2], (0, 0), mi_G) (by rfl) ?_
        refine mi_sem_b mi_in131 (decide (a2 < 0)) false (mi_ltF (0) (by decide) (by omega)) 14 5 ([(0, .int a2), (1, .int 0), (2, .int (-1))], [], (0, 0), mi_G) (by rfl) ?_
        refine mi_sem_steps mi_in131 (mi_calok_none _ _) 2 _ (7, [(0, .int a2), (1, .int 0), (2, .int (-1))], [.int (-1), .int a2], (0, 0), mi_G) (by rfl) ?_
        refine mi_sem_b mi_in131 (decide ((-1) < a2)) true (mi_ltT2 (-1) (by decide) (by omega)) 14 10 ([(0, .int a2), (1, .int 0), (2, .int (-1))], [], (0, 0), mi_G) (by rfl) ?_
        refine mi_sem_steps mi_in131 (mi_calok_none _ _) 1 _ (15, [(0, .int a2), (1, .int 0), (2, .int (-1))], [.int 0], (0, 0), mi_G) (by rfl) ?_
        exact mi_sem_ret (cal := fun _ _ _ => none) mi_in131 (by rfl)
      refine mi_sem_call mi_in132 (i := (.invokestatic 119, 3, 131, 0, 9, 0, 379)) (by rfl) (by rfl) hM445 (by decide) ⟨Nat.le_of_ble_eq_true rfl, Nat.le_of_ble_eq_true rfl⟩ ?_
      exact mi_sem_ret (cal := fun _ _ _ => none) mi_in132 (by rfl)
    refine mi_sem_call mi_in175 (i := (.invokevirtual 137, 3, 132, 0, 9, 0, 387)) (by rfl) (by rfl) hM446 (by decide) ⟨Nat.le_of_ble_eq_true rfl, Nat.le_of_ble_eq_true rfl⟩ ?_
    refine mi_sem_steps mi_in175 (mi_calok_none _ _) 2 _ (37, [(0, .ref 116), (1, .int a1), (2, .int a2), (3, .int 3)], [.int (-1)], (0, 0), mi_G) (by rfl) ?_
    exact mi_sem_ret (cal := fun _ _ _ => none) mi_in175 (by rfl)

set_option maxRecDepth 100000 in
set_option maxHeartbeats 4000000 in
theorem mp_market_22 (a1 : Int32) (a2 : Int32) (r0 : 0 ≤ (a2).toInt ∧ (a2).toInt ≤ 2147483647) (r1 : 6 ≤ (a1).toInt ∧ (a1).toInt ≤ 2147483647) : mi_P 88 175 [.int a1, .int a2, .int 3] := by
  refine ⟨.int (-1), mi_G, mi_G, (mi_h88, mi_c88), (mi_h175, mi_c175), 3, 3, rfl, rfl, rfl, by decide, by decide, ?_, ?_⟩
  · refine mi_met_of (y := 88) (q := (mi_h88, mi_c88)) rfl (by decide) (Nat.le_of_ble_eq_true rfl) ?_
    refine mi_sem_steps mi_in88 (mi_calok_none _ _) 3 _ (3, [(0, .ref 0), (1, .int a1), (2, .int a2), (3, .int 3)], [.int 3, .int 0, .int 3], (0, 0), mi_G) (by rfl) ?_
    have hM447 : mi_Met mi_N0 1 mi_h120 [.int 3, .int 0, .int 3] mi_G (some (.int 1)) mi_G := mi_fun_ok mi_N0 1 120 (mi_h120, mi_c120) _ _ _ _ rfl (mi_eR_ok (by decide +kernel))
    refine mi_sem_call mi_in88 (i := (.invokestatic 74, 3, 120, 0, 9, 0, 152)) (by rfl) (by rfl) hM447 (by decide) ⟨Nat.le_of_ble_eq_true rfl, Nat.le_of_ble_eq_true rfl⟩ ?_
    refine mi_sem_steps mi_in88 (mi_calok_none _ _) 6 _ (16, [(0, .ref 0), (1, .int a1), (2, .int a2), (3, .int 3)], [.int a2, .ref 0], (0, 0), mi_G) (by rfl) ?_
    have hM449 : mi_Met mi_N0 2 mi_h123 [.ref 0, .int a2] mi_G (some (.int 0)) mi_G := by
      refine mi_met_of (y := 123) (q := (mi_h123, mi_c123)) rfl (by decide) (Nat.le_of_ble_eq_true rfl) ?_
      refine mi_sem_steps mi_in123 (mi_calok_none _ _) 3 _ (5, [(0, .ref 0), (1, .int a2)], [.int a2, .ref 1], (0, 0), mi_G) (by rfl) ?_
      have hM448 : mi_Met mi_N0 1 mi_h24 [.ref 1, .int a2] mi_G (some (.int 0)) mi_G := by
        refine mi_met_of (y := 24) (q := (mi_h24, mi_c24)) rfl (by decide) (Nat.le_of_ble_eq_true rfl) ?_
        refine mi_sem_steps mi_in24 (mi_calok_none _ _) 1 _ (1, [(0, .ref 1), (1, .int a2)], [.int a2], (0, 0), mi_G) (by rfl) ?_
        refine mi_sem_b mi_in24 (decide (a2 < 0)) false (mi_ltF (0) (by decide) (by omega)) 22 4 ([(0, .ref 1), (1, .int a2)], [], (0, 0), mi_G) (by rfl) ?_
        refine mi_sem_steps mi_in24 (mi_calok_none _ _) 3 _ (9, [(0, .ref 1), (1, .int a2)], [.int 0, .int a2], (0, 0), mi_G) (by rfl) ?_
        refine mi_sem_b mi_in24 (decide (0 ≤ a2)) true (mi_leT2 (0) (by decide) (by omega)) 22 12 ([(0, .ref 1), (1, .int a2)], [], (0, 0), mi_G) (by rfl) ?_
        refine mi_sem_steps mi_in24 (mi_calok_none _ _) 1 _ (23, [(0, .ref 1), (1, .int a2)], [.int 0], (0, 0), mi_G) (by rfl) ?_
        exact mi_sem_ret (cal := fun _ _ _ => none) mi_in24 (by rfl)
      refine mi_sem_call mi_in123 (i := (.invokevirtual 342, 3, 24, 0, 9, 0, 163)) (by rfl) (by rfl) hM448 (by decide) ⟨Nat.le_of_ble_eq_true rfl, Nat.le_of_ble_eq_true rfl⟩ ?_
      exact mi_sem_ret (cal := fun _ _ _ => none) mi_in123 (by rfl)
    refine mi_sem_call mi_in88 (i := (.invokevirtual 141, 3, 123, 0, 9, 0, 162)) (by rfl) (by rfl) hM449 (by decide) ⟨Nat.le_of_ble_eq_true rfl, Nat.le_of_ble_eq_true rfl⟩ ?_
    refine mi_sem_steps mi_in88 (mi_calok_none _ _) 3 _ (30, [(0, .ref 0), (1, .int a1), (2, .int a2), (3, .int 3)], [.int (-1)], (0, 0), mi_G) (by rfl) ?_
    exact mi_sem_ret (cal := fun _ _ _ => none) mi_in88 (by rfl)
  · refine mi_met_of (y := 175) (q := (mi_h175, mi_c175)) rfl (by decide) (Nat.le_of_ble_eq_true rfl) ?_
    refine mi_sem_steps mi_in175 (mi_calok_none _ _) 1 _ (1, [(0, .ref 116), (1, .int a1), (2, .int a2), (3, .int 3)], [.int a1], (0, 0), mi_G) (by rfl) ?_
    have hM451 : mi_Met mi_N0 2 mi_h133 [.int a1] mi_G (some (.int 0)) mi_G := by
      refine mi_met_of (y := 133) (q := (mi_h133, mi_c133)) rfl (by decide) (Nat.le_of_ble_eq_true rfl) ?_
      refine mi_sem_steps mi_in133 (mi_calok_none _ _) 3 _ (3, [(0, .int a1)], [.int 5, .int 0, .int a1], (0, 0), mi_G) (by rfl) ?_
      have hM450 : mi_Met mi_N0 1 mi_h131 [.int a1, .int 0, .int 5] mi_G (some (.int 0)) mi_G := by
        refine mi_met_of (y := 131) (q := (mi_h131, mi_c131)) rfl (by decide) (Nat.le_of_ble_eq_true rfl) ?_
        refine mi_sem_steps mi_in131 (mi_calok_none _ _) 2 _ (2, [(0, .int a1), (1, .int 0), (2, .int 5)], [.int 0, .int a1], (0, 0), mi_G) (by rfl) ?_
        refine mi_sem_b mi_in131 (decide (a1 < 0)) false (mi_ltF (0) (by decide) (by omega)) 14 5 ([(0, .int a1), (1, .int 0), (2, .int 5)], [], (0, 0), mi_G) (by rfl) ?_
        refine mi_sem_steps mi_in131 (mi_calok_none _ _) 2 _ (7, [(0, .int a1), (1, .int 0), (2, .int 5)], [.int 5, .int a1], (0, 0), mi_G) (by rfl) ?_
        refine mi_sem_b mi_in131 (decide (5 < a1)) true (mi_ltT2 (5) (by decide) (by omega)) 14 10 ([(0, .int a1), (1, .int 0), (2, .int 5)], [], (0, 0), mi_G) (by rfl) ?_
        refine mi_sem_steps mi_in131 (mi_calok_none _ _) 1 _ (15, [(0, .int a1), (1, .int 0), (2, .int 5)], [.int 0], (0, 0), mi_G) (by rfl) ?_
        exact mi_sem_ret (cal := fun _ _ _ => none) mi_in131 (by rfl)
      refine mi_sem_call mi_in133 (i := (.invokestatic 119, 3, 131, 0, 9, 0, 379)) (by rfl) (by rfl) hM450 (by decide) ⟨Nat.le_of_ble_eq_true rfl, Nat.le_of_ble_eq_true rfl⟩ ?_
      exact mi_sem_ret (cal := fun _ _ _ => none) mi_in133 (by rfl)
    refine mi_sem_call mi_in175 (i := (.invokestatic 127, 3, 133, 0, 9, 0, 382)) (by rfl) (by rfl) hM451 (by decide) ⟨Nat.le_of_ble_eq_true rfl, Nat.le_of_ble_eq_true rfl⟩ ?_
    refine mi_sem_steps mi_in175 (mi_calok_none _ _) 2 _ (37, [(0, .ref 116), (1, .int a1), (2, .int a2), (3, .int 3)], [.int (-1)], (0, 0), mi_G) (by rfl) ?_
    exact mi_sem_ret (cal := fun _ _ _ => none) mi_in175 (by rfl)

set_option maxRecDepth 100000 in
set_option maxHeartbeats 4000000 in
theorem mp_market_23 (a1 : Int32) (a2 : Int32) (a3 : Int32) (r0 : 4 ≤ (a3).toInt ∧ (a3).toInt ≤ 2147483647) (r1 : (-2147483648) ≤ (a1).toInt ∧ (a1).toInt ≤ (-1)) : mi_P 88 175 [.int a1, .int a2, .int a3] := by
  refine ⟨.int (-1), mi_G, mi_G, (mi_h88, mi_c88), (mi_h175, mi_c175), 2, 3, rfl, rfl, rfl, by decide, by decide, ?_, ?_⟩
  · refine mi_met_of (y := 88) (q := (mi_h88, mi_c88)) rfl (by decide) (Nat.le_of_ble_eq_true rfl) ?_
    refine mi_sem_steps mi_in88 (mi_calok_none _ _) 3 _ (3, [(0, .ref 0), (1, .int a1), (2, .int a2), (3, .int a3)], [.int 3, .int 0, .int a3], (0, 0), mi_G) (by rfl) ?_
    have hM453 : mi_Met mi_N0 1 mi_h120 [.int a3, .int 0, .int 3] mi_G (some (.int 0)) mi_G := by
      refine mi_met_of (y := 120) (q := (mi_h120, mi_c120)) rfl (by decide) (Nat.le_of_ble_eq_true rfl) ?_
      refine mi_sem_steps mi_in120 (mi_calok_none _ _) 2 _ (2, [(0, .int a3), (1, .int 0), (2, .int 3)], [.int 0, .int a3], (0, 0), mi_G) (by rfl) ?_
      refine mi_sem_b mi_in120 (decide (a3 < 0)) false (mi_ltF (0) (by decide) (by omega)) 14 5 ([(0, .int a3), (1, .int 0), (2, .int 3)], [], (0, 0), mi_G) (by rfl) ?_
      refine mi_sem_steps mi_in120 (mi_calok_none _ _) 2 _ (7, [(0, .int a3), (1, .int 0), (2, .int 3)], [.int 3, .int a3], (0, 0), mi_G) (by rfl) ?_
      refine mi_sem_b mi_in120 (decide (3 < a3)) true (mi_ltT2 (3) (by decide) (by omega)) 14 10 ([(0, .int a3), (1, .int 0), (2, .int 3)], [], (0, 0), mi_G) (by rfl) ?_
      refine mi_sem_steps mi_in120 (mi_calok_none _ _) 1 _ (15, [(0, .int a3), (1, .int 0), (2, .int 3)], [.int 0], (0, 0), mi_G) (by rfl) ?_
      exact mi_sem_ret (cal := fun _ _ _ => none) mi_in120 (by rfl)
    refine mi_sem_call mi_in88 (i := (.invokestatic 74, 3, 120, 0, 9, 0, 152)) (by rfl) (by rfl) hM453 (by decide) ⟨Nat.le_of_ble_eq_true rfl, Nat.le_of_ble_eq_true rfl⟩ ?_
    refine mi_sem_steps mi_in88 (mi_calok_none _ _) 2 _ (30, [(0, .ref 0), (1, .int a1), (2, .int a2), (3, .int a3)], [.int (-1)], (0, 0), mi_G) (by rfl) ?_
    exact mi_sem_ret (cal := fun _ _ _ => none) mi_in88 (by rfl)
  · refine mi_met_of (y := 175) (q := (mi_h175, mi_c175)) rfl (by decide) (Nat.le_of_ble_eq_true rfl) ?_
    refine mi_sem_steps mi_in175 (mi_calok_none _ _) 1 _ (1, [(0, .ref 116), (1, .int a1), (2, .int a2), (3, .int a3)], [.int a1], (0, 0), mi_G) (by rfl) ?_
    have hM455 : mi_Met mi_N0 2 mi_h133 [.int a1] mi_G (some (.int 0)) mi_G := by
      refine mi_met_of (y := 133) (q := (mi_h133, mi_c133)) rfl (by decide) (Nat.le_of_ble_eq_true rfl) ?_
      refine mi_sem_steps mi_in133 (mi_calok_none _ _) 3 _ (3, [(0, .int a1)], [.int 5, .int 0, .int a1], (0, 0), mi_G) (by rfl) ?_
      have hM454 : mi_Met mi_N0 1 mi_h131 [.int a1, .int 0, .int 5] mi_G (some (.int 0)) mi_G := by
        refine mi_met_of (y := 131) (q := (mi_h131, mi_c131)) rfl (by decide) (Nat.le_of_ble_eq_true rfl) ?_
        refine mi_sem_steps mi_in131 (mi_calok_none _ _) 2 _ (2, [(0, .int a1), (1, .int 0), (2, .int 5)], [.int 0, .int a1], (0, 0), mi_G) (by rfl) ?_
        refine mi_sem_b mi_in131 (decide (a1 < 0)) true (mi_ltT (0) (by decide) (by omega)) 14 5 ([(0, .int a1), (1, .int 0), (2, .int 5)], [], (0, 0), mi_G) (by rfl) ?_
        refine mi_sem_steps mi_in131 (mi_calok_none _ _) 1 _ (15, [(0, .int a1), (1, .int 0), (2, .int 5)], [.int 0], (0, 0), mi_G) (by rfl) ?_
        exact mi_sem_ret (cal := fun _ _ _ => none) mi_in131 (by rfl)
      refine mi_sem_call mi_in133 (i := (.invokestatic 119, 3, 131, 0, 9, 0, 379)) (by rfl) (by rfl) hM454 (by decide) ⟨Nat.le_of_ble_eq_true rfl, Nat.le_of_ble_eq_true rfl⟩ ?_
      exact mi_sem_ret (cal := fun _ _ _ => none) mi_in133 (by rfl)
    refine mi_sem_call mi_in175 (i := (.invokestatic 127, 3, 133, 0, 9, 0, 382)) (by rfl) (by rfl) hM455 (by decide) ⟨Nat.le_of_ble_eq_true rfl, Nat.le_of_ble_eq_true rfl⟩ ?_
    refine mi_sem_steps mi_in175 (mi_calok_none _ _) 2 _ (37, [(0, .ref 116), (1, .int a1), (2, .int a2), (3, .int a3)], [.int (-1)], (0, 0), mi_G) (by rfl) ?_
    exact mi_sem_ret (cal := fun _ _ _ => none) mi_in175 (by rfl)

set_option maxRecDepth 100000 in
set_option maxHeartbeats 4000000 in
theorem mp_market_24 (a1 : Int32) (a2 : Int32) (a3 : Int32) (r0 : 4 ≤ (a3).toInt ∧ (a3).toInt ≤ 2147483647) (r1 : 0 ≤ (a1).toInt ∧ (a1).toInt ≤ 5) : mi_P 88 175 [.int a1, .int a2, .int a3] := by
  refine ⟨.int (-1), mi_G, mi_G, (mi_h88, mi_c88), (mi_h175, mi_c175), 2, 3, rfl, rfl, rfl, by decide, by decide, ?_, ?_⟩
  · refine mi_met_of (y := 88) (q := (mi_h88, mi_c88)) rfl (by decide) (Nat.le_of_ble_eq_true rfl) ?_
    refine mi_sem_steps mi_in88 (mi_calok_none _ _) 3 _ (3, [(0, .ref 0), (1, .int a1), (2, .int a2), (3, .int a3)], [.int 3, .int 0, .int a3], (0, 0), mi_G) (by rfl) ?_
    have hM457 : mi_Met mi_N0 1 mi_h120 [.int a3, .int 0, .int 3] mi_G (some (.int 0)) mi_G := by
      refine mi_met_of (y := 120) (q := (mi_h120, mi_c120)) rfl (by decide) (Nat.le_of_ble_eq_true rfl) ?_
      refine mi_sem_steps mi_in120 (mi_calok_none _ _) 2 _ (2, [(0, .int a3), (1, .int 0), (2, .int 3)], [.int 0, .int a3], (0, 0), mi_G) (by rfl) ?_
      refine mi_sem_b mi_in120 (decide (a3 < 0)) false (mi_ltF (0) (by decide) (by omega)) 14 5 ([(0, .int a3), (1, .int 0), (2, .int 3)], [], (0, 0), mi_G) (by rfl) ?_
      refine mi_sem_steps mi_in120 (mi_calok_none _ _) 2 _ (7, [(0, .int a3), (1, .int 0), (2, .int 3)], [.int 3, .int a3], (0, 0), mi_G) (by rfl) ?_
      refine mi_sem_b mi_in120 (decide (3 < a3)) true (mi_ltT2 (3) (by decide) (by omega)) 14 10 ([(0, .int a3), (1, .int 0), (2, .int 3)], [], (0, 0), mi_G) (by rfl) ?_
      refine mi_sem_steps mi_in120 (mi_calok_none _ _) 1 _ (15, [(0, .int a3), (1, .int 0), (2, .int 3)], [.int 0], (0, 0), mi_G) (by rfl) ?_
      exact mi_sem_ret (cal := fun _ _ _ => none) mi_in120 (by rfl)
    refine mi_sem_call mi_in88 (i := (.invokestatic 74, 3, 120, 0, 9, 0, 152)) (by rfl) (by rfl) hM457 (by decide) ⟨Nat.le_of_ble_eq_true rfl, Nat.le_of_ble_eq_true rfl⟩ ?_
    refine mi_sem_steps mi_in88 (mi_calok_none _ _) 2 _ (30, [(0, .ref 0), (1, .int a1), (2, .int a2), (3, .int a3)], [.int (-1)], (0, 0), mi_G) (by rfl) ?_
    exact mi_sem_ret (cal := fun _ _ _ => none) mi_in88 (by rfl)
  · refine mi_met_of (y := 175) (q := (mi_h175, mi_c175)) rfl (by decide) (Nat.le_of_ble_eq_true rfl) ?_
    refine mi_sem_steps mi_in175 (mi_calok_none _ _) 1 _ (1, [(0, .ref 116), (1, .int a1), (2, .int a2), (3, .int a3)], [.int a1], (0, 0), mi_G) (by rfl) ?_
    have hM459 : mi_Met mi_N0 2 mi_h133 [.int a1] mi_G (some (.int 1)) mi_G := by
      refine mi_met_of (y := 133) (q := (mi_h133, mi_c133)) rfl (by decide) (Nat.le_of_ble_eq_true rfl) ?_
      refine mi_sem_steps mi_in133 (mi_calok_none _ _) 3 _ (3, [(0, .int a1)], [.int 5, .int 0, .int a1], (0, 0), mi_G) (by rfl) ?_
      have hM458 : mi_Met mi_N0 1 mi_h131 [.int a1, .int 0, .int 5] mi_G (some (.int 1)) mi_G := by
        refine mi_met_of (y := 131) (q := (mi_h131, mi_c131)) rfl (by decide) (Nat.le_of_ble_eq_true rfl) ?_
        refine mi_sem_steps mi_in131 (mi_calok_none _ _) 2 _ (2, [(0, .int a1), (1, .int 0), (2, .int 5)], [.int 0, .int a1], (0, 0), mi_G) (by rfl) ?_
        refine mi_sem_b mi_in131 (decide (a1 < 0)) false (mi_ltF (0) (by decide) (by omega)) 14 5 ([(0, .int a1), (1, .int 0), (2, .int 5)], [], (0, 0), mi_G) (by rfl) ?_
        refine mi_sem_steps mi_in131 (mi_calok_none _ _) 2 _ (7, [(0, .int a1), (1, .int 0), (2, .int 5)], [.int 5, .int a1], (0, 0), mi_G) (by rfl) ?_
        refine mi_sem_b mi_in131 (decide (5 < a1)) false (mi_ltF2 (5) (by decide) (by omega)) 14 10 ([(0, .int a1), (1, .int 0), (2, .int 5)], [], (0, 0), mi_G) (by rfl) ?_
        refine mi_sem_steps mi_in131 (mi_calok_none _ _) 2 _ (15, [(0, .int a1), (1, .int 0), (2, .int 5)], [.int 1], (0, 0), mi_G) (by rfl) ?_
        exact mi_sem_ret (cal := fun _ _ _ => none) mi_in131 (by rfl)
      refine mi_sem_call mi_in133 (i := (.invokestatic 119, 3, 131, 0, 9, 0, 379)) (by rfl) (by rfl) hM458 (by decide) ⟨Nat.le_of_ble_eq_true rfl, Nat.le_of_ble_eq_true rfl⟩ ?_
      exact mi_sem_ret (cal := fun _ _ _ => none) mi_in133 (by rfl)
    refine mi_sem_call mi_in175 (i := (.invokestatic 127, 3, 133, 0, 9, 0, 382)) (by rfl) (by rfl) hM459 (by decide) ⟨Nat.le_of_ble_eq_true rfl, Nat.le_of_ble_eq_true rfl⟩ ?_
    refine mi_sem_steps mi_in175 (mi_calok_none _ _) 4 _ (10, [(0, .ref 116), (1, .int a1), (2, .int a2), (3, .int a3)], [.int 3, .int 0, .int a3], (0, 0), mi_G) (by rfl) ?_
    have hM460 : mi_Met mi_N0 1 mi_h131 [.int a3, .int 0, .int 3] mi_G (some (.int 0)) mi_G := by
      refine mi_met_of (y := 131) (q := (mi_h131, mi_c131)) rfl (by decide) (Nat.le_of_ble_eq_true rfl) ?_
      refine mi_sem_steps mi_in131 (mi_calok_none _ _) 2 _ (2, [(0, .int a3), (1, .int 0), (2, .int 3)], [.int 0, .int a3], (0, 0), mi_G) (by rfl) ?_
      refine mi_sem_b mi_in131 (decide (a3 < 0)) false (mi_ltF (0) (by decide) (by omega)) 14 5 ([(0, .int a3), (1, .int 0), (2, .int 3)], [], (0, 0), mi_G) (by rfl) ?_
      refine mi_sem_steps mi_in131 (mi_calok_none _ _) 2 _ (7, [(0, .int a3), (1, .int 0), (2, .int 3)], [.int 3, .int a3], (0, 0), mi_G) (by rfl) ?_
      refine mi_sem_b mi_in131 (decide (3 < a3)) true (mi_ltT2 (3) (by decide) (by omega)) 14 10 ([(0, .int a3), (1, .int 0), (2, .int 3)], [], (0, 0), mi_G) (by rfl) ?_
      refine mi_sem_steps mi_in131 (mi_calok_none _ _) 1 _ (15, [(0, .int a3), (1, .int 0), (2, .int 3)], [.int 0], (0, 0), mi_G) (by rfl) ?_
      exact mi_sem_ret (cal := fun _ _ _ => none) mi_in131 (by rfl)
    refine mi_sem_call mi_in175 (i := (.invokestatic 119, 3, 131, 0, 9, 0, 379)) (by rfl) (by rfl) hM460 (by decide) ⟨Nat.le_of_ble_eq_true rfl, Nat.le_of_ble_eq_true rfl⟩ ?_
    refine mi_sem_steps mi_in175 (mi_calok_none _ _) 2 _ (37, [(0, .ref 116), (1, .int a1), (2, .int a2), (3, .int a3)], [.int (-1)], (0, 0), mi_G) (by rfl) ?_
    exact mi_sem_ret (cal := fun _ _ _ => none) mi_in175 (by rfl)

set_option maxRecDepth 100000 in
set_option maxHeartbeats 4000000 in
theorem mp_market_25 (a1 : Int32) (a2 : Int32) (a3 : Int32) (r0 : 4 ≤ (a3).toInt ∧ (a3).toInt ≤ 2147483647) (r1 : 6 ≤ (a1).toInt ∧ (a1).toInt ≤ 2147483647) : mi_P 88 175 [.int a1, .int a2, .int a3] := by
  refine ⟨.int (-1), mi_G, mi_G, (mi_h88, mi_c88), (mi_h175, mi_c175), 2, 3, rfl, rfl, rfl, by decide, by decide, ?_, ?_⟩
  · refine mi_met_of (y := 88) (q := (mi_h88, mi_c88)) rfl (by decide) (Nat.le_of_ble_eq_true rfl) ?_
    refine mi_sem_steps mi_in88 (mi_calok_none _ _) 3 _ (3, [(0, .ref 0), (1, .int a1), (2, .int a2), (3, .int a3)], [.int 3, .int 0, .int a3], (0, 0), mi_G) (by rfl) ?_
    have hM461 : mi_Met mi_N0 1 mi_h120 [.int a3, .int 0, .int 3] mi_G (some (.int 0)) mi_G := by
      refine mi_met_of (y := 120) (q := (mi_h120, mi_c120)) rfl (by decide) (Nat.le_of_ble_eq_true rfl) ?_
      refine mi_sem_steps mi_in120 (mi_calok_none _ _) 2 _ (2, [(0, .int a3), (1, .int 0), (2, .int 3)], [.int 0, .int a3], (0, 0), mi_G) (by rfl) ?_
      refine mi_sem_b mi_in120 (decide (a3 < 0)) false (mi_ltF (0) (by decide) (by omega)) 14 5 ([(0, .int a3), (1, .int 0), (2, .int 3)], [], (0, 0), mi_G) (by rfl) ?_
      refine mi_sem_steps mi_in120 (mi_calok_none _ _) 2 _ (7, [(0, .int a3), (1, .int 0), (2, .int 3)], [.int 3, .int a3], (0, 0), mi_G) (by rfl) ?_
      refine mi_sem_b mi_in120 (decide (3 < a3)) true (mi_ltT2 (3) (by decide) (by omega)) 14 10 ([(0, .int a3), (1, .int 0), (2, .int 3)], [], (0, 0), mi_G) (by rfl) ?_
      refine mi_sem_steps mi_in120 (mi_calok_none _ _) 1 _ (15, [(0, .int a3), (1, .int 0), (2, .int 3)], [.int 0], (0, 0), mi_G) (by rfl) ?_
      exact mi_sem_ret (cal := fun _ _ _ => none) mi_in120 (by rfl)
    refine mi_sem_call mi_in88 (i := (.invokestatic 74, 3, 120, 0, 9, 0, 152)) (by rfl) (by rfl) hM461 (by decide) ⟨Nat.le_of_ble_eq_true rfl, Nat.le_of_ble_eq_true rfl⟩ ?_
    refine mi_sem_steps mi_in88 (mi_calok_none _ _) 2 _ (30, [(0, .ref 0), (1, .int a1), (2, .int a2), (3, .int a3)], [.int (-1)], (0, 0), mi_G) (by rfl) ?_
    exact mi_sem_ret (cal := fun _ _ _ => none) mi_in88 (by rfl)
  · refine mi_met_of (y := 175) (q := (mi_h175, mi_c175)) rfl (by decide) (Nat.le_of_ble_eq_true rfl) ?_
    refine mi_sem_steps mi_in175 (mi_calok_none _ _) 1 _ (1, [(0, .ref 116), (1, .int a1), (2, .int a2), (3, .int a3)], [.int a1], (0, 0), mi_G) (by rfl) ?_
    have hM463 : mi_Met mi_N0 2 mi_h133 [.int a1] mi_G (some (.int 0)) mi_G := by
      refine mi_met_of (y := 133) (q := (mi_h133, mi_c133)) rfl (by decide) (Nat.le_of_ble_eq_true rfl) ?_
      refine mi_sem_steps mi_in133 (mi_calok_none _ _) 3 _ (3, [(0, .int a1)], [.int 5, .int 0, .int a1], (0, 0), mi_G) (by rfl) ?_
      have hM462 : mi_Met mi_N0 1 mi_h131 [.int a1, .int 0, .int 5] mi_G (some (.int 0)) mi_G := by
        refine mi_met_of (y := 131) (q := (mi_h131, mi_c131)) rfl (by decide) (Nat.le_of_ble_eq_true rfl) ?_
        refine mi_sem_steps mi_in131 (mi_calok_none _ _) 2 _ (2, [(0, .int a1), (1, .int 0), (2, .int 5)], [.int 0, .int a1], (0, 0), mi_G) (by rfl) ?_
        refine mi_sem_b mi_in131 (decide (a1 < 0)) false (mi_ltF (0) (by decide) (by omega)) 14 5 ([(0, .int a1), (1, .int 0), (2, .int 5)], [], (0, 0), mi_G) (by rfl) ?_
        refine mi_sem_steps mi_in131 (mi_calok_none _ _) 2 _ (7, [(0, .int a1), (1, .int 0), (2, .int 5)], [.int 5, .int a1], (0, 0), mi_G) (by rfl) ?_
        refine mi_sem_b mi_in131 (decide (5 < a1)) true (mi_ltT2 (5) (by decide) (by omega)) 14 10 ([(0, .int a1), (1, .int 0), (2, .int 5)], [], (0, 0), mi_G) (by rfl) ?_
        refine mi_sem_steps mi_in131 (mi_calok_none _ _) 1 _ (15, [(0, .int a1), (1, .int 0), (2, .int 5)], [.int 0], (0, 0), mi_G) (by rfl) ?_
        exact mi_sem_ret (cal := fun _ _ _ => none) mi_in131 (by rfl)
      refine mi_sem_call mi_in133 (i := (.invokestatic 119, 3, 131, 0, 9, 0, 379)) (by rfl) (by rfl) hM462 (by decide) ⟨Nat.le_of_ble_eq_true rfl, Nat.le_of_ble_eq_true rfl⟩ ?_
      exact mi_sem_ret (cal := fun _ _ _ => none) mi_in133 (by rfl)
    refine mi_sem_call mi_in175 (i := (.invokestatic 127, 3, 133, 0, 9, 0, 382)) (by rfl) (by rfl) hM463 (by decide) ⟨Nat.le_of_ble_eq_true rfl, Nat.le_of_ble_eq_true rfl⟩ ?_
    refine mi_sem_steps mi_in175 (mi_calok_none _ _) 2 _ (37, [(0, .ref 116), (1, .int a1), (2, .int a2), (3, .int a3)], [.int (-1)], (0, 0), mi_G) (by rfl) ?_
    exact mi_sem_ret (cal := fun _ _ _ => none) mi_in175 (by rfl)

set_option maxRecDepth 100000 in
set_option maxHeartbeats 4000000 in
theorem mp_market (a1 : Int32) (a2 : Int32) (a3 : Int32) : mi_P 88 175 [.int a1, .int a2, .int a3] := by
  have b0 := Int32.toInt_lt (a1)
  have c0 := Int32.le_toInt (a1)
  have b1 := Int32.toInt_lt (a2)
  have c1 := Int32.le_toInt (a2)
  have b2 := Int32.toInt_lt (a3)
  have c2 := Int32.le_toInt (a3)
  rcases Int.lt_or_le (a3).toInt 0 with _hh | _hh
  ·
    rcases Int.lt_or_le (a1).toInt 0 with _hh | _hh
    ·
      exact mp_market_0 a1 a2 a3 ⟨by omega, by omega⟩ ⟨by omega, by omega⟩
    ·
      rcases Int.lt_or_le (a1).toInt 6 with _hh | _hh
      ·
        exact mp_market_1 a1 a2 a3 ⟨by omega, by omega⟩ ⟨by omega, by omega⟩
      ·
        exact mp_market_2 a1 a2 a3 ⟨by omega, by omega⟩ ⟨by omega, by omega⟩
  ·
    rcases Int.lt_or_le (a3).toInt 4 with _hh | _hh
    ·
      rcases Int.lt_or_le (a3).toInt 3 with _hh | _hh
      ·
        rcases Int.lt_or_le (a2).toInt 0 with _hh | _hh
        ·
          rcases Int.lt_or_le (a1).toInt 0 with _hh | _hh
          ·
            exact mp_market_3 a1 a2 a3 ⟨by omega, by omega⟩ ⟨by omega, by omega⟩ ⟨by omega, by omega⟩
          ·
            rcases Int.lt_or_le (a1).toInt 6 with _hh | _hh
            ·
              exact mp_market_4 a1 a2 a3 ⟨by omega, by omega⟩ ⟨by omega, by omega⟩ ⟨by omega, by omega⟩
            ·
              exact mp_market_5 a1 a2 a3 ⟨by omega, by omega⟩ ⟨by omega, by omega⟩ ⟨by omega, by omega⟩
        ·
          rcases Int.lt_or_le (a2).toInt 1 with _hh | _hh
          ·
            rcases Int.lt_or_le (a1).toInt 0 with _hh | _hh
            ·
              have e_a2 : a2 = 0 := Int32.toInt_inj.mp ((by omega : (a2).toInt = 0).trans (by decide))
              subst e_a2
              exact mp_market_6 a1 a3 ⟨by omega, by omega⟩ ⟨by omega, by omega⟩
            ·
              rcases Int.lt_or_le (a1).toInt 6 with _hh | _hh
              ·
                rcases Int.lt_or_le (a1).toInt 1 with _hh | _hh
                ·
                  have e_a1 : a1 = 0 := Int32.toInt_inj.mp ((by omega : (a1).toInt = 0).trans (by decide))
                  subst e_a1
                  have e_a2 : a2 = 0 := Int32.toInt_inj.mp ((by omega : (a2).toInt = 0).trans (by decide))
                  subst e_a2
                  exact mp_market_7 a3 ⟨by omega, by omega⟩
                ·
                  rcases Int.lt_or_le (a1).toInt 2 with _hh | _hh
                  ·
                    have e_a1 : a1 = 1 := Int32.toInt_inj.mp ((by omega : (a1).toInt = 1).trans (by decide))
                    subst e_a1
                    have e_a2 : a2 = 0 := Int32.toInt_inj.mp ((by omega : (a2).toInt = 0).trans (by decide))
                    subst e_a2
                    exact mp_market_8 a3 ⟨by omega, by omega⟩
                  ·
                    rcases Int.lt_or_le (a1).toInt 3 with _hh | _hh
                    ·
                      have e_a1 : a1 = 2 := Int32.toInt_inj.mp ((by omega : (a1).toInt = 2).trans (by decide))
                      subst e_a1
                      have e_a2 : a2 = 0 := Int32.toInt_inj.mp ((by omega : (a2).toInt = 0).trans (by decide))
                      subst e_a2
                      exact mp_market_9 a3 ⟨by omega, by omega⟩
                    ·
                      rcases Int.lt_or_le (a1).toInt 4 with _hh | _hh
                      ·
                        have e_a1 : a1 = 3 := Int32.toInt_inj.mp ((by omega : (a1).toInt = 3).trans (by decide))
                        subst e_a1
                        have e_a2 : a2 = 0 := Int32.toInt_inj.mp ((by omega : (a2).toInt = 0).trans (by decide))
                        subst e_a2
                        exact mp_market_10 a3 ⟨by omega, by omega⟩
                      ·
                        rcases Int.lt_or_le (a1).toInt 5 with _hh | _hh
                        ·
                          have e_a1 : a1 = 4 := Int32.toInt_inj.mp ((by omega : (a1).toInt = 4).trans (by decide))
                          subst e_a1
                          have e_a2 : a2 = 0 := Int32.toInt_inj.mp ((by omega : (a2).toInt = 0).trans (by decide))
                          subst e_a2
                          exact mp_market_11 a3 ⟨by omega, by omega⟩
                        ·
                          have e_a1 : a1 = 5 := Int32.toInt_inj.mp ((by omega : (a1).toInt = 5).trans (by decide))
                          subst e_a1
                          have e_a2 : a2 = 0 := Int32.toInt_inj.mp ((by omega : (a2).toInt = 0).trans (by decide))
                          subst e_a2
                          exact mp_market_12 a3 ⟨by omega, by omega⟩
              ·
                have e_a2 : a2 = 0 := Int32.toInt_inj.mp ((by omega : (a2).toInt = 0).trans (by decide))
                subst e_a2
                exact mp_market_13 a1 a3 ⟨by omega, by omega⟩ ⟨by omega, by omega⟩
          ·
            rcases Int.lt_or_le (a1).toInt 0 with _hh | _hh
            ·
              exact mp_market_14 a1 a2 a3 ⟨by omega, by omega⟩ ⟨by omega, by omega⟩ ⟨by omega, by omega⟩
            ·
              rcases Int.lt_or_le (a1).toInt 6 with _hh | _hh
              ·
                exact mp_market_15 a1 a2 a3 ⟨by omega, by omega⟩ ⟨by omega, by omega⟩ ⟨by omega, by omega⟩
              ·
                exact mp_market_16 a1 a2 a3 ⟨by omega, by omega⟩ ⟨by omega, by omega⟩ ⟨by omega, by omega⟩
      ·
        rcases Int.lt_or_le (a2).toInt 0 with _hh | _hh
        ·
          rcases Int.lt_or_le (a1).toInt 0 with _hh | _hh
          ·
            have e_a3 : a3 = 3 := Int32.toInt_inj.mp ((by omega : (a3).toInt = 3).trans (by decide))
            subst e_a3
            exact mp_market_17 a1 a2 ⟨by omega, by omega⟩ ⟨by omega, by omega⟩
          ·
            rcases Int.lt_or_le (a1).toInt 6 with _hh | _hh
            ·
              have e_a3 : a3 = 3 := Int32.toInt_inj.mp ((by omega : (a3).toInt = 3).trans (by decide))
              subst e_a3
              exact mp_market_18 a1 a2 ⟨by omega, by omega⟩ ⟨by omega, by omega⟩
            ·
              have e_a3 : a3 = 3 := Int32.toInt_inj.mp ((by omega : (a3).toInt = 3).trans (by decide))
              subst e_a3
              exact mp_market_19 a1 a2 ⟨by omega, by omega⟩ ⟨by omega, by omega⟩
        ·
          rcases Int.lt_or_le (a1).toInt 0 with _hh | _hh
          ·
            have e_a3 : a3 = 3 := Int32.toInt_inj.mp ((by omega : (a3).toInt = 3).trans (by decide))
            subst e_a3
            exact mp_market_20 a1 a2 ⟨by omega, by omega⟩ ⟨by omega, by omega⟩
          ·
            rcases Int.lt_or_le (a1).toInt 6 with _hh | _hh
            ·
              have e_a3 : a3 = 3 := Int32.toInt_inj.mp ((by omega : (a3).toInt = 3).trans (by decide))
              subst e_a3
              exact mp_market_21 a1 a2 ⟨by omega, by omega⟩ ⟨by omega, by omega⟩
            ·
              have e_a3 : a3 = 3 := Int32.toInt_inj.mp ((by omega : (a3).toInt = 3).trans (by decide))
              subst e_a3
              exact mp_market_22 a1 a2 ⟨by omega, by omega⟩ ⟨by omega, by omega⟩
    ·
      rcases Int.lt_or_le (a1).toInt 0 with _hh | _hh
      ·
        exact mp_market_23 a1 a2 a3 ⟨by omega, by omega⟩ ⟨by omega, by omega⟩
      ·
        rcases Int.lt_or_le (a1).toInt 6 with _hh | _hh
        ·
          exact mp_market_24 a1 a2 a3 ⟨by omega, by omega⟩ ⟨by omega, by omega⟩
        ·
          exact mp_market_25 a1 a2 a3 ⟨by omega, by omega⟩ ⟨by omega, by omega⟩

set_option maxRecDepth 100000 in
set_option maxHeartbeats 4000000 in
theorem mp_coming_0 (a1 : Int32) (a2 : Int32) (a3 : Int32) (r0 : (-2147483648) ≤ (a2).toInt ∧ (a2).toInt ≤ (-1)) (r1 : (-2147483648) ≤ (a1).toInt ∧ (a1).toInt ≤ (-1)) : mi_P 89 176 [.int a1, .int a2, .int a3] := by
  refine ⟨.int (-1), mi_G, mi_G, (mi_h89, mi_c89), (mi_h176, mi_c176), 1, 3, rfl, rfl, rfl, by decide, by decide, ?_, ?_⟩
  · refine mi_met_of (y := 89) (q := (mi_h89, mi_c89)) rfl (by decide) (Nat.le_of_ble_eq_true rfl) ?_
    refine mi_sem_steps mi_in89 (mi_calok_none _ _) 1 _ (1, [(0, .ref 0), (1, .int a1), (2, .int a2), (3, .int a3)], [.int a2], (0, 0), mi_G) (by rfl) ?_
    refine mi_sem_b mi_in89 (decide (a2 < 0)) true (mi_ltT (0) (by decide) (by omega)) 13 4 ([(0, .ref 0), (1, .int a1), (2, .int a2), (3, .int a3)], [], (0, 0), mi_G) (by rfl) ?_
    refine mi_sem_steps mi_in89 (mi_calok_none _ _) 1 _ (14, [(0, .ref 0), (1, .int a1), (2, .int a2), (3, .int a3)], [.int (-1)], (0, 0), mi_G) (by rfl) ?_
    exact mi_sem_ret (cal := fun _ _ _ => none) mi_in89 (by rfl)
  · refine mi_met_of (y := 176) (q := (mi_h176, mi_c176)) rfl (by decide) (Nat.le_of_ble_eq_true rfl) ?_
    refine mi_sem_steps mi_in176 (mi_calok_none _ _) 1 _ (1, [(0, .ref 116), (1, .int a1), (2, .int a2), (3, .int a3)], [.int a1], (0, 0), mi_G) (by rfl) ?_
    have hM465 : mi_Met mi_N0 2 mi_h133 [.int a1] mi_G (some (.int 0)) mi_G := by
      refine mi_met_of (y := 133) (q := (mi_h133, mi_c133)) rfl (by decide) (Nat.le_of_ble_eq_true rfl) ?_
      refine mi_sem_steps mi_in133 (mi_calok_none _ _) 3 _ (3, [(0, .int a1)], [.int 5, .int 0, .int a1], (0, 0), mi_G) (by rfl) ?_
      have hM464 : mi_Met mi_N0 1 mi_h131 [.int a1, .int 0, .int 5] mi_G (some (.int 0)) mi_G := by
        refine mi_met_of (y := 131) (q := (mi_h131, mi_c131)) rfl (by decide) (Nat.le_of_ble_eq_true rfl) ?_
        refine mi_sem_steps mi_in131 (mi_calok_none _ _) 2 _ (2, [(0, .int a1), (1, .int 0), (2, .int 5)], [.int 0, .int a1], (0, 0), mi_G) (by rfl) ?_
        refine mi_sem_b mi_in131 (decide (a1 < 0)) true (mi_ltT (0) (by decide) (by omega)) 14 5 ([(0, .int a1), (1, .int 0), (2, .int 5)], [], (0, 0), mi_G) (by rfl) ?_
        refine mi_sem_steps mi_in131 (mi_calok_none _ _) 1 _ (15, [(0, .int a1), (1, .int 0), (2, .int 5)], [.int 0], (0, 0), mi_G) (by rfl) ?_
        exact mi_sem_ret (cal := fun _ _ _ => none) mi_in131 (by rfl)
      refine mi_sem_call mi_in133 (i := (.invokestatic 119, 3, 131, 0, 9, 0, 379)) (by rfl) (by rfl) hM464 (by decide) ⟨Nat.le_of_ble_eq_true rfl, Nat.le_of_ble_eq_true rfl⟩ ?_
      exact mi_sem_ret (cal := fun _ _ _ => none) mi_in133 (by rfl)
    refine mi_sem_call mi_in176 (i := (.invokestatic 127, 3, 133, 0, 9, 0, 382)) (by rfl) (by rfl) hM465 (by decide) ⟨Nat.le_of_ble_eq_true rfl, Nat.le_of_ble_eq_true rfl⟩ ?_
    refine mi_sem_steps mi_in176 (mi_calok_none _ _) 2 _ (21, [(0, .ref 116), (1, .int a1), (2, .int a2), (3, .int a3)], [.int (-1)], (0, 0), mi_G) (by rfl) ?_
    exact mi_sem_ret (cal := fun _ _ _ => none) mi_in176 (by rfl)

set_option maxRecDepth 100000 in
set_option maxHeartbeats 4000000 in
theorem mp_coming_1 (a1 : Int32) (a2 : Int32) (a3 : Int32) (r0 : (-2147483648) ≤ (a2).toInt ∧ (a2).toInt ≤ (-1)) (r1 : 0 ≤ (a1).toInt ∧ (a1).toInt ≤ 5) : mi_P 89 176 [.int a1, .int a2, .int a3] := by
  refine ⟨.int (-1), mi_G, mi_G, (mi_h89, mi_c89), (mi_h176, mi_c176), 1, 3, rfl, rfl, rfl, by decide, by decide, ?_, ?_⟩
  · refine mi_met_of (y := 89) (q := (mi_h89, mi_c89)) rfl (by decide) (Nat.le_of_ble_eq_true rfl) ?_
    refine mi_sem_steps mi_in89 (mi_calok_none _ _) 1 _ (1, [(0, .ref 0), (1, .int a1), (2, .int a2), (3, .int a3)], [.int a2], (0, 0), mi_G) (by rfl) ?_
    refine mi_sem_b mi_in89 (decide (a2 < 0)) true (mi_ltT (0) (by decide) (by omega)) 13 4 ([(0, .ref 0), (1, .int a1), (2, .int a2), (3, .int a3)], [], (0, 0), mi_G) (by rfl) ?_
    refine mi_sem_steps mi_in89 (mi_calok_none _ _) 1 _ (14, [(0, .ref 0), (1, .int a1), (2, .int a2), (3, .int a3)], [.int (-1)], (0, 0), mi_G) (by rfl) ?_
    exact mi_sem_ret (cal := fun _ _ _ => none) mi_in89 (by rfl)
  · refine mi_met_of (y := 176) (q := (mi_h176, mi_c176)) rfl (by decide) (Nat.le_of_ble_eq_true rfl) ?_
    refine mi_sem_steps mi_in176 (mi_calok_none _ _) 1 _ (1, [(0, .ref 116), (1, .int a1), (2, .int a2), (3, .int a3)], [.int a1], (0, 0), mi_G) (by rfl) ?_
    have hM467 : mi_Met mi_N0 2 mi_h133 [.int a1] mi_G (some (.int 1)) mi_G := by
      refine mi_met_of (y := 133) (q := (mi_h133, mi_c133)) rfl (by decide) (Nat.le_of_ble_eq_true rfl) ?_
      refine mi_sem_steps mi_in133 (mi_calok_none _ _) 3 _ (3, [(0, .int a1)], [.int 5, .int 0, .int a1], (0, 0), mi_G) (by rfl) ?_
      have hM466 : mi_Met mi_N0 1 mi_h131 [.int a1, .int 0, .int 5] mi_G (some (.int 1)) mi_G := by
        refine mi_met_of (y := 131) (q := (mi_h131, mi_c131)) rfl (by decide) (Nat.le_of_ble_eq_true rfl) ?_
        refine mi_sem_steps mi_in131 (mi_calok_none _ _) 2 _ (2, [(0, .int a1), (1, .int 0), (2, .int 5)], [.int 0, .int a1], (0, 0), mi_G) (by rfl) ?_
        refine mi_sem_b mi_in131 (decide (a1 < 0)) false (mi_ltF (0) (by decide) (by omega)) 14 5 ([(0, .int a1), (1, .int 0), (2, .int 5)], [], (0, 0), mi_G) (by rfl) ?_
        refine mi_sem_steps mi_in131 (mi_calok_none _ _) 2 _ (7, [(0, .int a1), (1, .int 0), (2, .int 5)], [.int 5, .int a1], (0, 0), mi_G) (by rfl) ?_
        refine mi_sem_b mi_in131 (decide (5 < a1)) false (mi_ltF2 (5) (by decide) (by omega)) 14 10 ([(0, .int a1), (1, .int 0), (2, .int 5)], [], (0, 0), mi_G) (by rfl) ?_
        refine mi_sem_steps mi_in131 (mi_calok_none _ _) 2 _ (15, [(0, .int a1), (1, .int 0), (2, .int 5)], [.int 1], (0, 0), mi_G) (by rfl) ?_
        exact mi_sem_ret (cal := fun _ _ _ => none) mi_in131 (by rfl)
      refine mi_sem_call mi_in133 (i := (.invokestatic 119, 3, 131, 0, 9, 0, 379)) (by rfl) (by rfl) hM466 (by decide) ⟨Nat.le_of_ble_eq_true rfl, Nat.le_of_ble_eq_true rfl⟩ ?_
      exact mi_sem_ret (cal := fun _ _ _ => none) mi_in133 (by rfl)
    refine mi_sem_call mi_in176 (i := (.invokestatic 127, 3, 133, 0, 9, 0, 382)) (by rfl) (by rfl) hM467 (by decide) ⟨Nat.le_of_ble_eq_true rfl, Nat.le_of_ble_eq_true rfl⟩ ?_
    refine mi_sem_steps mi_in176 (mi_calok_none _ _) 2 _ (8, [(0, .ref 116), (1, .int a1), (2, .int a2), (3, .int a3)], [.int a2], (0, 0), mi_G) (by rfl) ?_
    refine mi_sem_b mi_in176 (decide (a2 < 0)) true (mi_ltT (0) (by decide) (by omega)) 20 11 ([(0, .ref 116), (1, .int a1), (2, .int a2), (3, .int a3)], [], (0, 0), mi_G) (by rfl) ?_
    refine mi_sem_steps mi_in176 (mi_calok_none _ _) 1 _ (21, [(0, .ref 116), (1, .int a1), (2, .int a2), (3, .int a3)], [.int (-1)], (0, 0), mi_G) (by rfl) ?_
    exact mi_sem_ret (cal := fun _ _ _ => none) mi_in176 (by rfl)

set_option maxRecDepth 100000 in
set_option maxHeartbeats 4000000 in
theorem mp_coming_2 (a1 : Int32) (a2 : Int32) (a3 : Int32) (r0 : (-2147483648) ≤ (a2).toInt ∧ (a2).toInt ≤ (-1)) (r1 : 6 ≤ (a1).toInt ∧ (a1).toInt ≤ 2147483647) : mi_P 89 176 [.int a1, .int a2, .int a3] := by
  refine ⟨.int (-1), mi_G, mi_G, (mi_h89, mi_c89), (mi_h176, mi_c176), 1, 3, rfl, rfl, rfl, by decide, by decide, ?_, ?_⟩
  · refine mi_met_of (y := 89) (q := (mi_h89, mi_c89)) rfl (by decide) (Nat.le_of_ble_eq_true rfl) ?_
    refine mi_sem_steps mi_in89 (mi_calok_none _ _) 1 _ (1, [(0, .ref 0), (1, .int a1), (2, .int a2), (3, .int a3)], [.int a2], (0, 0), mi_G) (by rfl) ?_
    refine mi_sem_b mi_in89 (decide (a2 < 0)) true (mi_ltT (0) (by decide) (by omega)) 13 4 ([(0, .ref 0), (1, .int a1), (2, .int a2), (3, .int a3)], [], (0, 0), mi_G) (by rfl) ?_
    refine mi_sem_steps mi_in89 (mi_calok_none _ _) 1 _ (14, [(0, .ref 0), (1, .int a1), (2, .int a2), (3, .int a3)], [.int (-1)], (0, 0), mi_G) (by rfl) ?_
    exact mi_sem_ret (cal := fun _ _ _ => none) mi_in89 (by rfl)
  · refine mi_met_of (y := 176) (q := (mi_h176, mi_c176)) rfl (by decide) (Nat.le_of_ble_eq_true rfl) ?_
    refine mi_sem_steps mi_in176 (mi_calok_none _ _) 1 _ (1, [(0, .ref 116), (1, .int a1), (2, .int a2), (3, .int a3)], [.int a1], (0, 0), mi_G) (by rfl) ?_
    have hM469 : mi_Met mi_N0 2 mi_h133 [.int a1] mi_G (some (.int 0)) mi_G := by
      refine mi_met_of (y := 133) (q := (mi_h133, mi_c133)) rfl (by decide) (Nat.le_of_ble_eq_true rfl) ?_
      refine mi_sem_steps mi_in133 (mi_calok_none _ _) 3 _ (3, [(0, .int a1)], [.int 5, .int 0, .int a1], (0, 0), mi_G) (by rfl) ?_
      have hM468 : mi_Met mi_N0 1 mi_h131 [.int a1, .int 0, .int 5] mi_G (some (.int 0)) mi_G := by
        refine mi_met_of (y := 131) (q := (mi_h131, mi_c131)) rfl (by decide) (Nat.le_of_ble_eq_true rfl) ?_
        refine mi_sem_steps mi_in131 (mi_calok_none _ _) 2 _ (2, [(0, .int a1), (1, .int 0), (2, .int 5)], [.int 0, .int a1], (0, 0), mi_G) (by rfl) ?_
        refine mi_sem_b mi_in131 (decide (a1 < 0)) false (mi_ltF (0) (by decide) (by omega)) 14 5 ([(0, .int a1), (1, .int 0), (2, .int 5)], [], (0, 0), mi_G) (by rfl) ?_
        refine mi_sem_steps mi_in131 (mi_calok_none _ _) 2 _ (7, [(0, .int a1), (1, .int 0), (2, .int 5)], [.int 5, .int a1], (0, 0), mi_G) (by rfl) ?_
        refine mi_sem_b mi_in131 (decide (5 < a1)) true (mi_ltT2 (5) (by decide) (by omega)) 14 10 ([(0, .int a1), (1, .int 0), (2, .int 5)], [], (0, 0), mi_G) (by rfl) ?_
        refine mi_sem_steps mi_in131 (mi_calok_none _ _) 1 _ (15, [(0, .int a1), (1, .int 0), (2, .int 5)], [.int 0], (0, 0), mi_G) (by rfl) ?_
        exact mi_sem_ret (cal := fun _ _ _ => none) mi_in131 (by rfl)
      refine mi_sem_call mi_in133 (i := (.invokestatic 119, 3, 131, 0, 9, 0, 379)) (by rfl) (by rfl) hM468 (by decide) ⟨Nat.le_of_ble_eq_true rfl, Nat.le_of_ble_eq_true rfl⟩ ?_
      exact mi_sem_ret (cal := fun _ _ _ => none) mi_in133 (by rfl)
    refine mi_sem_call mi_in176 (i := (.invokestatic 127, 3, 133, 0, 9, 0, 382)) (by rfl) (by rfl) hM469 (by decide) ⟨Nat.le_of_ble_eq_true rfl, Nat.le_of_ble_eq_true rfl⟩ ?_
    refine mi_sem_steps mi_in176 (mi_calok_none _ _) 2 _ (21, [(0, .ref 116), (1, .int a1), (2, .int a2), (3, .int a3)], [.int (-1)], (0, 0), mi_G) (by rfl) ?_
    exact mi_sem_ret (cal := fun _ _ _ => none) mi_in176 (by rfl)

set_option maxRecDepth 100000 in
set_option maxHeartbeats 4000000 in
theorem mp_coming_3 (a1 : Int32) (a2 : Int32) (a3 : Int32) (r0 : 0 ≤ (a2).toInt ∧ (a2).toInt ≤ 2147483647) (r1 : (-2147483648) ≤ (a3).toInt ∧ (a3).toInt ≤ (-1)) (r2 : (-2147483648) ≤ (a1).toInt ∧ (a1).toInt ≤ (-1)) : mi_P 89 176 [.int a1, .int a2, .int a3] := by
  refine ⟨.int (-1), mi_G, mi_G, (mi_h89, mi_c89), (mi_h176, mi_c176), 2, 3, rfl, rfl, rfl, by decide, by decide, ?_, ?_⟩
  · refine mi_met_of (y := 89) (q := (mi_h89, mi_c89)) rfl (by decide) (Nat.le_of_ble_eq_true rfl) ?_
    refine mi_sem_steps mi_in89 (mi_calok_none _ _) 1 _ (1, [(0, .ref 0), (1, .int a1), (2, .int a2), (3, .int a3)], [.int a2], (0, 0), mi_G) (by rfl) ?_
    refine mi_sem_b mi_in89 (decide (a2 < 0)) false (mi_ltF (0) (by decide) (by omega)) 13 4 ([(0, .ref 0), (1, .int a1), (2, .int a2), (3, .int a3)], [], (0, 0), mi_G) (by rfl) ?_
    refine mi_sem_steps mi_in89 (mi_calok_none _ _) 3 _ (7, [(0, .ref 0), (1, .int a1), (2, .int a2), (3, .int a3)], [.int 2, .int 0, .int a3], (0, 0), mi_G) (by rfl) ?_
    have hM471 : mi_Met mi_N0 1 mi_h120 [.int a3, .int 0, .int 2] mi_G (some (.int 0)) mi_G := by
      refine mi_met_of (y := 120) (q := (mi_h120, mi_c120)) rfl (by decide) (Nat.le_of_ble_eq_true rfl) ?_
      refine mi_sem_steps mi_in120 (mi_calok_none _ _) 2 _ (2, [(0, .int a3), (1, .int 0), (2, .int 2)], [.int 0, .int a3], (0, 0), mi_G) (by rfl) ?_
      refine mi_sem_b mi_in120 (decide (a3 < 0)) true (mi_ltT (0) (by decide) (by omega)) 14 5 ([(0, .int a3), (1, .int 0), (2, .int 2)], [], (0, 0), mi_G) (by rfl) ?_
      refine mi_sem_steps mi_in120 (mi_calok_none _ _) 1 _ (15, [(0, .int a3), (1, .int 0), (2, .int 2)], [.int 0], (0, 0), mi_G) (by rfl) ?_
      exact mi_sem_ret (cal := fun _ _ _ => none) mi_in120 (by rfl)
    refine mi_sem_call mi_in89 (i := (.invokestatic 74, 3, 120, 0, 9, 0, 152)) (by rfl) (by rfl) hM471 (by decide) ⟨Nat.le_of_ble_eq_true rfl, Nat.le_of_ble_eq_true rfl⟩ ?_
    refine mi_sem_steps mi_in89 (mi_calok_none _ _) 2 _ (14, [(0, .ref 0), (1, .int a1), (2, .int a2), (3, .int a3)], [.int (-1)], (0, 0), mi_G) (by rfl) ?_
    exact mi_sem_ret (cal := fun _ _ _ => none) mi_in89 (by rfl)
  · refine mi_met_of (y := 176) (q := (mi_h176, mi_c176)) rfl (by decide) (Nat.le_of_ble_eq_true rfl) ?_
    refine mi_sem_steps mi_in176 (mi_calok_none _ _) 1 _ (1, [(0, .ref 116), (1, .int a1), (2, .int a2), (3, .int a3)], [.int a1], (0, 0), mi_G) (by rfl) ?_
    have hM473 : mi_Met mi_N0 2 mi_h133 [.int a1] mi_G (some (.int 0)) mi_G := by
      refine mi_met_of (y := 133) (q := (mi_h133, mi_c133)) rfl (by decide) (Nat.le_of_ble_eq_true rfl) ?_
      refine mi_sem_steps mi_in133 (mi_calok_none _ _) 3 _ (3, [(0, .int a1)], [.int 5, .int 0, .int a1], (0, 0), mi_G) (by rfl) ?_
      have hM472 : mi_Met mi_N0 1 mi_h131 [.int a1, .int 0, .int 5] mi_G (some (.int 0)) mi_G := by
        refine mi_met_of (y := 131) (q := (mi_h131, mi_c131)) rfl (by decide) (Nat.le_of_ble_eq_true rfl) ?_
        refine mi_sem_steps mi_in131 (mi_calok_none _ _) 2 _ (2, [(0, .int a1), (1, .int 0), (2, .int 5)], [.int 0, .int a1], (0, 0), mi_G) (by rfl) ?_
        refine mi_sem_b mi_in131 (decide (a1 < 0)) true (mi_ltT (0) (by decide) (by omega)) 14 5 ([(0, .int a1), (1, .int 0), (2, .int 5)], [], (0, 0), mi_G) (by rfl) ?_
        refine mi_sem_steps mi_in131 (mi_calok_none _ _) 1 _ (15, [(0, .int a1), (1, .int 0), (2, .int 5)], [.int 0], (0, 0), mi_G) (by rfl) ?_
        exact mi_sem_ret (cal := fun _ _ _ => none) mi_in131 (by rfl)
      refine mi_sem_call mi_in133 (i := (.invokestatic 119, 3, 131, 0, 9, 0, 379)) (by rfl) (by rfl) hM472 (by decide) ⟨Nat.le_of_ble_eq_true rfl, Nat.le_of_ble_eq_true rfl⟩ ?_
      exact mi_sem_ret (cal := fun _ _ _ => none) mi_in133 (by rfl)
    refine mi_sem_call mi_in176 (i := (.invokestatic 127, 3, 133, 0, 9, 0, 382)) (by rfl) (by rfl) hM473 (by decide) ⟨Nat.le_of_ble_eq_true rfl, Nat.le_of_ble_eq_true rfl⟩ ?_
    refine mi_sem_steps mi_in176 (mi_calok_none _ _) 2 _ (21, [(0, .ref 116), (1, .int a1), (2, .int a2), (3, .int a3)], [.int (-1)], (0, 0), mi_G) (by rfl) ?_
    exact mi_sem_ret (cal := fun _ _ _ => none) mi_in176 (by rfl)

set_option maxRecDepth 100000 in
set_option maxHeartbeats 4000000 in
theorem mp_coming_4 (a1 : Int32) (a2 : Int32) (a3 : Int32) (r0 : 0 ≤ (a2).toInt ∧ (a2).toInt ≤ 2147483647) (r1 : (-2147483648) ≤ (a3).toInt ∧ (a3).toInt ≤ (-1)) (r2 : 0 ≤ (a1).toInt ∧ (a1).toInt ≤ 5) : mi_P 89 176 [.int a1, .int a2, .int a3] := by
  refine ⟨.int (-1), mi_G, mi_G, (mi_h89, mi_c89), (mi_h176, mi_c176), 2, 3, rfl, rfl, rfl, by decide, by decide, ?_, ?_⟩
  · refine mi_met_of (y := 89) (q := (mi_h89, mi_c89)) rfl (by decide) (Nat.le_of_ble_eq_true rfl) ?_
    refine mi_sem_steps mi_in89 (mi_calok_none _ _) 1 _ (1, [(0, .ref 0), (1, .int a1), (2, .int a2), (3, .int a3)], [.int a2], (0, 0), mi_G) (by rfl) ?_
    refine mi_sem_b mi_in89 (decide (a2 < 0)) false (mi_ltF (0) (by decide) (by omega)) 13 4 ([(0, .ref 0), (1, .int a1), (2, .int a2), (3, .int a3)], [], (0, 0), mi_G) (by rfl) ?_
    refine mi_sem_steps mi_in89 (mi_calok_none _ _) 3 _ (7, [(0, .ref 0), (1, .int a1), (2, .int a2), (3, .int a3)], [.int 2, .int 0, .int a3], (0, 0), mi_G) (by rfl) ?_
    have hM475 : mi_Met mi_N0 1 mi_h120 [.int a3, .int 0, .int 2] mi_G (some (.int 0)) mi_G := by
      refine mi_met_of (y := 120) (q := (mi_h120, mi_c120)) rfl (by decide) (Nat.le_of_ble_eq_true rfl) ?_
      refine mi_sem_steps mi_in120 (mi_calok_none _ _) 2 _ (2, [(0, .int a3), (1, .int 0), (2, .int 2)], [.int 0, .int a3], (0, 0), mi_G) (by rfl) ?_
      refine mi_sem_b mi_in120 (decide (a3 < 0)) true (mi_ltT (0) (by decide) (by omega)) 14 5 ([(0, .int a3), (1, .int 0), (2, .int 2)], [], (0, 0), mi_G) (by rfl) ?_
      refine mi_sem_steps mi_in120 (mi_calok_none _ _) 1 _ (15, [(0, .int a3), (1, .int 0), (2, .int 2)], [.int 0], (0, 0), mi_G) (by rfl) ?_
      exact mi_sem_ret (cal := fun _ _ _ => none) mi_in120 (by rfl)
    refine mi_sem_call mi_in89 (i := (.invokestatic 74, 3, 120, 0, 9, 0, 152)) (by rfl) (by rfl) hM475 (by decide) ⟨Nat.le_of_ble_eq_true rfl, Nat.le_of_ble_eq_true rfl⟩ ?_
    refine mi_sem_steps mi_in89 (mi_calok_none _ _) 2 _ (14, [(0, .ref 0), (1, .int a1), (2, .int a2), (3, .int a3)], [.int (-1)], (0, 0), mi_G) (by rfl) ?_
    exact mi_sem_ret (cal := fun _ _ _ => none) mi_in89 (by rfl)
  · refine mi_met_of (y := 176) (q := (mi_h176, mi_c176)) rfl (by decide) (Nat.le_of_ble_eq_true rfl) ?_
    refine mi_sem_steps mi_in176 (mi_calok_none _ _) 1 _ (1, [(0, .ref 116), (1, .int a1), (2, .int a2), (3, .int a3)], [.int a1], (0, 0), mi_G) (by rfl) ?_
    have hM477 : mi_Met mi_N0 2 mi_h133 [.int a1] mi_G (some (.int 1)) mi_G := by
      refine mi_met_of (y := 133) (q := (mi_h133, mi_c133)) rfl (by decide) (Nat.le_of_ble_eq_true rfl) ?_
      refine mi_sem_steps mi_in133 (mi_calok_none _ _) 3 _ (3, [(0, .int a1)], [.int 5, .int 0, .int a1], (0, 0), mi_G) (by rfl) ?_
      have hM476 : mi_Met mi_N0 1 mi_h131 [.int a1, .int 0, .int 5] mi_G (some (.int 1)) mi_G := by
        refine mi_met_of (y := 131) (q := (mi_h131, mi_c131)) rfl (by decide) (Nat.le_of_ble_eq_true rfl) ?_
        refine mi_sem_steps mi_in131 (mi_calok_none _ _) 2 _ (2, [(0, .int a1), (1, .int 0), (2, .int 5)], [.int 0, .int a1], (0, 0), mi_G) (by rfl) ?_
        refine mi_sem_b mi_in131 (decide (a1 < 0)) false (mi_ltF (0) (by decide) (by omega)) 14 5 ([(0, .int a1), (1, .int 0), (2, .int 5)], [], (0, 0), mi_G) (by rfl) ?_
        refine mi_sem_steps mi_in131 (mi_calok_none _ _) 2 _ (7, [(0, .int a1), (1, .int 0), (2, .int 5)], [.int 5, .int a1], (0, 0), mi_G) (by rfl) ?_
        refine mi_sem_b mi_in131 (decide (5 < a1)) false (mi_ltF2 (5) (by decide) (by omega)) 14 10 ([(0, .int a1), (1, .int 0), (2, .int 5)], [], (0, 0), mi_G) (by rfl) ?_
        refine mi_sem_steps mi_in131 (mi_calok_none _ _) 2 _ (15, [(0, .int a1), (1, .int 0), (2, .int 5)], [.int 1], (0, 0), mi_G) (by rfl) ?_
        exact mi_sem_ret (cal := fun _ _ _ => none) mi_in131 (by rfl)
      refine mi_sem_call mi_in133 (i := (.invokestatic 119, 3, 131, 0, 9, 0, 379)) (by rfl) (by rfl) hM476 (by decide) ⟨Nat.le_of_ble_eq_true rfl, Nat.le_of_ble_eq_true rfl⟩ ?_
      exact mi_sem_ret (cal := fun _ _ _ => none) mi_in133 (by rfl)
    refine mi_sem_call mi_in176 (i := (.invokestatic 127, 3, 133, 0, 9, 0, 382)) (by rfl) (by rfl) hM477 (by decide) ⟨Nat.le_of_ble_eq_true rfl, Nat.le_of_ble_eq_true rfl⟩ ?_
    refine mi_sem_steps mi_in176 (mi_calok_none _ _) 2 _ (8, [(0, .ref 116), (1, .int a1), (2, .int a2), (3, .int a3)], [.int a2], (0, 0), mi_G) (by rfl) ?_
    refine mi_sem_b mi_in176 (decide (a2 < 0)) false (mi_ltF (0) (by decide) (by omega)) 20 11 ([(0, .ref 116), (1, .int a1), (2, .int a2), (3, .int a3)], [], (0, 0), mi_G) (by rfl) ?_
    refine mi_sem_steps mi_in176 (mi_calok_none _ _) 3 _ (14, [(0, .ref 116), (1, .int a1), (2, .int a2), (3, .int a3)], [.int 2, .int 0, .int a3], (0, 0), mi_G) (by rfl) ?_
    have hM478 : mi_Met mi_N0 1 mi_h131 [.int a3, .int 0, .int 2] mi_G (some (.int 0)) mi_G := by
      refine mi_met_of (y := 131) (q := (mi_h131, mi_c131)) rfl (by decide) (Nat.le_of_ble_eq_true rfl) ?_
      refine mi_sem_steps mi_in131 (mi_calok_none _ _) 2 _ (2, [(0, .int a3), (1, .int 0), (2, .int 2)], [.int 0, .int a3], (0, 0), mi_G) (by rfl) ?_
      refine mi_sem_b mi_in131 (decide (a3 < 0)) true (mi_ltT (0) (by decide) (by omega)) 14 5 ([(0, .int a3), (1, .int 0), (2, .int 2)], [], (0, 0), mi_G) (by rfl) ?_
      refine mi_sem_steps mi_in131 (mi_calok_none _ _) 1 _ (15, [(0, .int a3), (1, .int 0), (2, .int 2)], [.int 0], (0, 0), mi_G) (by rfl) ?_
      exact mi_sem_ret (cal := fun _ _ _ => none) mi_in131 (by rfl)
    refine mi_sem_call mi_in176 (i := (.invokestatic 119, 3, 131, 0, 9, 0, 379)) (by rfl) (by rfl) hM478 (by decide) ⟨Nat.le_of_ble_eq_true rfl, Nat.le_of_ble_eq_true rfl⟩ ?_
    refine mi_sem_steps mi_in176 (mi_calok_none _ _) 2 _ (21, [(0, .ref 116), (1, .int a1), (2, .int a2), (3, .int a3)], [.int (-1)], (0, 0), mi_G) (by rfl) ?_
    exact mi_sem_ret (cal := fun _ _ _ => none) mi_in176 (by rfl)

set_option maxRecDepth 100000 in
set_option maxHeartbeats 4000000 in
theorem mp_coming_5 (a1 : Int32) (a2 : Int32) (a3 : Int32) (r0 : 0 ≤ (a2).toInt ∧ (a2).toInt ≤ 2147483647) (r1 : (-2147483648) ≤ (a3).toInt ∧ (a3).toInt ≤ (-1)) (r2 : 6 ≤ (a1).toInt ∧ (a1).toInt ≤ 2147483647) : mi_P 89 176 [.int a1, .int a2, .int a3] := by
  refine ⟨.int (-1), mi_G, mi_G, (mi_h89, mi_c89), (mi_h176, mi_c176), 2, 3, rfl, rfl, rfl, by decide, by decide, ?_, ?_⟩
  · refine mi_met_of (y := 89) (q := (mi_h89, mi_c89)) rfl (by decide) (Nat.le_of_ble_eq_true rfl) ?_
    refine mi_sem_steps mi_in89 (mi_calok_none _ _) 1 _ (1, [(0, .ref 0), (1, .int a1), (2, .int a2), (3, .int a3)], [.int a2], (0, 0), mi_G) (by rfl) ?_
    refine mi_sem_b mi_in89 (decide (a2 < 0)) false (mi_ltF (0) (by decide) (by omega)) 13 4 ([(0, .ref 0), (1, .int a1), (2, .int a2), (3, .int a3)], [], (0, 0), mi_G) (by rfl) ?_
    refine mi_sem_steps mi_in89 (mi_calok_none _ _) 3 _ (7, [(0, .ref 0), (1, .int a1), (2, .int a2), (3, .int a3)], [.int 2, .int 0, .int a3], (0, 0), mi_G) (by rfl) ?_
    have hM479 : mi_Met mi_N0 1 mi_h120 [.int a3, .int 0, .int 2] mi_G (some (.int 0)) mi_G := by
      refine mi_met_of (y := 120) (q := (mi_h120, mi_c120)) rfl (by decide) (Nat.le_of_ble_eq_true rfl) ?_
      refine mi_sem_steps mi_in120 (mi_calok_none _ _) 2 _ (2, [(0, .int a3), (1, .int 0), (2, .int 2)], [.int 0, .int a3], (0, 0), mi_G) (by rfl) ?_
      refine mi_sem_b mi_in120 (decide (a3 < 0)) true (mi_ltT (0) (by decide) (by omega)) 14 5 ([(0, .int a3), (1, .int 0), (2, .int 2)], [], (0, 0), mi_G) (by rfl) ?_
      refine mi_sem_steps mi_in120 (mi_calok_none _ _) 1 _ (15, [(0, .int a3), (1, .int 0), (2, .int 2)], [.int 0], (0, 0), mi_G) (by rfl) ?_
      exact mi_sem_ret (cal := fun _ _ _ => none) mi_in120 (by rfl)
    refine mi_sem_call mi_in89 (i := (.invokestatic 74, 3, 120, 0, 9, 0, 152)) (by rfl) (by rfl) hM479 (by decide) ⟨Nat.le_of_ble_eq_true rfl, Nat.le_of_ble_eq_true rfl⟩ ?_
    refine mi_sem_steps mi_in89 (mi_calok_none _ _) 2 _ (14, [(0, .ref 0), (1, .int a1), (2, .int a2), (3, .int a3)], [.int (-1)], (0, 0), mi_G) (by rfl) ?_
    exact mi_sem_ret (cal := fun _ _ _ => none) mi_in89 (by rfl)
  · refine mi_met_of (y := 176) (q := (mi_h176, mi_c176)) rfl (by decide) (Nat.le_of_ble_eq_true rfl) ?_
    refine mi_sem_steps mi_in176 (mi_calok_none _ _) 1 _ (1, [(0, .ref 116), (1, .int a1), (2, .int a2), (3, .int a3)], [.int a1], (0, 0), mi_G) (by rfl) ?_
    have hM481 : mi_Met mi_N0 2 mi_h133 [.int a1] mi_G (some (.int 0)) mi_G := by
      refine mi_met_of (y := 133) (q := (mi_h133, mi_c133)) rfl (by decide) (Nat.le_of_ble_eq_true rfl) ?_
      refine mi_sem_steps mi_in133 (mi_calok_none _ _) 3 _ (3, [(0, .int a1)], [.int 5, .int 0, .int a1], (0, 0), mi_G) (by rfl) ?_
      have hM480 : mi_Met mi_N0 1 mi_h131 [.int a1, .int 0, .int 5] mi_G (some (.int 0)) mi_G := by
        refine mi_met_of (y := 131) (q := (mi_h131, mi_c131)) rfl (by decide) (Nat.le_of_ble_eq_true rfl) ?_
        refine mi_sem_steps mi_in131 (mi_calok_none _ _) 2 _ (2, [(0, .int a1), (1, .int 0), (2, .int 5)], [.int 0, .int a1], (0, 0), mi_G) (by rfl) ?_
        refine mi_sem_b mi_in131 (decide (a1 < 0)) false (mi_ltF (0) (by decide) (by omega)) 14 5 ([(0, .int a1), (1, .int 0), (2, .int 5)], [], (0, 0), mi_G) (by rfl) ?_
        refine mi_sem_steps mi_in131 (mi_calok_none _ _) 2 _ (7, [(0, .int a1), (1, .int 0), (2, .int 5)], [.int 5, .int a1], (0, 0), mi_G) (by rfl) ?_
        refine mi_sem_b mi_in131 (decide (5 < a1)) true (mi_ltT2 (5) (by decide) (by omega)) 14 10 ([(0, .int a1), (1, .int 0), (2, .int 5)], [], (0, 0), mi_G) (by rfl) ?_
        refine mi_sem_steps mi_in131 (mi_calok_none _ _) 1 _ (15, [(0, .int a1), (1, .int 0), (2, .int 5)], [.int 0], (0, 0), mi_G) (by rfl) ?_
        exact mi_sem_ret (cal := fun _ _ _ => none) mi_in131 (by rfl)
      refine mi_sem_call mi_in133 (i := (.invokestatic 119, 3, 131, 0, 9, 0, 379)) (by rfl) (by rfl) hM480 (by decide) ⟨Nat.le_of_ble_eq_true rfl, Nat.le_of_ble_eq_true rfl⟩ ?_
      exact mi_sem_ret (cal := fun _ _ _ => none) mi_in133 (by rfl)
    refine mi_sem_call mi_in176 (i := (.invokestatic 127, 3, 133, 0, 9, 0, 382)) (by rfl) (by rfl) hM481 (by decide) ⟨Nat.le_of_ble_eq_true rfl, Nat.le_of_ble_eq_true rfl⟩ ?_
    refine mi_sem_steps mi_in176 (mi_calok_none _ _) 2 _ (21, [(0, .ref 116), (1, .int a1), (2, .int a2), (3, .int a3)], [.int (-1)], (0, 0), mi_G) (by rfl) ?_
    exact mi_sem_ret (cal := fun _ _ _ => none) mi_in176 (by rfl)

set_option maxRecDepth 100000 in
set_option maxHeartbeats 4000000 in
theorem mp_coming_6 (a1 : Int32) (a2 : Int32) (a3 : Int32) (r0 : 0 ≤ (a2).toInt ∧ (a2).toInt ≤ 2147483647) (r1 : 0 ≤ (a3).toInt ∧ (a3).toInt ≤ 2) (r2 : (-2147483648) ≤ (a1).toInt ∧ (a1).toInt ≤ (-1)) : mi_P 89 176 [.int a1, .int a2, .int a3] := by
  refine ⟨.int (-1), mi_G, mi_G, (mi_h89, mi_c89), (mi_h176, mi_c176), 5, 3, rfl, rfl, rfl, by decide, by decide, ?_, ?_⟩
  · refine mi_met_of (y := 89) (q := (mi_h89, mi_c89)) rfl (by decide) (Nat.le_of_ble_eq_true rfl) ?_
    refine mi_sem_steps mi_in89 (mi_calok_none _ _) 1 _ (1, [(0, .ref 0), (1, .int a1), (2, .int a2), (3, .int a3)], [.int a2], (0, 0), mi_G) (by rfl) ?_
    refine mi_sem_b mi_in89 (decide (a2 < 0)) false (mi_ltF (0) (by decide) (by omega)) 13 4 ([(0, .ref 0), (1, .int a1), (2, .int a2), (3, .int a3)], [], (0, 0), mi_G) (by rfl) ?_
    refine mi_sem_steps mi_in89 (mi_calok_none _ _) 3 _ (7, [(0, .ref 0), (1, .int a1), (2, .int a2), (3, .int a3)], [.int 2, .int 0, .int a3], (0, 0), mi_G) (by rfl) ?_
    have hM483 : mi_Met mi_N0 1 mi_h120 [.int a3, .int 0, .int 2] mi_G (some (.int 1)) mi_G := by
      refine mi_met_of (y := 120) (q := (mi_h120, mi_c120)) rfl (by decide) (Nat.le_of_ble_eq_true rfl) ?_
      refine mi_sem_steps mi_in120 (mi_calok_none _ _) 2 _ (2, [(0, .int a3), (1, .int 0), (2, .int 2)], [.int 0, .int a3], (0, 0), mi_G) (by rfl) ?_
      refine mi_sem_b mi_in120 (decide (a3 < 0)) false (mi_ltF (0) (by decide) (by omega)) 14 5 ([(0, .int a3), (1, .int 0), (2, .int 2)], [], (0, 0), mi_G) (by rfl) ?_
      refine mi_sem_steps mi_in120 (mi_calok_none _ _) 2 _ (7, [(0, .int a3), (1, .int 0), (2, .int 2)], [.int 2, .int a3], (0, 0), mi_G) (by rfl) ?_
      refine mi_sem_b mi_in120 (decide (2 < a3)) false (mi_ltF2 (2) (by decide) (by omega)) 14 10 ([(0, .int a3), (1, .int 0), (2, .int 2)], [], (0, 0), mi_G) (by rfl) ?_
      refine mi_sem_steps mi_in120 (mi_calok_none _ _) 2 _ (15, [(0, .int a3), (1, .int 0), (2, .int 2)], [.int 1], (0, 0), mi_G) (by rfl) ?_
      exact mi_sem_ret (cal := fun _ _ _ => none) mi_in120 (by rfl)
    refine mi_sem_call mi_in89 (i := (.invokestatic 74, 3, 120, 0, 9, 0, 152)) (by rfl) (by rfl) hM483 (by decide) ⟨Nat.le_of_ble_eq_true rfl, Nat.le_of_ble_eq_true rfl⟩ ?_
    refine mi_sem_steps mi_in89 (mi_calok_none _ _) 3 _ (17, [(0, .ref 0), (1, .int a1), (2, .int a2), (3, .int a3)], [.int a1, .ref 0], (0, 0), mi_G) (by rfl) ?_
    have hM487 : mi_Met mi_N0 4 mi_h129 [.ref 0, .int a1] mi_G (some (.int (-1))) mi_G := by
      refine mi_met_of (y := 129) (q := (mi_h129, mi_c129)) rfl (by decide) (Nat.le_of_ble_eq_true rfl) ?_
      refine mi_sem_steps mi_in129 (mi_calok_none _ _) 2 _ (2, [(0, .ref 0), (1, .int a1)], [.int a1, .ref 0], (0, 0), mi_G) (by rfl) ?_
      have hM486 : mi_Met mi_N0 3 mi_h127 [.ref 0, .int a1] mi_G (some (.int (-1))) mi_G := by
        refine mi_met_of (y := 127) (q := (mi_h127, mi_c127)) rfl (by decide) (Nat.le_of_ble_eq_true rfl) ?_
        refine mi_sem_steps mi_in127 (mi_calok_none _ _) 1 _ (1, [(0, .ref 0), (1, .int a1)], [.int a1], (0, 0), mi_G) (by rfl) ?_
        have hM485 : mi_Met mi_N0 2 mi_h121 [.int a1] mi_G (some (.int 0)) mi_G := by
          refine mi_met_of (y := 121) (q := (mi_h121, mi_c121)) rfl (by decide) (Nat.le_of_ble_eq_true rfl) ?_
          refine mi_sem_steps mi_in121 (mi_calok_none _ _) 3 _ (3, [(0, .int a1)], [.int 5, .int 0, .int a1], (0, 0), mi_G) (by rfl) ?_
          have hM484 : mi_Met mi_N0 1 mi_h120 [.int a1, .int 0, .int 5] mi_G (some (.int 0)) mi_G := by
            refine mi_met_of (y := 120) (q := (mi_h120, mi_c120)) rfl (by decide) (Nat.le_of_ble_eq_true rfl) ?_
            refine mi_sem_steps mi_in120 (mi_calok_none _ _) 2 _ (2, [(0, .int a1), (1, .int 0), (2, .int 5)], [.int 0, .int a1], (0, 0), mi_G) (by rfl) ?_
            refine mi_sem_b mi_in120 (decide (a1 < 0)) true (mi_ltT (0) (by decide) (by omega)) 14 5 ([(0, .int a1), (1, .int 0), (2, .int 5)], [], (0, 0), mi_G) (by rfl) ?_
            refine mi_sem_steps mi_in120 (mi_calok_none _ _) 1 _ (15, [(0, .int a1), (1, .int 0), (2, .int 5)], [.int 0], (0, 0), mi_G) (by rfl) ?_
            exact mi_sem_ret (cal := fun _ _ _ => none) mi_in120 (by rfl)
          refine mi_sem_call mi_in121 (i := (.invokestatic 74, 3, 120, 0, 9, 0, 152)) (by rfl) (by rfl) hM484 (by decide) ⟨Nat.le_of_ble_eq_true rfl, Nat.le_of_ble_eq_true rfl⟩ ?_
          exact mi_sem_ret (cal := fun _ _ _ => none) mi_in121 (by rfl)
        refine mi_sem_call mi_in127 (i := (.invokestatic 70, 3, 121, 0, 9, 0, 157)) (by rfl) (by rfl) hM485 (by decide) ⟨Nat.le_of_ble_eq_true rfl, Nat.le_of_ble_eq_true rfl⟩ ?_
        refine mi_sem_steps mi_in127 (mi_calok_none _ _) 2 _ (8, [(0, .ref 0), (1, .int a1)], [.int (-1)], (0, 0), mi_G) (by rfl) ?_
        exact mi_sem_ret (cal := fun _ _ _ => none) mi_in127 (by rfl)
      refine mi_sem_call mi_in129 (i := (.invokevirtual 217, 3, 127, 0, 9, 0, 209)) (by rfl) (by rfl) hM486 (by decide) ⟨Nat.le_of_ble_eq_true rfl, Nat.le_of_ble_eq_true rfl⟩ ?_
      refine mi_sem_steps mi_in129 (mi_calok_none _ _) 4 _ (31, [(2, .int (-1)), (0, .ref 0), (1, .int a1)], [.int (-1)], (0, 0), mi_G) (by rfl) ?_
      exact mi_sem_ret (cal := fun _ _ _ => none) mi_in129 (by rfl)
    refine mi_sem_call mi_in89 (i := (.invokevirtual 144, 3, 129, 0, 9, 0, 208)) (by rfl) (by rfl) hM487 (by decide) ⟨Nat.le_of_ble_eq_true rfl, Nat.le_of_ble_eq_true rfl⟩ ?_
    refine mi_sem_steps mi_in89 (mi_calok_none _ _) 4 _ (29, [(4, .int (-1)), (0, .ref 0), (1, .int a1), (2, .int a2), (3, .int a3)], [.int (-1)], (0, 0), mi_G) (by rfl) ?_
    exact mi_sem_ret (cal := fun _ _ _ => none) mi_in89 (by rfl)
  · refine mi_met_of (y := 176) (q := (mi_h176, mi_c176)) rfl (by decide) (Nat.le_of_ble_eq_true rfl) ?_
    refine mi_sem_steps mi_in176 (mi_calok_none _ _) 1 _ (1, [(0, .ref 116), (1, .int a1), (2, .int a2), (3, .int a3)], [.int a1], (0, 0), mi_G) (by rfl) ?_
    have hM489 : mi_Met mi_N0 2 mi_h133 [.int a1] mi_G (some (.int 0)) mi_G := by
      refine mi_met_of (y := 133) (q := (mi_h133, mi_c133)) rfl (by decide) (Nat.le_of_ble_eq_true rfl) ?_
      refine mi_sem_steps mi_in133 (mi_calok_none _ _) 3 _ (3, [(0, .int a1)], [.int 5, .int 0, .int a1], (0, 0), mi_G) (by rfl) ?_
      have hM488 : mi_Met mi_N0 1 mi_h131 [.int a1, .int 0, .int 5] mi_G (some (.int 0)) mi_G := by
        refine mi_met_of (y := 131) (q := (mi_h131, mi_c131)) rfl (by decide) (Nat.le_of_ble_eq_true rfl) ?_
        refine mi_sem_steps mi_in131 (mi_calok_none _ _) 2 _ (2, [(0, .int a1), (1, .int 0), (2, .int 5)], [.int 0, .int a1], (0, 0), mi_G) (by rfl) ?_
        refine mi_sem_b mi_in131 (decide (a1 < 0)) true (mi_ltT (0) (by decide) (by omega)) 14 5 ([(0, .int a1), (1, .int 0), (2, .int 5)], [], (0, 0), mi_G) (by rfl) ?_
        refine mi_sem_steps mi_in131 (mi_calok_none _ _) 1 _ (15, [(0, .int a1), (1, .int 0), (2, .int 5)], [.int 0], (0, 0), mi_G) (by rfl) ?_
        exact mi_sem_ret (cal := fun _ _ _ => none) mi_in131 (by rfl)
      refine mi_sem_call mi_in133 (i := (.invokestatic 119, 3, 131, 0, 9, 0, 379)) (by rfl) (by rfl) hM488 (by decide) ⟨Nat.le_of_ble_eq_true rfl, Nat.le_of_ble_eq_true rfl⟩ ?_
      exact mi_sem_ret (cal := fun _ _ _ => none) mi_in133 (by rfl)
    refine mi_sem_call mi_in176 (i := (.invokestatic 127, 3, 133, 0, 9, 0, 382)) (by rfl) (by rfl) hM489 (by decide) ⟨Nat.le_of_ble_eq_true rfl, Nat.le_of_ble_eq_true rfl⟩ ?_
    refine mi_sem_steps mi_in176 (mi_calok_none _ _) 2 _ (21, [(0, .ref 116), (1, .int a1), (2, .int a2), (3, .int a3)], [.int (-1)], (0, 0), mi_G) (by rfl) ?_
    exact mi_sem_ret (cal := fun _ _ _ => none) mi_in176 (by rfl)

set_option maxRecDepth 100000 in
set_option maxHeartbeats 4000000 in
theorem mp_coming_7 (a2 : Int32) (a3 : Int32) (r0 : 0 ≤ (a2).toInt ∧ (a2).toInt ≤ 2147483647) (r1 : 0 ≤ (a3).toInt ∧ (a3).toInt ≤ 2) : mi_P 89 176 [.int 0, .int a2, .int a3] := by
  refine ⟨.int (-11), mi_G, mi_G, (mi_h89, mi_c89), (mi_h176, mi_c176), 5, 3, rfl, rfl, rfl, by decide, by decide, ?_, ?_⟩
  · refine mi_met_of (y := 89) (q := (mi_h89, mi_c89)) rfl (by decide) (Nat.le_of_ble_eq_true rfl) ?_
    refine mi_sem_steps mi_in89 (mi_calok_none _ _) 1 _ (1, [(0, .ref 0), (1, .int 0), (2, .int a2), (3, .int a3)], [.int a2], (0, 0), mi_G) (by rfl) ?_
    refine mi_sem_b mi_in89 (decide (a2 < 0)) false (mi_ltF (0) (by decide) (by omega)) 13 4 ([(0, .ref 0), (1, .int 0), (2, .int a2), (3, .int a3)], [], (0, 0), mi_G) (by rfl) ?_
    refine mi_sem_steps mi_in89 (mi_calok_none _ _) 3 _ (7, [(0, .ref 0), (1, .int 0), (2, .int a2), (3, .int a3)], [.int 2, .int 0, .int a3], (0, 0), mi_G) (by rfl) ?_
    have hM494 : mi_Met mi_N0 1 mi_h120 [.int a3, .int 0, .int 2] mi_G (some (.int 1)) mi_G := by
      refine mi_met_of (y := 120) (q := (mi_h120, mi_c120)) rfl (by decide) (Nat.le_of_ble_eq_true rfl) ?_
      refine mi_sem_steps mi_in120 (mi_calok_none _ _) 2 _ (2, [(0, .int a3), (1, .int 0), (2, .int 2)], [.int 0, .int a3], (0, 0), mi_G) (by rfl) ?_
      refine mi_sem_b mi_in120 (decide (a3 < 0)) false (mi_ltF (0) (by decide) (by omega)) 14 5 ([(0, .int a3), (1, .int 0), (2, .int 2)], [], (0, 0), mi_G) (by rfl) ?_
      refine mi_sem_steps mi_in120 (mi_calok_none _ _) 2 _ (7, [(0, .int a3), (1, .int 0), (2, .int 2)], [.int 2, .int a3], (0, 0), mi_G) (by rfl) ?_
      refine mi_sem_b mi_in120 (decide (2 < a3)) false (mi_ltF2 (2) (by decide) (by omega)) 14 10 ([(0, .int a3), (1, .int 0), (2, .int 2)], [], (0, 0), mi_G) (by rfl) ?_
      refine mi_sem_steps mi_in120 (mi_calok_none _ _) 2 _ (15, [(0, .int a3), (1, .int 0), (2, .int 2)], [.int 1], (0, 0), mi_G) (by rfl) ?_
      exact mi_sem_ret (cal := fun _ _ _ => none) mi_in120 (by rfl)
    refine mi_sem_call mi_in89 (i := (.invokestatic 74, 3, 120, 0, 9, 0, 152)) (by rfl) (by rfl) hM494 (by decide) ⟨Nat.le_of_ble_eq_true rfl, Nat.le_of_ble_eq_true rfl⟩ ?_
    refine mi_sem_steps mi_in89 (mi_calok_none _ _) 3 _ (17, [(0, .ref 0), (1, .int 0), (2, .int a2), (3, .int a3)], [.int 0, .ref 0], (0, 0), mi_G) (by rfl) ?_
    have hM495 : mi_Met mi_N0 4 mi_h129 [.ref 0, .int 0] mi_G (some (.int (-11))) mi_G := mi_fun_ok mi_N0 4 129 (mi_h129, mi_c129) _ _ _ _ rfl (mi_eR_ok (by decide +kernel))
    refine mi_sem_call mi_in89 (i := (.invokevirtual 144, 3, 129, 0, 9, 0, 208)) (by rfl) (by rfl) hM495 (by decide) ⟨Nat.le_of_ble_eq_true rfl, Nat.le_of_ble_eq_true rfl⟩ ?_
    refine mi_sem_steps mi_in89 (mi_calok_none _ _) 4 _ (29, [(4, .int (-11)), (0, .ref 0), (1, .int 0), (2, .int a2), (3, .int a3)], [.int (-11)], (0, 0), mi_G) (by rfl) ?_
    exact mi_sem_ret (cal := fun _ _ _ => none) mi_in89 (by rfl)
  · refine mi_met_of (y := 176) (q := (mi_h176, mi_c176)) rfl (by decide) (Nat.le_of_ble_eq_true rfl) ?_
    refine mi_sem_steps mi_in176 (mi_calok_none _ _) 1 _ (1, [(0, .ref 116), (1, .int 0), (2, .int a2), (3, .int a3)], [.int 0], (0, 0), mi_G) (by rfl) ?_
    have hM496 : mi_Met mi_N0 2 mi_h133 [.int 0] mi_G (some (.int 1)) mi_G := mi_fun_ok mi_N0 2 133 (mi_h133, mi_c133) _ _ _ _ rfl (mi_eR_ok (by decide +kernel))
    refine mi_sem_call mi_in176 (i := (.invokestatic 127, 3, 133, 0, 9, 0, 382)) (by rfl) (by rfl) hM496 (by decide) ⟨Nat.le_of_ble_eq_true rfl, Nat.le_of_ble_eq_true rfl⟩ ?_
    refine mi_sem_steps mi_in176 (mi_calok_none _ _) 2 _ (8, [(0, .ref 116), (1, .int 0), (2, .int a2), (3, .int a3)], [.int a2], (0, 0), mi_G) (by rfl) ?_
    refine mi_sem_b mi_in176 (decide (a2 < 0)) false (mi_ltF (0) (by decide) (by omega)) 20 11 ([(0, .ref 116), (1, .int 0), (2, .int a2), (3, .int a3)], [], (0, 0), mi_G) (by rfl) ?_
    refine mi_sem_steps mi_in176 (mi_calok_none _ _) 3 _ (14, [(0, .ref 116), (1, .int 0), (2, .int a2), (3, .int a3)], [.int 2, .int 0, .int a3], (0, 0), mi_G) (by rfl) ?_
    have hM497 : mi_Met mi_N0 1 mi_h131 [.int a3, .int 0, .int 2] mi_G (some (.int 1)) mi_G := by
      refine mi_met_of (y := 131) (q := (mi_h131, mi_c131)) rfl (by decide) (Nat.le_of_ble_eq_true rfl) ?_
      refine mi_sem_steps mi_in131 (mi_calok_none _ _) 2 _ (2, [(0, .int a3), (1, .int 0), (2, .int 2)], [.int 0, .int a3], (0, 0), mi_G) (by rfl) ?_
      refine mi_sem_b mi_in131 (decide (a3 < 0)) false (mi_ltF (0) (by decide) (by omega)) 14 5 ([(0, .int a3), (1, .int 0), (2, .int 2)], [], (0, 0), mi_G) (by rfl) ?_
      refine mi_sem_steps mi_in131 (mi_calok_none _ _) 2 _ (7, [(0, .int a3), (1, .int 0), (2, .int 2)], [.int 2, .int a3], (0, 0), mi_G) (by rfl) ?_
      refine mi_sem_b mi_in131 (decide (2 < a3)) false (mi_ltF2 (2) (by decide) (by omega)) 14 10 ([(0, .int a3), (1, .int 0), (2, .int 2)], [], (0, 0), mi_G) (by rfl) ?_
      refine mi_sem_steps mi_in131 (mi_calok_none _ _) 2 _ (15, [(0, .int a3), (1, .int 0), (2, .int 2)], [.int 1], (0, 0), mi_G) (by rfl) ?_
      exact mi_sem_ret (cal := fun _ _ _ => none) mi_in131 (by rfl)
    refine mi_sem_call mi_in176 (i := (.invokestatic 119, 3, 131, 0, 9, 0, 379)) (by rfl) (by rfl) hM497 (by decide) ⟨Nat.le_of_ble_eq_true rfl, Nat.le_of_ble_eq_true rfl⟩ ?_
    refine mi_sem_steps mi_in176 (mi_calok_none _ _) 3 _ (24, [(0, .ref 116), (1, .int 0), (2, .int a2), (3, .int a3)], [.int 0, .ref 116], (0, 0), mi_G) (by rfl) ?_
    have hM498 : mi_Met mi_N0 1 mi_h173 [.ref 116, .int 0] mi_G (some (.int (-11))) mi_G := mi_fun_ok mi_N0 1 173 (mi_h173, mi_c173) _ _ _ _ rfl (mi_eR_ok (by decide +kernel))
    refine mi_sem_call mi_in176 (i := (.invokevirtual 276, 3, 173, 0, 9, 0, 410)) (by rfl) (by rfl) hM498 (by decide) ⟨Nat.le_of_ble_eq_true rfl, Nat.le_of_ble_eq_true rfl⟩ ?_
    refine mi_sem_steps mi_in176 (mi_calok_none _ _) 4 _ (36, [(4, .int (-11)), (0, .ref 116), (1, .int 0), (2, .int a2), (3, .int a3)], [.int (-11)], (0, 0), mi_G) (by rfl) ?_
    exact mi_sem_ret (cal := fun _ _ _ => none) mi_in176 (by rfl)

set_option maxRecDepth 100000 in
set_option maxHeartbeats 4000000 in
theorem mp_coming_8 (a2 : Int32) (a3 : Int32) (r0 : 0 ≤ (a2).toInt ∧ (a2).toInt ≤ 2147483647) (r1 : 0 ≤ (a3).toInt ∧ (a3).toInt ≤ 2) : mi_P 89 176 [.int 1, .int a2, .int a3] := by
  refine ⟨.int (-11), mi_G, mi_G, (mi_h89, mi_c89), (mi_h176, mi_c176), 5, 3, rfl, rfl, rfl, by decide, by decide, ?_, ?_⟩
  · refine mi_met_of (y := 89) (q := (mi_h89, mi_c89)) rfl (by decide) (Nat.le_of_ble_eq_true rfl) ?_
    refine mi_sem_steps mi_in89 (mi_calok_none _ _) 1 _ (1, [(0, .ref 0), (1, .int 1), (2, .int a2), (3, .int a3)], [.int a2], (0, 0), mi_G) (by rfl) ?_
    refine mi_sem_b mi_in89 (decide (a2 < 0)) false (mi_ltF (0) (by decide) (by omega)) 13 4 ([(0, .ref 0), (1, .int 1), (2, .int a2), (3, .int a3)], [], (0, 0), mi_G) (by rfl) ?_
    refine mi_sem_steps mi_in89 (mi_calok_none _ _) 3 _ (7, [(0, .ref 0), (1, .int 1), (2, .int a2), (3, .int a3)], [.int 2, .int 0, .int a3], (0, 0), mi_G) (by rfl) ?_
    have hM502 : mi_Met mi_N0 1 mi_h120 [.int a3, .int 0, .int 2] mi_G (some (.int 1)) mi_G := by
      refine mi_met_of (y := 120) (q := (mi_h120, mi_c120)) rfl (by decide) (Nat.le_of_ble_eq_true rfl) ?_
      refine mi_sem_steps mi_in120 (mi_calok_none _ _) 2 _ (2, [(0, .int a3), (1, .int 0), (2, .int 2)], [.int 0, .int a3], (0, 0), mi_G) (by rfl) ?_
      refine mi_sem_b mi_in120 (decide (a3 < 0)) false (mi_ltF (0) (by decide) (by omega)) 14 5 ([(0, .int a3), (1, .int 0), (2, .int 2)], [], (0, 0), mi_G) (by rfl) ?_
      refine mi_sem_steps mi_in120 (mi_calok_none _ _) 2 _ (7, [(0, .int a3), (1, .int 0), (2, .int 2)], [.int 2, .int a3], (0, 0), mi_G) (by rfl) ?_
      refine mi_sem_b mi_in120 (decide (2 < a3)) false (mi_ltF2 (2) (by decide) (by omega)) 14 10 ([(0, .int a3), (1, .int 0), (2, .int 2)], [], (0, 0), mi_G) (by rfl) ?_
      refine mi_sem_steps mi_in120 (mi_calok_none _ _) 2 _ (15, [(0, .int a3), (1, .int 0), (2, .int 2)], [.int 1], (0, 0), mi_G) (by rfl) ?_
      exact mi_sem_ret (cal := fun _ _ _ => none) mi_in120 (by rfl)
    refine mi_sem_call mi_in89 (i := (.invokestatic 74, 3, 120, 0, 9, 0, 152)) (by rfl) (by rfl) hM502 (by decide) ⟨Nat.le_of_ble_eq_true rfl, Nat.le_of_ble_eq_true rfl⟩ ?_
    refine mi_sem_steps mi_in89 (mi_calok_none _ _) 3 _ (17, [(0, .ref 0), (1, .int 1), (2, .int a2), (3, .int a3)], [.int 1, .ref 0], (0, 0), mi_G) (by rfl) ?_
    have hM503 : mi_Met mi_N0 4 mi_h129 [.ref 0, .int 1] mi_G (some (.int (-11))) mi_G := mi_fun_ok mi_N0 4 129 (mi_h129, mi_c129) _ _ _ _ rfl (mi_eR_ok (by decide +kernel))
    refine mi_sem_call mi_in89 (i := (.invokevirtual 144, 3, 129, 0, 9, 0, 208)) (by rfl) (by rfl) hM503 (by decide) ⟨Nat.le_of_ble_eq_true rfl, Nat.le_of_ble_eq_true rfl⟩ ?_
    refine mi_sem_steps mi_in89 (mi_calok_none _ _) 4 _ (29, [(4, .int (-11)), (0, .ref 0), (1, .int 1), (2, .int a2), (3, .int a3)], [.int (-11)], (0, 0), mi_G) (by rfl) ?_
    exact mi_sem_ret (cal := fun _ _ _ => none) mi_in89 (by rfl)
  · refine mi_met_of (y := 176) (q := (mi_h176, mi_c176)) rfl (by decide) (Nat.le_of_ble_eq_true rfl) ?_
    refine mi_sem_steps mi_in176 (mi_calok_none _ _) 1 _ (1, [(0, .ref 116), (1, .int 1), (2, .int a2), (3, .int a3)], [.int 1], (0, 0), mi_G) (by rfl) ?_
    have hM504 : mi_Met mi_N0 2 mi_h133 [.int 1] mi_G (some (.int 1)) mi_G := mi_fun_ok mi_N0 2 133 (mi_h133, mi_c133) _ _ _ _ rfl (mi_eR_ok (by decide +kernel))
    refine mi_sem_call mi_in176 (i := (.invokestatic 127, 3, 133, 0, 9, 0, 382)) (by rfl) (by rfl) hM504 (by decide) ⟨Nat.le_of_ble_eq_true rfl, Nat.le_of_ble_eq_true rfl⟩ ?_
    refine mi_sem_steps mi_in176 (mi_calok_none _ _) 2 _ (8, [(0, .ref 116), (1, .int 1), (2, .int a2), (3, .int a3)], [.int a2], (0, 0), mi_G) (by rfl) ?_
    refine mi_sem_b mi_in176 (decide (a2 < 0)) false (mi_ltF (0) (by decide) (by omega)) 20 11 ([(0, .ref 116), (1, .int 1), (2, .int a2), (3, .int a3)], [], (0, 0), mi_G) (by rfl) ?_
    refine mi_sem_steps mi_in176 (mi_calok_none _ _) 3 _ (14, [(0, .ref 116), (1, .int 1), (2, .int a2), (3, .int a3)], [.int 2, .int 0, .int a3], (0, 0), mi_G) (by rfl) ?_
    have hM505 : mi_Met mi_N0 1 mi_h131 [.int a3, .int 0, .int 2] mi_G (some (.int 1)) mi_G := by
      refine mi_met_of (y := 131) (q := (mi_h131, mi_c131)) rfl (by decide) (Nat.le_of_ble_eq_true rfl) ?_
      refine mi_sem_steps mi_in131 (mi_calok_none _ _) 2 _ (2, [(0, .int a3), (1, .int 0), (2, .int 2)], [.int 0, .int a3], (0, 0), mi_G) (by rfl) ?_
      refine mi_sem_b mi_in131 (decide (a3 < 0)) false (mi_ltF (0) (by decide) (by omega)) 14 5 ([(0, .int a3), (1, .int 0), (2, .int 2)], [], (0, 0), mi_G) (by rfl) ?_
      refine mi_sem_steps mi_in131 (mi_calok_none _ _) 2 _ (7, [(0, .int a3), (1, .int 0), (2, .int 2)], [.int 2, .int a3], (0, 0), mi_G) (by rfl) ?_
      refine mi_sem_b mi_in131 (decide (2 < a3)) false (mi_ltF2 (2) (by decide) (by omega)) 14 10 ([(0, .int a3), (1, .int 0), (2, .int 2)], [], (0, 0), mi_G) (by rfl) ?_
      refine mi_sem_steps mi_in131 (mi_calok_none _ _) 2 _ (15, [(0, .int a3), (1, .int 0), (2, .int 2)], [.int 1], (0, 0), mi_G) (by rfl) ?_
      exact mi_sem_ret (cal := fun _ _ _ => none) mi_in131 (by rfl)
    refine mi_sem_call mi_in176 (i := (.invokestatic 119, 3, 131, 0, 9, 0, 379)) (by rfl) (by rfl) hM505 (by decide) ⟨Nat.le_of_ble_eq_true rfl, Nat.le_of_ble_eq_true rfl⟩ ?_
    refine mi_sem_steps mi_in176 (mi_calok_none _ _) 3 _ (24, [(0, .ref 116), (1, .int 1), (2, .int a2), (3, .int a3)], [.int 1, .ref 116], (0, 0), mi_G) (by rfl) ?_
    have hM506 : mi_Met mi_N0 1 mi_h173 [.ref 116, .int 1] mi_G (some (.int (-11))) mi_G := mi_fun_ok mi_N0 1 173 (mi_h173, mi_c173) _ _ _ _ rfl (mi_eR_ok (by decide +kernel))
    refine mi_sem_call mi_in176 (i := (.invokevirtual 276, 3, 173, 0, 9, 0, 410)) (by rfl) (by rfl) hM506 (by decide) ⟨Nat.le_of_ble_eq_true rfl, Nat.le_of_ble_eq_true rfl⟩ ?_
    refine mi_sem_steps mi_in176 (mi_calok_none _ _) 4 _ (36, [(4, .int (-11)), (0, .ref 116), (1, .int 1), (2, .int a2), (3, .int a3)], [.int (-11)], (0, 0), mi_G) (by rfl) ?_
    exact mi_sem_ret (cal := fun _ _ _ => none) mi_in176 (by rfl)

set_option maxRecDepth 100000 in
set_option maxHeartbeats 4000000 in
theorem mp_coming_9 (a2 : Int32) (a3 : Int32) (r0 : 0 ≤ (a2).toInt ∧ (a2).toInt ≤ 2147483647) (r1 : 0 ≤ (a3).toInt ∧ (a3).toInt ≤ 2) : mi_P 89 176 [.int 2, .int a2, .int a3] := by
  refine ⟨.int (-11), mi_G, mi_G, (mi_h89, mi_c89), (mi_h176, mi_c176), 5, 3, rfl, rfl, rfl, by decide, by decide, ?_, ?_⟩
  · refine mi_met_of (y := 89) (q := (mi_h89, mi_c89)) rfl (by decide) (Nat.le_of_ble_eq_true rfl) ?_
    refine mi_sem_steps mi_in89 (mi_calok_none _ _) 1 _ (1, [(0, .ref 0), (1, .int 2), (2, .int a2), (3, .int a3)], [.int a2], (0, 0), mi_G) (by rfl) ?_
    refine mi_sem_b mi_in89 (decide (a2 < 0)) false (mi_ltF (0) (by decide) (by omega)) 13 4 ([(0, .ref 0), (1, .int 2), (2, .int a2), (3, .int a3)], [], (0, 0), mi_G) (by rfl) ?_
    refine mi_sem_steps mi_in89 (mi_calok_none _ _) 3 _ (7, [(0, .ref 0), (1, .int 2), (2, .int a2), (3, .int a3)], [.int 2, .int 0, .int a3], (0, 0), mi_G) (by rfl) ?_
    have hM510 : mi_Met mi_N0 1 mi_h120 [.int a3, .int 0, .int 2] mi_G (some (.int 1)) mi_G := by
      refine mi_met_of (y := 120) (q := (mi_h120, mi_c120)) rfl (by decide) (Nat.le_of_ble_eq_true rfl) ?_
      refine mi_sem_steps mi_in120 (mi_calok_none _ _) 2 _ (2, [(0, .int a3), (1, .int 0), (2, .int 2)], [.int 0, .int a3], (0, 0), mi_G) (by rfl) ?_
      refine mi_sem_b mi_in120 (decide (a3 < 0)) false (mi_ltF (0) (by decide) (by omega)) 14 5 ([(0, .int a3), (1, .int 0), (2, .int 2)], [], (0, 0), mi_G) (by rfl) ?_
      refine mi_sem_steps mi_in120 (mi_calok_none _ _) 2 _ (7, [(0, .int a3), (1, .int 0), (2, .int 2)], [.int 2, .int a3], (0, 0), mi_G) (by rfl) ?_
      refine mi_sem_b mi_in120 (decide (2 < a3)) false (mi_ltF2 (2) (by decide) (by omega)) 14 10 ([(0, .int a3), (1, .int 0), (2, .int 2)], [], (0, 0), mi_G) (by rfl) ?_
      refine mi_sem_steps mi_in120 (mi_calok_none _ _) 2 _ (15, [(0, .int a3), (1, .int 0), (2, .int 2)], [.int 1], (0, 0), mi_G) (by rfl) ?_
      exact mi_sem_ret (cal := fun _ _ _ => none) mi_in120 (by rfl)
    refine mi_sem_call mi_in89 (i := (.invokestatic 74, 3, 120, 0, 9, 0, 152)) (by rfl) (by rfl) hM510 (by decide) ⟨Nat.le_of_ble_eq_true rfl, Nat.le_of_ble_eq_true rfl⟩ ?_
    refine mi_sem_steps mi_in89 (mi_calok_none _ _) 3 _ (17, [(0, .ref 0), (1, .int 2), (2, .int a2), (3, .int a3)], [.int 2, .ref 0], (0, 0), mi_G) (by rfl) ?_
    have hM511 : mi_Met mi_N0 4 mi_h129 [.ref 0, .int 2] mi_G (some (.int (-11))) mi_G := mi_fun_ok mi_N0 4 129 (mi_h129, mi_c129) _ _ _ _ rfl (mi_eR_ok (by decide +kernel))
    refine mi_sem_call mi_in89 (i := (.invokevirtual 144, 3, 129, 0, 9, 0, 208)) (by rfl) (by rfl) hM511 (by decide) ⟨Nat.le_of_ble_eq_true rfl, Nat.le_of_ble_eq_true rfl⟩ ?_
    refine mi_sem_steps mi_in89 (mi_calok_none _ _) 4 _ (29, [(4, .int (-11)), (0, .ref 0), (1, .int 2), (2, .int a2), (3, .int a3)], [.int (-11)], (0, 0), mi_G) (by rfl) ?_
    exact mi_sem_ret (cal := fun _ _ _ => none) mi_in89 (by rfl)
  · refine mi_met_of (y := 176) (q := (mi_h176, mi_c176)) rfl (by decide) (Nat.le_of_ble_eq_true rfl) ?_
    refine mi_sem_steps mi_in176 (mi_calok_none _ _) 1 _ (1, [(0, .ref 116), (1, .int 2), (2, .int a2), (3, .int a3)], [.int 2], (0, 0), mi_G) (by rfl) ?_
    have hM512 : mi_Met mi_N0 2 mi_h133 [.int 2] mi_G (some (.int 1)) mi_G := mi_fun_ok mi_N0 2 133 (mi_h133, mi_c133) _ _ _ _ rfl (mi_eR_ok (by decide +kernel))
    refine mi_sem_call mi_in176 (i := (.invokestatic 127, 3, 133, 0, 9, 0, 382)) (by rfl) (by rfl) hM512 (by decide) ⟨Nat.le_of_ble_eq_true rfl, Nat.le_of_ble_eq_true rfl⟩ ?_
    refine mi_sem_steps mi_in176 (mi_calok_none _ _) 2 _ (8, [(0, .ref 116), (1, .int 2), (2, .int a2), (3, .int a3)], [.int a2], (0, 0), mi_G) (by rfl) ?_
    refine mi_sem_b mi_in176 (decide (a2 < 0)) false (mi_ltF (0) (by decide) (by omega)) 20 11 ([(0, .ref 116), (1, .int 2), (2, .int a2), (3, .int a3)], [], (0, 0), mi_G) (by rfl) ?_
    refine mi_sem_steps mi_in176 (mi_calok_none _ _) 3 _ (14, [(0, .ref 116), (1, .int 2), (2, .int a2), (3, .int a3)], [.int 2, .int 0, .int a3], (0, 0), mi_G) (by rfl) ?_
    have hM513 : mi_Met mi_N0 1 mi_h131 [.int a3, .int 0, .int 2] mi_G (some (.int 1)) mi_G := by
      refine mi_met_of (y := 131) (q := (mi_h131, mi_c131)) rfl (by decide) (Nat.le_of_ble_eq_true rfl) ?_
      refine mi_sem_steps mi_in131 (mi_calok_none _ _) 2 _ (2, [(0, .int a3), (1, .int 0), (2, .int 2)], [.int 0, .int a3], (0, 0), mi_G) (by rfl) ?_
      refine mi_sem_b mi_in131 (decide (a3 < 0)) false (mi_ltF (0) (by decide) (by omega)) 14 5 ([(0, .int a3), (1, .int 0), (2, .int 2)], [], (0, 0), mi_G) (by rfl) ?_
      refine mi_sem_steps mi_in131 (mi_calok_none _ _) 2 _ (7, [(0, .int a3), (1, .int 0), (2, .int 2)], [.int 2, .int a3], (0, 0), mi_G) (by rfl) ?_
      refine mi_sem_b mi_in131 (decide (2 < a3)) false (mi_ltF2 (2) (by decide) (by omega)) 14 10 ([(0, .int a3), (1, .int 0), (2, .int 2)], [], (0, 0), mi_G) (by rfl) ?_
      refine mi_sem_steps mi_in131 (mi_calok_none _ _) 2 _ (15, [(0, .int a3), (1, .int 0), (2, .int 2)], [.int 1], (0, 0), mi_G) (by rfl) ?_
      exact mi_sem_ret (cal := fun _ _ _ => none) mi_in131 (by rfl)
    refine mi_sem_call mi_in176 (i := (.invokestatic 119, 3, 131, 0, 9, 0, 379)) (by rfl) (by rfl) hM513 (by decide) ⟨Nat.le_of_ble_eq_true rfl, Nat.le_of_ble_eq_true rfl⟩ ?_
    refine mi_sem_steps mi_in176 (mi_calok_none _ _) 3 _ (24, [(0, .ref 116), (1, .int 2), (2, .int a2), (3, .int a3)], [.int 2, .ref 116], (0, 0), mi_G) (by rfl) ?_
    have hM514 : mi_Met mi_N0 1 mi_h173 [.ref 116, .int 2] mi_G (some (.int (-11))) mi_G := mi_fun_ok mi_N0 1 173 (mi_h173, mi_c173) _ _ _ _ rfl (mi_eR_ok (by decide +kernel))
    refine mi_sem_call mi_in176 (i := (.invokevirtual 276, 3, 173, 0, 9, 0, 410)) (by rfl) (by rfl) hM514 (by decide) ⟨Nat.le_of_ble_eq_true rfl, Nat.le_of_ble_eq_true rfl⟩ ?_
    refine mi_sem_steps mi_in176 (mi_calok_none _ _) 4 _ (36, [(4, .int (-11)), (0, .ref 116), (1, .int 2), (2, .int a2), (3, .int a3)], [.int (-11)], (0, 0), mi_G) (by rfl) ?_
    exact mi_sem_ret (cal := fun _ _ _ => none) mi_in176 (by rfl)

set_option maxRecDepth 100000 in
set_option maxHeartbeats 4000000 in
theorem mp_coming_10 (a2 : Int32) (a3 : Int32) (r0 : 0 ≤ (a2).toInt ∧ (a2).toInt ≤ 2147483647) (r1 : 0 ≤ (a3).toInt ∧ (a3).toInt ≤ 2) : mi_P 89 176 [.int 3, .int a2, .int a3] := by
  refine ⟨.int (-11), mi_G, mi_G, (mi_h89, mi_c89), (mi_h176, mi_c176), 5, 3, rfl, rfl, rfl, by decide, by decide, ?_, ?_⟩
  · refine mi_met_of (y := 89) (q := (mi_h89, mi_c89)) rfl (by decide) (Nat.le_of_ble_eq_true rfl) ?_
    refine mi_sem_steps mi_in89 (mi_calok_none _ _) 1 _ (1, [(0, .ref 0), (1, .int 3), (2, .int a2), (3, .int a3)], [.int a2], (0, 0), mi_G) (by rfl) ?_
    refine mi_sem_b mi_in89 (decide (a2 < 0)) false (mi_ltF (0) (by decide) (by omega)) 13 4 ([(0, .ref 0), (1, .int 3), (2, .int a2), (3, .int a3)], [], (0, 0), mi_G) (by rfl) ?_
    refine mi_sem_steps mi_in89 (mi_calok_none _ _) 3 _ (7, [(0, .ref 0), (1, .int 3), (2, .int a2), (3, .int a3)], [.int 2, .int 0, .int a3], (0, 0), mi_G) (by rfl) ?_
    have hM518 : mi_Met mi_N0 1 mi_h120 [.int a3, .int 0, .int 2] mi_G (some (.int 1)) mi_G := by
      refine mi_met_of (y := 120) (q := (mi_h120, mi_c120)) rfl (by decide) (Nat.le_of_ble_eq_true rfl) ?_
      refine mi_sem_steps mi_in120 (mi_calok_none _ _) 2 _ (2, [(0, .int a3), (1, .int 0), (2, .int 2)], [.int 0, .int a3], (0, 0), mi_G) (by rfl) ?_
      refine mi_sem_b mi_in120 (decide (a3 < 0)) false (mi_ltF (0) (by decide) (by omega)) 14 5 ([(0, .int a3), (1, .int 0), (2, .int 2)], [], (0, 0), mi_G) (by rfl) ?_
      refine mi_sem_steps mi_in120 (mi_calok_none _ _) 2 _ (7, [(0, .int a3), (1, .int 0), (2, .int 2)], [.int 2, .int a3], (0, 0), mi_G) (by rfl) ?_
      refine mi_sem_b mi_in120 (decide (2 < a3)) false (mi_ltF2 (2) (by decide) (by omega)) 14 10 ([(0, .int a3), (1, .int 0), (2, .int 2)], [], (0, 0), mi_G) (by rfl) ?_
      refine mi_sem_steps mi_in120 (mi_calok_none _ _) 2 _ (15, [(0, .int a3), (1, .int 0), (2, .int 2)], [.int 1], (0, 0), mi_G) (by rfl) ?_
      exact mi_sem_ret (cal := fun _ _ _ => none) mi_in120 (by rfl)
    refine mi_sem_call mi_in89 (i := (.invokestatic 74, 3, 120, 0, 9, 0, 152)) (by rfl) (by rfl) hM518 (by decide) ⟨Nat.le_of_ble_eq_true rfl, Nat.le_of_ble_eq_true rfl⟩ ?_
    refine mi_sem_steps mi_in89 (mi_calok_none _ _) 3 _ (17, [(0, .ref 0), (1, .int 3), (2, .int a2), (3, .int a3)], [.int 3, .ref 0], (0, 0), mi_G) (by rfl) ?_
    have hM519 : mi_Met mi_N0 4 mi_h129 [.ref 0, .int 3] mi_G (some (.int (-11))) mi_G := mi_fun_ok mi_N0 4 129 (mi_h129, mi_c129) _ _ _ _ rfl (mi_eR_ok (by decide +kernel))
    refine mi_sem_call mi_in89 (i := (.invokevirtual 144, 3, 129, 0, 9, 0, 208)) (by rfl) (by rfl) hM519 (by decide) ⟨Nat.le_of_ble_eq_true rfl, Nat.le_of_ble_eq_true rfl⟩ ?_
    refine mi_sem_steps mi_in89 (mi_calok_none _ _) 4 _ (29, [(4, .int (-11)), (0, .ref 0), (1, .int 3), (2, .int a2), (3, .int a3)], [.int (-11)], (0, 0), mi_G) (by rfl) ?_
    exact mi_sem_ret (cal := fun _ _ _ => none) mi_in89 (by rfl)
  · refine mi_met_of (y := 176) (q := (mi_h176, mi_c176)) rfl (by decide) (Nat.le_of_ble_eq_true rfl) ?_
    refine mi_sem_steps mi_in176 (mi_calok_none _ _) 1 _ (1, [(0, .ref 116), (1, .int 3), (2, .int a2), (3, .int a3)], [.int 3], (0, 0), mi_G) (by rfl) ?_
    have hM520 : mi_Met mi_N0 2 mi_h133 [.int 3] mi_G (some (.int 1)) mi_G := mi_fun_ok mi_N0 2 133 (mi_h133, mi_c133) _ _ _ _ rfl (mi_eR_ok (by decide +kernel))
    refine mi_sem_call mi_in176 (i := (.invokestatic 127, 3, 133, 0, 9, 0, 382)) (by rfl) (by rfl) hM520 (by decide) ⟨Nat.le_of_ble_eq_true rfl, Nat.le_of_ble_eq_true rfl⟩ ?_
    refine mi_sem_steps mi_in176 (mi_calok_none _ _) 2 _ (8, [(0, .ref 116), (1, .int 3), (2, .int a2), (3, .int a3)], [.int a2], (0, 0), mi_G) (by rfl) ?_
    refine mi_sem_b mi_in176 (decide (a2 < 0)) false (mi_ltF (0) (by decide) (by omega)) 20 11 ([(0, .ref 116), (1, .int 3), (2, .int a2), (3, .int a3)], [], (0, 0), mi_G) (by rfl) ?_
    refine mi_sem_steps mi_in176 (mi_calok_none _ _) 3 _ (14, [(0, .ref 116), (1, .int 3), (2, .int a2), (3, .int a3)], [.int 2, .int 0, .int a3], (0, 0), mi_G) (by rfl) ?_
    have hM521 : mi_Met mi_N0 1 mi_h131 [.int a3, .int 0, .int 2] mi_G (some (.int 1)) mi_G := by
      refine mi_met_of (y := 131) (q := (mi_h131, mi_c131)) rfl (by decide) (Nat.le_of_ble_eq_true rfl) ?_
      refine mi_sem_steps mi_in131 (mi_calok_none _ _) 2 _ (2, [(0, .int a3), (1, .int 0), (2, .int 2)], [.int 0, .int a3], (0, 0), mi_G) (by rfl) ?_
      refine mi_sem_b mi_in131 (decide (a3 < 0)) false (mi_ltF (0) (by decide) (by omega)) 14 5 ([(0, .int a3), (1, .int 0), (2, .int 2)], [], (0, 0), mi_G) (by rfl) ?_
      refine mi_sem_steps mi_in131 (mi_calok_none _ _) 2 _ (7, [(0, .int a3), (1, .int 0), (2, .int 2)], [.int 2, .int a3], (0, 0), mi_G) (by rfl) ?_
      refine mi_sem_b mi_in131 (decide (2 < a3)) false (mi_ltF2 (2) (by decide) (by omega)) 14 10 ([(0, .int a3), (1, .int 0), (2, .int 2)], [], (0, 0), mi_G) (by rfl) ?_
      refine mi_sem_steps mi_in131 (mi_calok_none _ _) 2 _ (15, [(0, .int a3), (1, .int 0), (2, .int 2)], [.int 1], (0, 0), mi_G) (by rfl) ?_
      exact mi_sem_ret (cal := fun _ _ _ => none) mi_in131 (by rfl)
    refine mi_sem_call mi_in176 (i := (.invokestatic 119, 3, 131, 0, 9, 0, 379)) (by rfl) (by rfl) hM521 (by decide) ⟨Nat.le_of_ble_eq_true rfl, Nat.le_of_ble_eq_true rfl⟩ ?_
    refine mi_sem_steps mi_in176 (mi_calok_none _ _) 3 _ (24, [(0, .ref 116), (1, .int 3), (2, .int a2), (3, .int a3)], [.int 3, .ref 116], (0, 0), mi_G) (by rfl) ?_
    have hM522 : mi_Met mi_N0 1 mi_h173 [.ref 116, .int 3] mi_G (some (.int (-11))) mi_G := mi_fun_ok mi_N0 1 173 (mi_h173, mi_c173) _ _ _ _ rfl (mi_eR_ok (by decide +kernel))
    refine mi_sem_call mi_in176 (i := (.invokevirtual 276, 3, 173, 0, 9, 0, 410)) (by rfl) (by rfl) hM522 (by decide) ⟨Nat.le_of_ble_eq_true rfl, Nat.le_of_ble_eq_true rfl⟩ ?_
    refine mi_sem_steps mi_in176 (mi_calok_none _ _) 4 _ (36, [(4, .int (-11)), (0, .ref 116), (1, .int 3), (2, .int a2), (3, .int a3)], [.int (-11)], (0, 0), mi_G) (by rfl) ?_
    exact mi_sem_ret (cal := fun _ _ _ => none) mi_in176 (by rfl)

set_option maxRecDepth 100000 in
set_option maxHeartbeats 4000000 in
theorem mp_coming_11 (a2 : Int32) (a3 : Int32) (r0 : 0 ≤ (a2).toInt ∧ (a2).toInt ≤ 2147483647) (r1 : 0 ≤ (a3).toInt ∧ (a3).toInt ≤ 2) : mi_P 89 176 [.int 4, .int a2, .int a3] := by
  refine ⟨.int (-11), mi_G, mi_G, (mi_h89, mi_c89), (mi_h176, mi_c176), 5, 3, rfl, rfl, rfl, by decide, by decide, ?_, ?_⟩
  · refine mi_met_of (y := 89) (q := (mi_h89, mi_c89)) rfl (by decide) (Nat.le_of_ble_eq_true rfl) ?_
    refine mi_sem_steps mi_in89 (mi_calok_none _ _) 1 _ (1, [(0, .ref 0), (1, .int 4), (2, .int a2), (3, .int a3)], [.int a2], (0, 0), mi_G) (by rfl) ?_
    refine mi_sem_b mi_in89 (decide (a2 < 0)) false (mi_ltF (0) (by decide) (by omega)) 13 4 ([(0, .ref 0), (1, .int 4), (2, .int a2), (3, .int a3)], [], (0, 0), mi_G) (by rfl) ?_
    refine mi_sem_steps mi_in89 (mi_calok_none _ _) 3 _ (7, [(0, .ref 0), (1, .int 4), (2, .int a2), (3, .int a3)], [.int 2, .int 0, .int a3], (0, 0), mi_G) (by rfl) ?_
    have hM526 : mi_Met mi_N0 1 mi_h120 [.int a3, .int 0, .int 2] mi_G (some (.int 1)) mi_G := by
      refine mi_met_of (y := 120) (q := (mi_h120, mi_c120)) rfl (by decide) (Nat.le_of_ble_eq_true rfl) ?_
      refine mi_sem_steps mi_in120 (mi_calok_none _ _) 2 _ (2, [(0, .int a3), (1, .int 0), (2, .int 2)], [.int 0, .int a3], (0, 0), mi_G) (by rfl) ?_
      refine mi_sem_b mi_in120 (decide (a3 < 0)) false (mi_ltF (0) (by decide) (by omega)) 14 5 ([(0, .int a3), (1, .int 0), (2, .int 2)], [], (0, 0), mi_G) (by rfl) ?_
      refine mi_sem_steps mi_in120 (mi_calok_none _ _) 2 _ (7, [(0, .int a3), (1, .int 0), (2, .int 2)], [.int 2, .int a3], (0, 0), mi_G) (by rfl) ?_
      refine mi_sem_b mi_in120 (decide (2 < a3)) false (mi_ltF2 (2) (by decide) (by omega)) 14 10 ([(0, .int a3), (1, .int 0), (2, .int 2)], [], (0, 0), mi_G) (by rfl) ?_
      refine mi_sem_steps mi_in120 (mi_calok_none _ _) 2 _ (15, [(0, .int a3), (1, .int 0), (2, .int 2)], [.int 1], (0, 0), mi_G) (by rfl) ?_
      exact mi_sem_ret (cal := fun _ _ _ => none) mi_in120 (by rfl)
    refine mi_sem_call mi_in89 (i := (.invokestatic 74, 3, 120, 0, 9, 0, 152)) (by rfl) (by rfl) hM526 (by decide) ⟨Nat.le_of_ble_eq_true rfl, Nat.le_of_ble_eq_true rfl⟩ ?_
    refine mi_sem_steps mi_in89 (mi_calok_none _ _) 3 _ (17, [(0, .ref 0), (1, .int 4), (2, .int a2), (3, .int a3)], [.int 4, .ref 0], (0, 0), mi_G) (by rfl) ?_
    have hM527 : mi_Met mi_N0 4 mi_h129 [.ref 0, .int 4] mi_G (some (.int (-11))) mi_G := mi_fun_ok mi_N0 4 129 (mi_h129, mi_c129) _ _ _ _ rfl (mi_eR_ok (by decide +kernel))
    refine mi_sem_call mi_in89 (i := (.invokevirtual 144, 3, 129, 0, 9, 0, 208)) (by rfl) (by rfl) hM527 (by decide) ⟨Nat.le_of_ble_eq_true rfl, Nat.le_of_ble_eq_true rfl⟩ ?_
    refine mi_sem_steps mi_in89 (mi_calok_none _ _) 4 _ (29, [(4, .int (-11)), (0, .ref 0), (1, .int 4), (2, .int a2), (3, .int a3)], [.int (-11)], (0, 0), mi_G) (by rfl) ?_
    exact mi_sem_ret (cal := fun _ _ _ => none) mi_in89 (by rfl)
  · refine mi_met_of (y := 176) (q := (mi_h176, mi_c176)) rfl (by decide) (Nat.le_of_ble_eq_true rfl) ?_
    refine mi_sem_steps mi_in176 (mi_calok_none _ _) 1 _ (1, [(0, .ref 116), (1, .int 4), (2, .int a2), (3, .int a3)], [.int 4], (0, 0), mi_G) (by rfl) ?_
    have hM528 : mi_Met mi_N0 2 mi_h133 [.int 4] mi_G (some (.int 1)) mi_G := mi_fun_ok mi_N0 2 133 (mi_h133, mi_c133) _ _ _ _ rfl (mi_eR_ok (by decide +kernel))
    refine mi_sem_call mi_in176 (i := (.invokestatic 127, 3, 133, 0, 9, 0, 382)) (by rfl) (by rfl) hM528 (by decide) ⟨Nat.le_of_ble_eq_true rfl, Nat.le_of_ble_eq_true rfl⟩ ?_
    refine mi_sem_steps mi_in176 (mi_calok_none _ _) 2 _ (8, [(0, .ref 116), (1, .int 4), (2, .int a2), (3, .int a3)], [.int a2], (0, 0), mi_G) (by rfl) ?_
    refine mi_sem_b mi_in176 (decide (a2 < 0)) false (mi_ltF (0) (by decide) (by omega)) 20 11 ([(0, .ref 116), (1, .int 4), (2, .int a2), (3, .int a3)], [], (0, 0), mi_G) (by rfl) ?_
    refine mi_sem_steps mi_in176 (mi_calok_none _ _) 3 _ (14, [(0, .ref 116), (1, .int 4), (2, .int a2), (3, .int a3)], [.int 2, .int 0, .int a3], (0, 0), mi_G) (by rfl) ?_
    have hM529 : mi_Met mi_N0 1 mi_h131 [.int a3, .int 0, .int 2] mi_G (some (.int 1)) mi_G := by
      refine mi_met_of (y := 131) (q := (mi_h131, mi_c131)) rfl (by decide) (Nat.le_of_ble_eq_true rfl) ?_
      refine mi_sem_steps mi_in131 (mi_calok_none _ _) 2 _ (2, [(0, .int a3), (1, .int 0), (2, .int 2)], [.int 0, .int a3], (0, 0), mi_G) (by rfl) ?_
      refine mi_sem_b mi_in131 (decide (a3 < 0)) false (mi_ltF (0) (by decide) (by omega)) 14 5 ([(0, .int a3), (1, .int 0), (2, .int 2)], [], (0, 0), mi_G) (by rfl) ?_
      refine mi_sem_steps mi_in131 (mi_calok_none _ _) 2 _ (7, [(0, .int a3), (1, .int 0), (2, .int 2)], [.int 2, .int a3], (0, 0), mi_G) (by rfl) ?_
      refine mi_sem_b mi_in131 (decide (2 < a3)) false (mi_ltF2 (2) (by decide) (by omega)) 14 10 ([(0, .int a3), (1, .int 0), (2, .int 2)], [], (0, 0), mi_G) (by rfl) ?_
      refine mi_sem_steps mi_in131 (mi_calok_none _ _) 2 _ (15, [(0, .int a3), (1, .int 0), (2, .int 2)], [.int 1], (0, 0), mi_G) (by rfl) ?_
      exact mi_sem_ret (cal := fun _ _ _ => none) mi_in131 (by rfl)
    refine mi_sem_call mi_in176 (i := (.invokestatic 119, 3, 131, 0, 9, 0, 379)) (by rfl) (by rfl) hM529 (by decide) ⟨Nat.le_of_ble_eq_true rfl, Nat.le_of_ble_eq_true rfl⟩ ?_
    refine mi_sem_steps mi_in176 (mi_calok_none _ _) 3 _ (24, [(0, .ref 116), (1, .int 4), (2, .int a2), (3, .int a3)], [.int 4, .ref 116], (0, 0), mi_G) (by rfl) ?_
    have hM530 : mi_Met mi_N0 1 mi_h173 [.ref 116, .int 4] mi_G (some (.int (-11))) mi_G := mi_fun_ok mi_N0 1 173 (mi_h173, mi_c173) _ _ _ _ rfl (mi_eR_ok (by decide +kernel))
    refine mi_sem_call mi_in176 (i := (.invokevirtual 276, 3, 173, 0, 9, 0, 410)) (by rfl) (by rfl) hM530 (by decide) ⟨Nat.le_of_ble_eq_true rfl, Nat.le_of_ble_eq_true rfl⟩ ?_
    refine mi_sem_steps mi_in176 (mi_calok_none _ _) 4 _ (36, [(4, .int (-11)), (0, .ref 116), (1, .int 4), (2, .int a2), (3, .int a3)], [.int (-11)], (0, 0), mi_G) (by rfl) ?_
    exact mi_sem_ret (cal := fun _ _ _ => none) mi_in176 (by rfl)

set_option maxRecDepth 100000 in
set_option maxHeartbeats 4000000 in
theorem mp_coming_12 (a2 : Int32) (a3 : Int32) (r0 : 0 ≤ (a2).toInt ∧ (a2).toInt ≤ 2147483647) (r1 : 0 ≤ (a3).toInt ∧ (a3).toInt ≤ 2) : mi_P 89 176 [.int 5, .int a2, .int a3] := by
  refine ⟨.int (-11), mi_G, mi_G, (mi_h89, mi_c89), (mi_h176, mi_c176), 5, 3, rfl, rfl, rfl, by decide, by decide, ?_, ?_⟩
  · refine mi_met_of (y := 89) (q := (mi_h89, mi_c89)) rfl (by decide) (Nat.le_of_ble_eq_true rfl) ?_
    refine mi_sem_steps mi_in89 (mi_calok_none _ _) 1 _ (1, [(0, .ref 0), (1, .int 5), (2, .int a2), (3, .int a3)], [.int a2], (0, 0), mi_G) (by rfl) ?_
    refine mi_sem_b mi_in89 (decide (a2 < 0)) false (mi_ltF (0) (by decide) (by omega)) 13 4 ([(0, .ref 0), (1, .int 5), (2, .int a2), (3, .int a3)], [], (0, 0), mi_G) (by rfl) ?_
    refine mi_sem_steps mi_in89 (mi_calok_none _ _) 3 _ (7, [(0, .ref 0), (1, .int 5), (2, .int a2), (3, .int a3)], [.int 2, .int 0, .int a3], (0, 0), mi_G) (by rfl) ?_
    have hM531 : mi_Met mi_N0 1 mi_h120 [.int a3, .int 0, .int 2] mi_G (some (.int 1)) mi_G := by
      refine mi_met_of (y := 120) (q := (mi_h120, mi_c120)) rfl (by decide) (Nat.le_of_ble_eq_true rfl) ?_
      refine mi_sem_steps mi_in120 (mi_calok_none _ _) 2 _ (2, [(0, .int a3), (1, .int 0), (2, .int 2)], [.int 0, .int a3], (0, 0), mi_G) (by rfl) ?_
      refine mi_sem_b mi_in120 (decide (a3 < 0)) false (mi_ltF (0) (by decide) (by omega)) 14 5 ([(0, .int a3), (1, .int 0), (2, .int 2)], [], (0, 0), mi_G) (by rfl) ?_
      refine mi_sem_steps mi_in120 (mi_calok_none _ _) 2 _ (7, [(0, .int a3), (1, .int 0), (2, .int 2)], [.int 2, .int a3], (0, 0), mi_G) (by rfl) ?_
      refine mi_sem_b mi_in120 (decide (2 < a3)) false (mi_ltF2 (2) (by decide) (by omega)) 14 10 ([(0, .int a3), (1, .int 0), (2, .int 2)], [], (0, 0), mi_G) (by rfl) ?_
      refine mi_sem_steps mi_in120 (mi_calok_none _ _) 2 _ (15, [(0, .int a3), (1, .int 0), (2, .int 2)], [.int 1], (0, 0), mi_G) (by rfl) ?_
      exact mi_sem_ret (cal := fun _ _ _ => none) mi_in120 (by rfl)
    refine mi_sem_call mi_in89 (i := (.invokestatic 74, 3, 120, 0, 9, 0, 152)) (by rfl) (by rfl) hM531 (by decide) ⟨Nat.le_of_ble_eq_true rfl, Nat.le_of_ble_eq_true rfl⟩ ?_
    refine mi_sem_steps mi_in89 (mi_calok_none _ _) 3 _ (17, [(0, .ref 0), (1, .int 5), (2, .int a2), (3, .int a3)], [.int 5, .ref 0], (0, 0), mi_G) (by rfl) ?_
    have hM532 : mi_Met mi_N0 4 mi_h129 [.ref 0, .int 5] mi_G (some (.int (-11))) mi_G := mi_fun_ok mi_N0 4 129 (mi_h129, mi_c129) _ _ _ _ rfl (mi_eR_ok (by decide +kernel))
    refine mi_sem_call mi_in89 (i := (.invokevirtual 144, 3, 129, 0, 9, 0, 208)) (by rfl) (by rfl) hM532 (by decide) ⟨Nat.le_of_ble_eq_true rfl, Nat.le_of_ble_eq_true rfl⟩ ?_
    refine mi_sem_steps mi_in89 (mi_calok_none _ _) 4 _ (29, [(4, .int (-11)), (0, .ref 0), (1, .int 5), (2, .int a2), (3, .int a3)], [.int (-11)], (0, 0), mi_G) (by rfl) ?_
    exact mi_sem_ret (cal := fun _ _ _ => none) mi_in89 (by rfl)
  · refine mi_met_of (y := 176) (q := (mi_h176, mi_c176)) rfl (by decide) (Nat.le_of_ble_eq_true rfl) ?_
    refine mi_sem_steps mi_in176 (mi_calok_none _ _) 1 _ (1, [(0, .ref 116), (1, .int 5), (2, .int a2), (3, .int a3)], [.int 5], (0, 0), mi_G) (by rfl) ?_
    have hM533 : mi_Met mi_N0 2 mi_h133 [.int 5] mi_G (some (.int 1)) mi_G := mi_fun_ok mi_N0 2 133 (mi_h133, mi_c133) _ _ _ _ rfl (mi_eR_ok (by decide +kernel))
    refine mi_sem_call mi_in176 (i := (.invokestatic 127, 3, 133, 0, 9, 0, 382)) (by rfl) (by rfl) hM533 (by decide) ⟨Nat.le_of_ble_eq_true rfl, Nat.le_of_ble_eq_true rfl⟩ ?_
    refine mi_sem_steps mi_in176 (mi_calok_none _ _) 2 _ (8, [(0, .ref 116), (1, .int 5), (2, .int a2), (3, .int a3)], [.int a2], (0, 0), mi_G) (by rfl) ?_
    refine mi_sem_b mi_in176 (decide (a2 < 0)) false (mi_ltF (0) (by decide) (by omega)) 20 11 ([(0, .ref 116), (1, .int 5), (2, .int a2), (3, .int a3)], [], (0, 0), mi_G) (by rfl) ?_
    refine mi_sem_steps mi_in176 (mi_calok_none _ _) 3 _ (14, [(0, .ref 116), (1, .int 5), (2, .int a2), (3, .int a3)], [.int 2, .int 0, .int a3], (0, 0), mi_G) (by rfl) ?_
    have hM534 : mi_Met mi_N0 1 mi_h131 [.int a3, .int 0, .int 2] mi_G (some (.int 1)) mi_G := by
      refine mi_met_of (y := 131) (q := (mi_h131, mi_c131)) rfl (by decide) (Nat.le_of_ble_eq_true rfl) ?_
      refine mi_sem_steps mi_in131 (mi_calok_none _ _) 2 _ (2, [(0, .int a3), (1, .int 0), (2, .int 2)], [.int 0, .int a3], (0, 0), mi_G) (by rfl) ?_
      refine mi_sem_b mi_in131 (decide (a3 < 0)) false (mi_ltF (0) (by decide) (by omega)) 14 5 ([(0, .int a3), (1, .int 0), (2, .int 2)], [], (0, 0), mi_G) (by rfl) ?_
      refine mi_sem_steps mi_in131 (mi_calok_none _ _) 2 _ (7, [(0, .int a3), (1, .int 0), (2, .int 2)], [.int 2, .int a3], (0, 0), mi_G) (by rfl) ?_
      refine mi_sem_b mi_in131 (decide (2 < a3)) false (mi_ltF2 (2) (by decide) (by omega)) 14 10 ([(0, .int a3), (1, .int 0), (2, .int 2)], [], (0, 0), mi_G) (by rfl) ?_
      refine mi_sem_steps mi_in131 (mi_calok_none _ _) 2 _ (15, [(0, .int a3), (1, .int 0), (2, .int 2)], [.int 1], (0, 0), mi_G) (by rfl) ?_
      exact mi_sem_ret (cal := fun _ _ _ => none) mi_in131 (by rfl)
    refine mi_sem_call mi_in176 (i := (.invokestatic 119, 3, 131, 0, 9, 0, 379)) (by rfl) (by rfl) hM534 (by decide) ⟨Nat.le_of_ble_eq_true rfl, Nat.le_of_ble_eq_true rfl⟩ ?_
    refine mi_sem_steps mi_in176 (mi_calok_none _ _) 3 _ (24, [(0, .ref 116), (1, .int 5), (2, .int a2), (3, .int a3)], [.int 5, .ref 116], (0, 0), mi_G) (by rfl) ?_
    have hM535 : mi_Met mi_N0 1 mi_h173 [.ref 116, .int 5] mi_G (some (.int (-11))) mi_G := mi_fun_ok mi_N0 1 173 (mi_h173, mi_c173) _ _ _ _ rfl (mi_eR_ok (by decide +kernel))
    refine mi_sem_call mi_in176 (i := (.invokevirtual 276, 3, 173, 0, 9, 0, 410)) (by rfl) (by rfl) hM535 (by decide) ⟨Nat.le_of_ble_eq_true rfl, Nat.le_of_ble_eq_true rfl⟩ ?_
    refine mi_sem_steps mi_in176 (mi_calok_none _ _) 4 _ (36, [(4, .int (-11)), (0, .ref 116), (1, .int 5), (2, .int a2), (3, .int a3)], [.int (-11)], (0, 0), mi_G) (by rfl) ?_
    exact mi_sem_ret (cal := fun _ _ _ => none) mi_in176 (by rfl)

set_option maxRecDepth 100000 in
set_option maxHeartbeats 4000000 in
theorem mp_coming_13 (a1 : Int32) (a2 : Int32) (a3 : Int32) (r0 : 0 ≤ (a2).toInt ∧ (a2).toInt ≤ 2147483647) (r1 : 0 ≤ (a3).toInt ∧ (a3).toInt ≤ 2) (r2 : 6 ≤ (a1).toInt ∧ (a1).toInt ≤ 2147483647) : mi_P 89 176 [.int a1, .int a2, .int a3] := by
  refine ⟨.int (-1), mi_G, mi_G, (mi_h89, mi_c89), (mi_h176, mi_c176), 5, 3, rfl, rfl, rfl, by decide, by decide, ?_, ?_⟩
  · refine mi_met_of (y := 89) (q := (mi_h89, mi_c89)) rfl (by decide) (Nat.le_of_ble_eq_true rfl) ?_
    refine mi_sem_steps mi_in89 (mi_calok_none _ _) 1 _ (1, [(0, .ref 0), (1, .int a1), (2, .int a2), (3, .int a3)], [.int a2], (0, 0), mi_G) (by rfl) ?_
    refine mi_sem_b mi_in89 (decide (a2 < 0)) false (mi_ltF (0) (by decide) (by omega)) 13 4 ([(0, .ref 0), (1, .int a1), (2, .int a2), (3, .int a3)], [], (0, 0), mi_G) (by rfl) ?_
    refine mi_sem_steps mi_in89 (mi_calok_none _ _) 3 _ (7, [(0, .ref 0), (1, .int a1), (2, .int a2), (3, .int a3)], [.int 2, .int 0, .int a3], (0, 0), mi_G) (by rfl) ?_
    have hM536 : mi_Met mi_N0 1 mi_h120 [.int a3, .int 0, .int 2] mi_G (some (.int 1)) mi_G := by
      refine mi_met_of (y := 120) (q := (mi_h120, mi_c120)) rfl (by decide) (Nat.le_of_ble_eq_true rfl) ?_
      refine mi_sem_steps mi_in120 (mi_calok_none _ _) 2 _ (2, [(0, .int a3), (1, .int 0), (2, .int 2)], [.int 0, .int a3], (0, 0), mi_G) (by rfl) ?_
      refine mi_sem_b mi_in120 (decide (a3 < 0)) false (mi_ltF (0) (by decide) (by omega)) 14 5 ([(0, .int a3), (1, .int 0), (2, .int 2)], [], (0, 0), mi_G) (by rfl) ?_
      refine mi_sem_steps mi_in120 (mi_calok_none _ _) 2 _ (7, [(0, .int a3), (1, .int 0), (2, .int 2)], [.int 2, .int a3], (0, 0), mi_G) (by rfl) ?_
      refine mi_sem_b mi_in120 (decide (2 < a3)) false (mi_ltF2 (2) (by decide) (by omega)) 14 10 ([(0, .int a3), (1, .int 0), (2, .int 2)], [], (0, 0), mi_G) (by rfl) ?_
      refine mi_sem_steps mi_in120 (mi_calok_none _ _) 2 _ (15, [(0, .int a3), (1, .int 0), (2, .int 2)], [.int 1], (0, 0), mi_G) (by rfl) ?_
      exact mi_sem_ret (cal := fun _ _ _ => none) mi_in120 (by rfl)
    refine mi_sem_call mi_in89 (i := (.invokestatic 74, 3, 120, 0, 9, 0, 152)) (by rfl) (by rfl) hM536 (by decide) ⟨Nat.le_of_ble_eq_true rfl, Nat.le_of_ble_eq_true rfl⟩ ?_
    refine mi_sem_steps mi_in89 (mi_calok_none _ _) 3 _ (17, [(0, .ref 0), (1, .int a1), (2, .int a2), (3, .int a3)], [.int a1, .ref 0], (0, 0), mi_G) (by rfl) ?_
    have hM540 : mi_Met mi_N0 4 mi_h129 [.ref 0, .int a1] mi_G (some (.int (-1))) mi_G := by
      refine mi_met_of (y := 129) (q := (mi_h129, mi_c129)) rfl (by decide) (Nat.le_of_ble_eq_true rfl) ?_
      refine mi_sem_steps mi_in129 (mi_calok_none _ _) 2 _ (2, [(0, .ref 0), (1, .int a1)], [.int a1, .ref 0], (0, 0), mi_G) (by rfl) ?_
      have hM539 : mi_Met mi_N0 3 mi_h127 [.ref 0, .int a1] mi_G (some (.int (-1))) mi_G := by
        refine mi_met_of (y := 127) (q := (mi_h127, mi_c127)) rfl (by decide) (Nat.le_of_ble_eq_true rfl) ?_
        refine mi_sem_steps mi_in127 (mi_calok_none _ _) 1 _ (1, [(0, .ref 0), (1, .int a1)], [.int a1], (0, 0), mi_G) (by rfl) ?_
        have hM538 : mi_Met mi_N0 2 mi_h121 [.int a1] mi_G (some (.int 0)) mi_G := by
          refine mi_met_of (y := 121) (q := (mi_h121, mi_c121)) rfl (by decide) (Nat.le_of_ble_eq_true rfl) ?_
          refine mi_sem_steps mi_in121 (mi_calok_none _ _) 3 _ (3, [(0, .int a1)], [.int 5, .int 0, .int a1], (0, 0), mi_G) (by rfl) ?_
          have hM537 : mi_Met mi_N0 1 mi_h120 [.int a1, .int 0, .int 5] mi_G (some (.int 0)) mi_G := by
            refine mi_met_of (y := 120) (q := (mi_h120, mi_c120)) rfl (by decide) (Nat.le_of_ble_eq_true rfl) ?_
            refine mi_sem_steps mi_in120 (mi_calok_none _ _) 2 _ (2, [(0, .int a1), (1, .int 0), (2, .int 5)], [.int 0, .int a1], (0, 0), mi_G) (by rfl) ?_
            refine mi_sem_b mi_in120 (decide (a1 < 0)) false (mi_ltF (0) (by decide) (by omega)) 14 5 ([(0, .int a1), (1, .int 0), (2, .int 5)], [], (0, 0), mi_G) (by rfl) ?_
            refine mi_sem_steps mi_in120 (mi_calok_none _ _) 2 _ (7, [(0, .int a1), (1, .int 0), (2, .int 5)], [.int 5, .int a1], (0, 0), mi_G) (by rfl) ?_
            refine mi_sem_b mi_in120 (decide (5 < a1)) true (mi_ltT2 (5) (by decide) (by omega)) 14 10 ([(0, .int a1), (1, .int 0), (2, .int 5)], [], (0, 0), mi_G) (by rfl) ?_
            refine mi_sem_steps mi_in120 (mi_calok_none _ _) 1 _ (15, [(0, .int a1), (1, .int 0), (2, .int 5)], [.int 0], (0, 0), mi_G) (by rfl) ?_
            exact mi_sem_ret (cal := fun _ _ _ => none) mi_in120 (by rfl)
          refine mi_sem_call mi_in121 (i := (.invokestatic 74, 3, 120, 0, 9, 0, 152)) (by rfl) (by rfl) hM537 (by decide) ⟨Nat.le_of_ble_eq_true rfl, Nat.le_of_ble_eq_true rfl⟩ ?_
          exact mi_sem_ret (cal := fun _ _ _ => none) mi_in121 (by rfl)
        refine mi_sem_call mi_in127 (i := (.invokestatic 70, 3, 121, 0, 9, 0, 157)) (by rfl) (by rfl) hM538 (by decide) ⟨Nat.le_of_ble_eq_true rfl, Nat.le_of_ble_eq_true rfl⟩ ?_
        refine mi_sem_steps mi_in127 (mi_calok_none _ _) 2 _ (8, [(0, .ref 0), (1, .int a1)], [.int (-1)], (0, 0), mi_G) (by rfl) ?_
        exact mi_sem_ret (cal := fun _ _ _ => none) mi_in127 (by rfl)
      refine mi_sem_call mi_in129 (i := (.invokevirtual 217, 3, 127, 0, 9, 0, 209)) (by rfl) (by rfl) hM539 (by decide) ⟨Nat.le_of_ble_eq_true rfl, Nat.le_of_ble_eq_true rfl⟩ ?_
      refine mi_sem_steps mi_in129 (mi_calok_none _ _) 4 _ (31, [(2, .int (-1)), (0, .ref 0), (1, .int a1)], [.int (-1)], (0, 0), mi_G) (by rfl) ?_
      exact mi_sem_ret (cal := fun _ _ _ => none) mi_in129 (by rfl)
    refine mi_sem_call mi_in89 (i := (.invokevirtual 144, 3, 129, 0, 9, 0, 208)) (by rfl) (by rfl) hM540 (by decide) ⟨Nat.le_of_ble_eq_true rfl, Nat.le_of_ble_eq_true rfl⟩ ?_
    refine mi_sem_steps mi_in89 (mi_calok_none _ _) 4 _ (29, [(4, .int (-1)), (0, .ref 0), (1, .int a1), (2, .int a2), (3, .int a3)], [.int (-1)], (0, 0), mi_G) (by rfl) ?_
    exact mi_sem_ret (cal := fun _ _ _ => none) mi_in89 (by rfl)
  · refine mi_met_of (y := 176) (q := (mi_h176, mi_c176)) rfl (by decide) (Nat.le_of_ble_eq_true rfl) ?_
    refine mi_sem_steps mi_in176 (mi_calok_none _ _) 1 _ (1, [(0, .ref 116), (1, .int a1), (2, .int a2), (3, .int a3)], [.int a1], (0, 0), mi_G) (by rfl) ?_
    have hM542 : mi_Met mi_N0 2 mi_h133 [.int a1] mi_G (some (.int 0)) mi_G := by
      refine mi_met_of (y := 133) (q := (mi_h133, mi_c133)) rfl (by decide) (Nat.le_of_ble_eq_true rfl) ?_
      refine mi_sem_steps mi_in133 (mi_calok_none _ _) 3 _ (3, [(0, .int a1)], [.int 5, .int 0, .int a1], (0, 0), mi_G) (by rfl) ?_
      have hM541 : mi_Met mi_N0 1 mi_h131 [.int a1, .int 0, .int 5] mi_G (some (.int 0)) mi_G := by
        refine mi_met_of (y := 131) (q := (mi_h131, mi_c131)) rfl (by decide) (Nat.le_of_ble_eq_true rfl) ?_
        refine mi_sem_steps mi_in131 (mi_calok_none _ _) 2 _ (2, [(0, .int a1), (1, .int 0), (2, .int 5)], [.int 0, .int a1], (0, 0), mi_G) (by rfl) ?_
        refine mi_sem_b mi_in131 (decide (a1 < 0)) false (mi_ltF (0) (by decide) (by omega)) 14 5 ([(0, .int a1), (1, .int 0), (2, .int 5)], [], (0, 0), mi_G) (by rfl) ?_
        refine mi_sem_steps mi_in131 (mi_calok_none _ _) 2 _ (7, [(0, .int a1), (1, .int 0), (2, .int 5)], [.int 5, .int a1], (0, 0), mi_G) (by rfl) ?_
        refine mi_sem_b mi_in131 (decide (5 < a1)) true (mi_ltT2 (5) (by decide) (by omega)) 14 10 ([(0, .int a1), (1, .int 0), (2, .int 5)], [], (0, 0), mi_G) (by rfl) ?_
        refine mi_sem_steps mi_in131 (mi_calok_none _ _) 1 _ (15, [(0, .int a1), (1, .int 0), (2, .int 5)], [.int 0], (0, 0), mi_G) (by rfl) ?_
        exact mi_sem_ret (cal := fun _ _ _ => none) mi_in131 (by rfl)
      refine mi_sem_call mi_in133 (i := (.invokestatic 119, 3, 131, 0, 9, 0, 379)) (by rfl) (by rfl) hM541 (by decide) ⟨Nat.le_of_ble_eq_true rfl, Nat.le_of_ble_eq_true rfl⟩ ?_
      exact mi_sem_ret (cal := fun _ _ _ => none) mi_in133 (by rfl)
    refine mi_sem_call mi_in176 (i := (.invokestatic 127, 3, 133, 0, 9, 0, 382)) (by rfl) (by rfl) hM542 (by decide) ⟨Nat.le_of_ble_eq_true rfl, Nat.le_of_ble_eq_true rfl⟩ ?_
    refine mi_sem_steps mi_in176 (mi_calok_none _ _) 2 _ (21, [(0, .ref 116), (1, .int a1), (2, .int a2), (3, .int a3)], [.int (-1)], (0, 0), mi_G) (by rfl) ?_
    exact mi_sem_ret (cal := fun _ _ _ => none) mi_in176 (by rfl)

set_option maxRecDepth 100000 in
set_option maxHeartbeats 4000000 in
theorem mp_coming_14 (a1 : Int32) (a2 : Int32) (a3 : Int32) (r0 : 0 ≤ (a2).toInt ∧ (a2).toInt ≤ 2147483647) (r1 : 3 ≤ (a3).toInt ∧ (a3).toInt ≤ 2147483647) (r2 : (-2147483648) ≤ (a1).toInt ∧ (a1).toInt ≤ (-1)) : mi_P 89 176 [.int a1, .int a2, .int a3] := by
  refine ⟨.int (-1), mi_G, mi_G, (mi_h89, mi_c89), (mi_h176, mi_c176), 2, 3, rfl, rfl, rfl, by decide, by decide, ?_, ?_⟩
  · refine mi_met_of (y := 89) (q := (mi_h89, mi_c89)) rfl (by decide) (Nat.le_of_ble_eq_true rfl) ?_
    refine mi_sem_steps mi_in89 (mi_calok_none _ _) 1 _ (1, [(0, .ref 0), (1, .int a1), (2, .int a2), (3, .int a3)], [.int a2], (0, 0), mi_G) (by rfl) ?_
    refine mi_sem_b mi_in89 (decide (a2 < 0)) false (mi_ltF (0) (by decide) (by omega)) 13 4 ([(0, .ref 0), (1, .int a1), (2, .int a2), (3, .int a3)], [], (0, 0), mi_G) (by rfl) ?_
    refine mi_sem_steps mi_in89 (mi_calok_none _ _) 3 _ (7, [(0, .ref 0), (1, .int a1), (2, .int a2), (3, .int a3)], [.int 2, .int 0, .int a3], (0, 0), mi_G) (by rfl) ?_
    have hM544 : mi_Met mi_N0 1 mi_h120 [.int a3, .int 0, .int 2] mi_G (some (.int 0)) mi_G := by
      refine mi_met_of (y := 120) (q := (mi_h120, mi_c120)) rfl (by decide) (Nat.le_of_ble_eq_true rfl) ?_
      refine mi_sem_steps mi_in120 (mi_calok_none _ _) 2 _ (2, [(0, .int a3), (1, .int 0), (2, .int 2)], [.int 0, .int a3], (0, 0), mi_G) (by rfl) ?_
      refine mi_sem_b mi_in120 (decide (a3 < 0)) false (mi_ltF (0) (by decide) (by omega)) 14 5 ([(0, .int a3), (1, .int 0), (2, .int 2)], [], (0, 0), mi_G) (by rfl) ?_
      refine mi_sem_steps mi_in120 (mi_calok_none _ _) 2 _ (7, [(0, .int a3), (1, .int 0), (2, .int 2)], [.int 2, .int a3], (0, 0), mi_G) (by rfl) ?_
      refine mi_sem_b mi_in120 (decide (2 < a3)) true (mi_ltT2 (2) (by decide) (by omega)) 14 10 ([(0, .int a3), (1, .int 0), (2, .int 2)], [], (0, 0), mi_G) (by rfl) ?_
      refine mi_sem_steps mi_in120 (mi_calok_none _ _) 1 _ (15, [(0, .int a3), (1, .int 0), (2, .int 2)], [.int 0], (0, 0), mi_G) (by rfl) ?_
      exact mi_sem_ret (cal := fun _ _ _ => none) mi_in120 (by rfl)
    refine mi_sem_call mi_in89 (i := (.invokestatic 74, 3, 120, 0, 9, 0, 152)) (by rfl) (by rfl) hM544 (by decide) ⟨Nat.le_of_ble_eq_true rfl, Nat.le_of_ble_eq_true rfl⟩ ?_
    refine mi_sem_steps mi_in89 (mi_calok_none _ _) 2 _ (14, [(0, .ref 0), (1, .int a1), (2, .int a2), (3, .int a3)], [.int (-1)], (0, 0), mi_G) (by rfl) ?_
    exact mi_sem_ret (cal := fun _ _ _ => none) mi_in89 (by rfl)
  · refine mi_met_of (y := 176) (q := (mi_h176, mi_c176)) rfl (by decide) (Nat.le_of_ble_eq_true rfl) ?_
    refine mi_sem_steps mi_in176 (mi_calok_none _ _) 1 _ (1, [(0, .ref 116), (1, .int a1), (2, .int a2), (3, .int a3)], [.int a1], (0, 0), mi_G) (by rfl) ?_
    have hM546 : mi_Met mi_N0 2 mi_h133 [.int a1] mi_G (some (.int 0)) mi_G := by
      refine mi_met_of (y := 133) (q := (mi_h133, mi_c133)) rfl (by decide) (Nat.le_of_ble_eq_true rfl) ?_
      refine mi_sem_steps mi_in133 (mi_calok_none _ _) 3 _ (3, [(0, .int a1)], [.int 5, .int 0, .int a1], (0, 0), mi_G) (by rfl) ?_
      have hM545 : mi_Met mi_N0 1 mi_h131 [.int a1, .int 0, .int 5] mi_G (some (.int 0)) mi_G := by
        refine mi_met_of (y := 131) (q := (mi_h131, mi_c131)) rfl (by decide) (Nat.le_of_ble_eq_true rfl) ?_
        refine mi_sem_steps mi_in131 (mi_calok_none _ _) 2 _ (2, [(0, .int a1), (1, .int 0), (2, .int 5)], [.int 0, .int a1], (0, 0), mi_G) (by rfl) ?_
        refine mi_sem_b mi_in131 (decide (a1 < 0)) true (mi_ltT (0) (by decide) (by omega)) 14 5 ([(0, .int a1), (1, .int 0), (2, .int 5)], [], (0, 0), mi_G) (by rfl) ?_
        refine mi_sem_steps mi_in131 (mi_calok_none _ _) 1 _ (15, [(0, .int a1), (1, .int 0), (2, .int 5)], [.int 0], (0, 0), mi_G) (by rfl) ?_
        exact mi_sem_ret (cal := fun _ _ _ => none) mi_in131 (by rfl)
      refine mi_sem_call mi_in133 (i := (.invokestatic 119, 3, 131, 0, 9, 0, 379)) (by rfl) (by rfl) hM545 (by decide) ⟨Nat.le_of_ble_eq_true rfl, Nat.le_of_ble_eq_true rfl⟩ ?_
      exact mi_sem_ret (cal := fun _ _ _ => none) mi_in133 (by rfl)
    refine mi_sem_call mi_in176 (i := (.invokestatic 127, 3, 133, 0, 9, 0, 382)) (by rfl) (by rfl) hM546 (by decide) ⟨Nat.le_of_ble_eq_true rfl, Nat.le_of_ble_eq_true rfl⟩ ?_
    refine mi_sem_steps mi_in176 (mi_calok_none _ _) 2 _ (21, [(0, .ref 116), (1, .int a1), (2, .int a2), (3, .int a3)], [.int (-1)], (0, 0), mi_G) (by rfl) ?_
    exact mi_sem_ret (cal := fun _ _ _ => none) mi_in176 (by rfl)

set_option maxRecDepth 100000 in
set_option maxHeartbeats 4000000 in
theorem mp_coming_15 (a1 : Int32) (a2 : Int32) (a3 : Int32) (r0 : 0 ≤ (a2).toInt ∧ (a2).toInt ≤ 2147483647) (r1 : 3 ≤ (a3).toInt ∧ (a3).toInt ≤ 2147483647) (r2 : 0 ≤ (a1).toInt ∧ (a1).toInt ≤ 5) : mi_P 89 176 [.int a1, .int a2, .int a3] := by
  refine ⟨.int (-1), mi_G, mi_G, (mi_h89, mi_c89), (mi_h176, mi_c176), 2, 3, rfl, rfl, rfl, by decide, by decide, ?_, ?_⟩
  · refine mi_met_of (y := 89) (q := (mi_h89, mi_c89)) rfl (by decide) (Nat.le_of_ble_eq_true rfl) ?_
    refine mi_sem_steps mi_in89 (mi_calok_none _ _) 1 _ (1, [(0, .ref 0), (1, .int a1), (2, .int a2), (3, .int a3)], [.int a2], (0, 0), mi_G) (by rfl) ?_
    refine mi_sem_b mi_in89 (decide (a2 < 0)) false (mi_ltF (0) (by decide) (by omega)) 13 4 ([(0, .ref 0), (1, .int a1), (2, .int a2), (3, .int a3)], [], (0, 0), mi_G) (by rfl) ?_
    refine mi_sem_steps mi_in89 (mi_calok_none _ _) 3 _ (7, [(0, .ref 0), (1, .int a1), (2, .int a2), (3, .int a3)], [.int 2, .int 0, .int a3], (0, 0), mi_G) (by rfl) ?_
    have hM548 : mi_Met mi_N0 1 mi_h120 [.int a3, .int 0, .int 2] mi_G (some (.int 0)) mi_G := by
      refine mi_met_of (y := 120) (q := (mi_h120, mi_c120)) rfl (by decide) (Nat.le_of_ble_eq_true rfl) ?_
      refine mi_sem_steps mi_in120 (mi_calok_none _ _) 2 _ (2, [(0, .int a3), (1, .int 0), (2, .int 2)], [.int 0, .int a3], (0, 0), mi_G) (by rfl) ?_
      refine mi_sem_b mi_in120 (decide (a3 < 0)) false (mi_ltF (0) (by decide) (by omega)) 14 5 ([(0, .int a3), (1, .int 0), (2, .int 2)], [], (0, 0), mi_G) (by rfl) ?_
      refine mi_sem_steps mi_in120 (mi_calok_none _ _) 2 _ (7, [(0, .int a3), (1, .int 0), (2, .int 2)], [.int 2, .int a3], (0, 0), mi_G) (by rfl) ?_
      refine mi_sem_b mi_in120 (decide (2 < a3)) true (mi_ltT2 (2) (by decide) (by omega)) 14 10 ([(0, .int a3), (1, .int 0), (2, .int 2)], [], (0, 0), mi_G) (by rfl) ?_
      refine mi_sem_steps mi_in120 (mi_calok_none _ _) 1 _ (15, [(0, .int a3), (1, .int 0), (2, .int 2)], [.int 0], (0, 0), mi_G) (by rfl) ?_
      exact mi_sem_ret (cal := fun _ _ _ => none) mi_in120 (by rfl)
    refine mi_sem_call mi_in89 (i := (.invokestatic 74, 3, 120, 0, 9, 0, 152)) (by rfl) (by rfl) hM548 (by decide) ⟨Nat.le_of_ble_eq_true rfl, Nat.le_of_ble_eq_true rfl⟩ ?_
    refine mi_sem_steps mi_in89 (mi_calok_none _ _) 2 _ (14, [(0, .ref 0), (1, .int a1), (2, .int a2), (3, .int a3)], [.int (-1)], (0, 0), mi_G) (by rfl) ?_
    exact mi_sem_ret (cal := fun _ _ _ => none) mi_in89 (by rfl)
  · refine mi_met_of (y := 176) (q := (mi_h176, mi_c176)) rfl (by decide) (Nat.le_of_ble_eq_true rfl) ?_
    refine mi_sem_steps mi_in176 (mi_calok_none _ _) 1 _ (1, [(0, .ref 116), (1, .int a1), (2, .int a2), (3, .int a3)], [.int a1], (0, 0), mi_G) (by rfl) ?_
    have hM550 : mi_Met mi_N0 2 mi_h133 [.int a1] mi_G (some (.int 1)) mi_G := by
      refine mi_met_of (y := 133) (q := (mi_h133, mi_c133)) rfl (by decide) (Nat.le_of_ble_eq_true rfl) ?_
      refine mi_sem_steps mi_in133 (mi_calok_none _ _) 3 _ (3, [(0, .int a1)], [.int 5, .int 0, .int a1], (0, 0), mi_G) (by rfl) ?_
      have hM549 : mi_Met mi_N0 1 mi_h131 [.int a1, .int 0, .int 5] mi_G (some (.int 1)) mi_G := by
        refine mi_met_of (y := 131) (q := (mi_h131, mi_c131)) rfl (by decide) (Nat.le_of_ble_eq_true rfl) ?_
        refine mi_sem_steps mi_in131 (mi_calok_none _ _) 2 _ (2, [(0, .int a1), (1, .int 0), (2, .int 5)], [.int 0, .int a1], (0, 0), mi_G) (by rfl) ?_
        refine mi_sem_b mi_in131 (decide (a1 < 0)) false (mi_ltF (0) (by decide) (by omega)) 14 5 ([(0, .int a1), (1, .int 0), (2, .int 5)], [], (0, 0), mi_G) (by rfl) ?_
        refine mi_sem_steps mi_in131 (mi_calok_none _ _) 2 _ (7, [(0, .int a1), (1, .int 0), (2, .int 5)], [.int 5, .int a1], (0, 0), mi_G) (by rfl) ?_
        refine mi_sem_b mi_in131 (decide (5 < a1)) false (mi_ltF2 (5) (by decide) (by omega)) 14 10 ([(0, .int a1), (1, .int 0), (2, .int 5)], [], (0, 0), mi_G) (by rfl) ?_
        refine mi_sem_steps mi_in131 (mi_calok_none _ _) 2 _ (15, [(0, .int a1), (1, .int 0), (2, .int 5)], [.int 1], (0, 0), mi_G) (by rfl) ?_
        exact mi_sem_ret (cal := fun _ _ _ => none) mi_in131 (by rfl)
      refine mi_sem_call mi_in133 (i := (.invokestatic 119, 3, 131, 0, 9, 0, 379)) (by rfl) (by rfl) hM549 (by decide) ⟨Nat.le_of_ble_eq_true rfl, Nat.le_of_ble_eq_true rfl⟩ ?_
      exact mi_sem_ret (cal := fun _ _ _ => none) mi_in133 (by rfl)
    refine mi_sem_call mi_in176 (i := (.invokestatic 127, 3, 133, 0, 9, 0, 382)) (by rfl) (by rfl) hM550 (by decide) ⟨Nat.le_of_ble_eq_true rfl, Nat.le_of_ble_eq_true rfl⟩ ?_
    refine mi_sem_steps mi_in176 (mi_calok_none _ _) 2 _ (8, [(0, .ref 116), (1, .int a1), (2, .int a2), (3, .int a3)], [.int a2], (0, 0), mi_G) (by rfl) ?_
    refine mi_sem_b mi_in176 (decide (a2 < 0)) false (mi_ltF (0) (by decide) (by omega)) 20 11 ([(0, .ref 116), (1, .int a1), (2, .int a2), (3, .int a3)], [], (0, 0), mi_G) (by rfl) ?_
    refine mi_sem_steps mi_in176 (mi_calok_none _ _) 3 _ (14, [(0, .ref 116), (1, .int a1), (2, .int a2), (3, .int a3)], [.int 2, .int 0, .int a3], (0, 0), mi_G) (by rfl) ?_
    have hM551 : mi_Met mi_N0 1 mi_h131 [.int a3, .int 0, .int 2] mi_G (some (.int 0)) mi_G := by
      refine mi_met_of (y := 131) (q := (mi_h131, mi_c131)) rfl (by decide) (Nat.le_of_ble_eq_true rfl) ?_
      refine mi_sem_steps mi_in131 (mi_calok_none _ _) 2 _ (2, [(0, .int a3), (1, .int 0), (2, .int 2)], [.int 0, .int a3], (0, 0), mi_G) (by rfl) ?_
      refine mi_sem_b mi_in131 (decide (a3 < 0)) false (mi_ltF (0) (by decide) (by omega)) 14 5 ([(0, .int a3), (1, .int 0), (2, .int 2)], [], (0, 0), mi_G) (by rfl) ?_
      refine mi_sem_steps mi_in131 (mi_calok_none _ _) 2 _ (7, [(0, .int a3), (1, .int 0), (2, .int 2)], [.int 2, .int a3], (0, 0), mi_G) (by rfl) ?_
      refine mi_sem_b mi_in131 (decide (2 < a3)) true (mi_ltT2 (2) (by decide) (by omega)) 14 10 ([(0, .int a3), (1, .int 0), (2, .int 2)], [], (0, 0), mi_G) (by rfl) ?_
      refine mi_sem_steps mi_in131 (mi_calok_none _ _) 1 _ (15, [(0, .int a3), (1, .int 0), (2, .int 2)], [.int 0], (0, 0), mi_G) (by rfl) ?_
      exact mi_sem_ret (cal := fun _ _ _ => none) mi_in131 (by rfl)
    refine mi_sem_call mi_in176 (i := (.invokestatic 119, 3, 131, 0, 9, 0, 379)) (by rfl) (by rfl) hM551 (by decide) ⟨Nat.le_of_ble_eq_true rfl, Nat.le_of_ble_eq_true rfl⟩ ?_
    refine mi_sem_steps mi_in176 (mi_calok_none _ _) 2 _ (21, [(0, .ref 116), (1, .int a1), (2, .int a2), (3, .int a3)], [.int (-1)], (0, 0), mi_G) (by rfl) ?_
    exact mi_sem_ret (cal := fun _ _ _ => none) mi_in176 (by rfl)

set_option maxRecDepth 100000 in
set_option maxHeartbeats 4000000 in
theorem mp_coming_16 (a1 : Int32) (a2 : Int32) (a3 : Int32) (r0 : 0 ≤ (a2).toInt ∧ (a2).toInt ≤ 2147483647) (r1 : 3 ≤ (a3).toInt ∧ (a3).toInt ≤ 2147483647) (r2 : 6 ≤ (a1).toInt ∧ (a1).toInt ≤ 2147483647) : mi_P 89 176 [.int a1, .int a2, .int a3] := by
  refine ⟨.int (-1), mi_G, mi_G, (mi_h89, mi_c89), (mi_h176, mi_c176), 2, 3, rfl, rfl, rfl, by decide, by decide, ?_, ?_⟩
  · refine mi_met_of (y := 89) (q := (mi_h89, mi_c89)) rfl (by decide) (Nat.le_of_ble_eq_true rfl) ?_
    refine mi_sem_steps mi_in89 (mi_calok_none _ _) 1 _ (1, [(0, .ref 0), (1, .int a1), (2, .int a2), (3, .int a3)], [.int a2], (0, 0), mi_G) (by rfl) ?_
    refine mi_sem_b mi_in89 (decide (a2 < 0)) false (mi_ltF (0) (by decide) (by omega)) 13 4 ([(0, .ref 0), (1, .int a1), (2, .int a2), (3, .int a3)], [], (0, 0), mi_G) (by rfl) ?_
    refine mi_sem_steps mi_in89 (mi_calok_none _ _) 3 _ (7, [(0, .ref 0), (1, .int a1), (2, .int a2), (3, .int a3)], [.int 2, .int 0, .int a3], (0, 0), mi_G) (by rfl) ?_
    have hM552 : mi_Met mi_N0 1 mi_h120 [.int a3, .int 0, .int 2] mi_G (some (.int 0)) mi_G := by
      refine mi_met_of (y := 120) (q := (mi_h120, mi_c120)) rfl (by decide) (Nat.le_of_ble_eq_true rfl) ?_
      refine mi_sem_steps mi_in120 (mi_calok_none _ _) 2 _ (2, [(0, .int a3), (1, .int 0), (2, .int 2)], [.int 0, .int a3], (0, 0), mi_G) (by rfl) ?_
      refine mi_sem_b mi_in120 (decide (a3 < 0)) false (mi_ltF (0) (by decide) (by omega)) 14 5 ([(0, .int a3), (1, .int 0), (2, .int 2)], [], (0, 0), mi_G) (by rfl) ?_
      refine mi_sem_steps mi_in120 (mi_calok_none _ _) 2 _ (7, [(0, .int a3), (1, .int 0), (2, .int 2)], [.int 2, .int a3], (0, 0), mi_G) (by rfl) ?_
      refine mi_sem_b mi_in120 (decide (2 < a3)) true (mi_ltT2 (2) (by decide) (by omega)) 14 10 ([(0, .int a3), (1, .int 0), (2, .int 2)], [], (0, 0), mi_G) (by rfl) ?_
      refine mi_sem_steps mi_in120 (mi_calok_none _ _) 1 _ (15, [(0, .int a3), (1, .int 0), (2, .int 2)], [.int 0], (0, 0), mi_G) (by rfl) ?_
      exact mi_sem_ret (cal := fun _ _ _ => none) mi_in120 (by rfl)
    refine mi_sem_call mi_in89 (i := (.invokestatic 74, 3, 120, 0, 9, 0, 152)) (by rfl) (by rfl) hM552 (by decide) ⟨Nat.le_of_ble_eq_true rfl, Nat.le_of_ble_eq_true rfl⟩ ?_
    refine mi_sem_steps mi_in89 (mi_calok_none _ _) 2 _ (14, [(0, .ref 0), (1, .int a1), (2, .int a2), (3, .int a3)], [.int (-1)], (0, 0), mi_G) (by rfl) ?_
    exact mi_sem_ret (cal := fun _ _ _ => none) mi_in89 (by rfl)
  · refine mi_met_of (y := 176) (q := (mi_h176, mi_c176)) rfl (by decide) (Nat.le_of_ble_eq_true rfl) ?_
    refine mi_sem_steps mi_in176 (mi_calok_none _ _) 1 _ (1, [(0, .ref 116), (1, .int a1), (2, .int a2), (3, .int a3)], [.int a1], (0, 0), mi_G) (by rfl) ?_
    have hM554 : mi_Met mi_N0 2 mi_h133 [.int a1] mi_G (some (.int 0)) mi_G := by
      refine mi_met_of (y := 133) (q := (mi_h133, mi_c133)) rfl (by decide) (Nat.le_of_ble_eq_true rfl) ?_
      refine mi_sem_steps mi_in133 (mi_calok_none _ _) 3 _ (3, [(0, .int a1)], [.int 5, .int 0, .int a1], (0, 0), mi_G) (by rfl) ?_
      have hM553 : mi_Met mi_N0 1 mi_h131 [.int a1, .int 0, .int 5] mi_G (some (.int 0)) mi_G := by
        refine mi_met_of (y := 131) (q := (mi_h131, mi_c131)) rfl (by decide) (Nat.le_of_ble_eq_true rfl) ?_
        refine mi_sem_steps mi_in131 (mi_calok_none _ _) 2 _ (2, [(0, .int a1), (1, .int 0), (2, .int 5)], [.int 0, .int a1], (0, 0), mi_G) (by rfl) ?_
        refine mi_sem_b mi_in131 (decide (a1 < 0)) false (mi_ltF (0) (by decide) (by omega)) 14 5 ([(0, .int a1), (1, .int 0), (2, .int 5)], [], (0, 0), mi_G) (by rfl) ?_
        refine mi_sem_steps mi_in131 (mi_calok_none _ _) 2 _ (7, [(0, .int a1), (1, .int 0), (2, .int 5)], [.int 5, .int a1], (0, 0), mi_G) (by rfl) ?_
        refine mi_sem_b mi_in131 (decide (5 < a1)) true (mi_ltT2 (5) (by decide) (by omega)) 14 10 ([(0, .int a1), (1, .int 0), (2, .int 5)], [], (0, 0), mi_G) (by rfl) ?_
        refine mi_sem_steps mi_in131 (mi_calok_none _ _) 1 _ (15, [(0, .int a1), (1, .int 0), (2, .int 5)], [.int 0], (0, 0), mi_G) (by rfl) ?_
        exact mi_sem_ret (cal := fun _ _ _ => none) mi_in131 (by rfl)
      refine mi_sem_call mi_in133 (i := (.invokestatic 119, 3, 131, 0, 9, 0, 379)) (by rfl) (by rfl) hM553 (by decide) ⟨Nat.le_of_ble_eq_true rfl, Nat.le_of_ble_eq_true rfl⟩ ?_
      exact mi_sem_ret (cal := fun _ _ _ => none) mi_in133 (by rfl)
    refine mi_sem_call mi_in176 (i := (.invokestatic 127, 3, 133, 0, 9, 0, 382)) (by rfl) (by rfl) hM554 (by decide) ⟨Nat.le_of_ble_eq_true rfl, Nat.le_of_ble_eq_true rfl⟩ ?_
    refine mi_sem_steps mi_in176 (mi_calok_none _ _) 2 _ (21, [(0, .ref 116), (1, .int a1), (2, .int a2), (3, .int a3)], [.int (-1)], (0, 0), mi_G) (by rfl) ?_
    exact mi_sem_ret (cal := fun _ _ _ => none) mi_in176 (by rfl)

set_option maxRecDepth 100000 in
set_option maxHeartbeats 4000000 in
theorem mp_coming (a1 : Int32) (a2 : Int32) (a3 : Int32) : mi_P 89 176 [.int a1, .int a2, .int a3] := by
  have b0 := Int32.toInt_lt (a1)
  have c0 := Int32.le_toInt (a1)
  have b1 := Int32.toInt_lt (a2)
  have c1 := Int32.le_toInt (a2)
  have b2 := Int32.toInt_lt (a3)
  have c2 := Int32.le_toInt (a3)
  rcases Int.lt_or_le (a2).toInt 0 with _hh | _hh
  ·
    rcases Int.lt_or_le (a1).toInt 0 with _hh | _hh
    ·
      exact mp_coming_0 a1 a2 a3 ⟨by omega, by omega⟩ ⟨by omega, by omega⟩
    ·
      rcases Int.lt_or_le (a1).toInt 6 with _hh | _hh
      ·
        exact mp_coming_1 a1 a2 a3 ⟨by omega, by omega⟩ ⟨by omega, by omega⟩
      ·
        exact mp_coming_2 a1 a2 a3 ⟨by omega, by omega⟩ ⟨by omega, by omega⟩
  ·
    rcases Int.lt_or_le (a3).toInt 0 with _hh | _hh
    ·
      rcases Int.lt_or_le (a1).toInt 0 with _hh | _hh
      ·
        exact mp_coming_3 a1 a2 a3 ⟨by omega, by omega⟩ ⟨by omega, by omega⟩ ⟨by omega, by omega⟩
      ·
        rcases Int.lt_or_le (a1).toInt 6 with _hh | _hh
        ·
          exact mp_coming_4 a1 a2 a3 ⟨by omega, by omega⟩ ⟨by omega, by omega⟩ ⟨by omega, by omega⟩
        ·
          exact mp_coming_5 a1 a2 a3 ⟨by omega, by omega⟩ ⟨by omega, by omega⟩ ⟨by omega, by omega⟩
    ·
      rcases Int.lt_or_le (a3).toInt 3 with _hh | _hh
      ·
        rcases Int.lt_or_le (a1).toInt 0 with _hh | _hh
        ·
          exact mp_coming_6 a1 a2 a3 ⟨by omega, by omega⟩ ⟨by omega, by omega⟩ ⟨by omega, by omega⟩
        ·
          rcases Int.lt_or_le (a1).toInt 6 with _hh | _hh
          ·
            rcases Int.lt_or_le (a1).toInt 1 with _hh | _hh
            ·
              have e_a1 : a1 = 0 := Int32.toInt_inj.mp ((by omega : (a1).toInt = 0).trans (by decide))
              subst e_a1
              exact mp_coming_7 a2 a3 ⟨by omega, by omega⟩ ⟨by omega, by omega⟩
            ·
              rcases Int.lt_or_le (a1).toInt 2 with _hh | _hh
              ·
                have e_a1 : a1 = 1 := Int32.toInt_inj.mp ((by omega : (a1).toInt = 1).trans (by decide))
                subst e_a1
                exact mp_coming_8 a2 a3 ⟨by omega, by omega⟩ ⟨by omega, by omega⟩
              ·
                rcases Int.lt_or_le (a1).toInt 3 with _hh | _hh
                ·
                  have e_a1 : a1 = 2 := Int32.toInt_inj.mp ((by omega : (a1).toInt = 2).trans (by decide))
                  subst e_a1
                  exact mp_coming_9 a2 a3 ⟨by omega, by omega⟩ ⟨by omega, by omega⟩
                ·
                  rcases Int.lt_or_le (a1).toInt 4 with _hh | _hh
                  ·
                    have e_a1 : a1 = 3 := Int32.toInt_inj.mp ((by omega : (a1).toInt = 3).trans (by decide))
                    subst e_a1
                    exact mp_coming_10 a2 a3 ⟨by omega, by omega⟩ ⟨by omega, by omega⟩
                  ·
                    rcases Int.lt_or_le (a1).toInt 5 with _hh | _hh
                    ·
                      have e_a1 : a1 = 4 := Int32.toInt_inj.mp ((by omega : (a1).toInt = 4).trans (by decide))
                      subst e_a1
                      exact mp_coming_11 a2 a3 ⟨by omega, by omega⟩ ⟨by omega, by omega⟩
                    ·
                      have e_a1 : a1 = 5 := Int32.toInt_inj.mp ((by omega : (a1).toInt = 5).trans (by decide))
                      subst e_a1
                      exact mp_coming_12 a2 a3 ⟨by omega, by omega⟩ ⟨by omega, by omega⟩
          ·
            exact mp_coming_13 a1 a2 a3 ⟨by omega, by omega⟩ ⟨by omega, by omega⟩ ⟨by omega, by omega⟩
      ·
        rcases Int.lt_or_le (a1).toInt 0 with _hh | _hh
        ·
          exact mp_coming_14 a1 a2 a3 ⟨by omega, by omega⟩ ⟨by omega, by omega⟩ ⟨by omega, by omega⟩
        ·
          rcases Int.lt_or_le (a1).toInt 6 with _hh | _hh
          ·
            exact mp_coming_15 a1 a2 a3 ⟨by omega, by omega⟩ ⟨by omega, by omega⟩ ⟨by omega, by omega⟩
          ·
            exact mp_coming_16 a1 a2 a3 ⟨by omega, by omega⟩ ⟨by omega, by omega⟩ ⟨by omega, by omega⟩

set_option maxRecDepth 100000 in
set_option maxHeartbeats 4000000 in
theorem mp_later_0 (a1 : Int32) (a2 : Int32) (a3 : Int32) (r0 : (-2147483648) ≤ (a2).toInt ∧ (a2).toInt ≤ (-1)) (r1 : (-2147483648) ≤ (a1).toInt ∧ (a1).toInt ≤ (-1)) : mi_P 90 177 [.int a1, .int a2, .int a3] := by
  refine ⟨.int (-1), mi_G, mi_G, (mi_h90, mi_c90), (mi_h177, mi_c177), 2, 3, rfl, rfl, rfl, by decide, by decide, ?_, ?_⟩
  · refine mi_met_of (y := 90) (q := (mi_h90, mi_c90)) rfl (by decide) (Nat.le_of_ble_eq_true rfl) ?_
    refine mi_sem_steps mi_in90 (mi_calok_none _ _) 3 _ (4, [(0, .ref 0), (1, .int a1), (2, .int a2), (3, .int a3)], [.int 20, .int 0, .int a2], (0, 0), mi_G) (by rfl) ?_
    have hM556 : mi_Met mi_N0 1 mi_h120 [.int a2, .int 0, .int 20] mi_G (some (.int 0)) mi_G := by
      refine mi_met_of (y := 120) (q := (mi_h120, mi_c120)) rfl (by decide) (Nat.le_of_ble_eq_true rfl) ?_
      refine mi_sem_steps mi_in120 (mi_calok_none _ _) 2 _ (2, [(0, .int a2), (1, .int 0), (2, .int 20)], [.int 0, .int a2], (0, 0), mi_G) (by rfl) ?_
      refine mi_sem_b mi_in120 (decide (a2 < 0)) true (mi_ltT (0) (by decide) (by omega)) 14 5 ([(0, .int a2), (1, .int 0), (2, .int 20)], [], (0, 0), mi_G) (by rfl) ?_
      refine mi_sem_steps mi_in120 (mi_calok_none _ _) 1 _ (15, [(0, .int a2), (1, .int 0), (2, .int 20)], [.int 0], (0, 0), mi_G) (by rfl) ?_
      exact mi_sem_ret (cal := fun _ _ _ => none) mi_in120 (by rfl)
    refine mi_sem_call mi_in90 (i := (.invokestatic 74, 3, 120, 0, 9, 0, 152)) (by rfl) (by rfl) hM556 (by decide) ⟨Nat.le_of_ble_eq_true rfl, Nat.le_of_ble_eq_true rfl⟩ ?_
    refine mi_sem_steps mi_in90 (mi_calok_none _ _) 2 _ (24, [(0, .ref 0), (1, .int a1), (2, .int a2), (3, .int a3)], [.int (-1)], (0, 0), mi_G) (by rfl) ?_
    exact mi_sem_ret (cal := fun _ _ _ => none) mi_in90 (by rfl)
  · refine mi_met_of (y := 177) (q := (mi_h177, mi_c177)) rfl (by decide) (Nat.le_of_ble_eq_true rfl) ?_
    refine mi_sem_steps mi_in177 (mi_calok_none _ _) 1 _ (1, [(0, .ref 116), (1, .int a1), (2, .int a2), (3, .int a3)], [.int a1], (0, 0), mi_G) (by rfl) ?_
    have hM558 : mi_Met mi_N0 2 mi_h133 [.int a1] mi_G (some (.int 0)) mi_G := by
      refine mi_met_of (y := 133) (q := (mi_h133, mi_c133)) rfl (by decide) (Nat.le_of_ble_eq_true rfl) ?_
      refine mi_sem_steps mi_in133 (mi_calok_none _ _) 3 _ (3, [(0, .int a1)], [.int 5, .int 0, .int a1], (0, 0), mi_G) (by rfl) ?_
      have hM557 : mi_Met mi_N0 1 mi_h131 [.int a1, .int 0, .int 5] mi_G (some (.int 0)) mi_G := by
        refine mi_met_of (y := 131) (q := (mi_h131, mi_c131)) rfl (by decide) (Nat.le_of_ble_eq_true rfl) ?_
        refine mi_sem_steps mi_in131 (mi_calok_none _ _) 2 _ (2, [(0, .int a1), (1, .int 0), (2, .int 5)], [.int 0, .int a1], (0, 0), mi_G) (by rfl) ?_
        refine mi_sem_b mi_in131 (decide (a1 < 0)) true (mi_ltT (0) (by decide) (by omega)) 14 5 ([(0, .int a1), (1, .int 0), (2, .int 5)], [], (0, 0), mi_G) (by rfl) ?_
        refine mi_sem_steps mi_in131 (mi_calok_none _ _) 1 _ (15, [(0, .int a1), (1, .int 0), (2, .int 5)], [.int 0], (0, 0), mi_G) (by rfl) ?_
        exact mi_sem_ret (cal := fun _ _ _ => none) mi_in131 (by rfl)
      refine mi_sem_call mi_in133 (i := (.invokestatic 119, 3, 131, 0, 9, 0, 379)) (by rfl) (by rfl) hM557 (by decide) ⟨Nat.le_of_ble_eq_true rfl, Nat.le_of_ble_eq_true rfl⟩ ?_
      exact mi_sem_ret (cal := fun _ _ _ => none) mi_in133 (by rfl)
    refine mi_sem_call mi_in177 (i := (.invokestatic 127, 3, 133, 0, 9, 0, 382)) (by rfl) (by rfl) hM558 (by decide) ⟨Nat.le_of_ble_eq_true rfl, Nat.le_of_ble_eq_true rfl⟩ ?_
    refine mi_sem_steps mi_in177 (mi_calok_none _ _) 2 _ (31, [(0, .ref 116), (1, .int a1), (2, .int a2), (3, .int a3)], [.int (-1)], (0, 0), mi_G) (by rfl) ?_
    exact mi_sem_ret (cal := fun _ _ _ => none) mi_in177 (by rfl)

set_option maxRecDepth 100000 in
set_option maxHeartbeats 4000000 in
theorem mp_later_1 (a1 : Int32) (a2 : Int32) (a3 : Int32) (r0 : (-2147483648) ≤ (a2).toInt ∧ (a2).toInt ≤ (-1)) (r1 : 0 ≤ (a1).toInt ∧ (a1).toInt ≤ 5) : mi_P 90 177 [.int a1, .int a2, .int a3] := by
  refine ⟨.int (-1), mi_G, mi_G, (mi_h90, mi_c90), (mi_h177, mi_c177), 2, 3, rfl, rfl, rfl, by decide, by decide, ?_, ?_⟩
  · refine mi_met_of (y := 90) (q := (mi_h90, mi_c90)) rfl (by decide) (Nat.le_of_ble_eq_true rfl) ?_
    refine mi_sem_steps mi_in90 (mi_calok_none _ _) 3 _ (4, [(0, .ref 0), (1, .int a1), (2, .int a2), (3, .int a3)], [.int 20, .int 0, .int a2], (0, 0), mi_G) (by rfl) ?_
    have hM560 : mi_Met mi_N0 1 mi_h120 [.int a2, .int 0, .int 20] mi_G (some (.int 0)) mi_G := by
      refine mi_met_of (y := 120) (q := (mi_h120, mi_c120)) rfl (by decide) (Nat.le_of_ble_eq_true rfl) ?_
      refine mi_sem_steps mi_in120 (mi_calok_none _ _) 2 _ (2, [(0, .int a2), (1, .int 0), (2, .int 20)], [.int 0, .int a2], (0, 0), mi_G) (by rfl) ?_
      refine mi_sem_b mi_in120 (decide (a2 < 0)) true (mi_ltT (0) (by decide) (by omega)) 14 5 ([(0, .int a2), (1, .int 0), (2, .int 20)], [], (0, 0), mi_G) (by rfl) ?_
      refine mi_sem_steps mi_in120 (mi_calok_none _ _) 1 _ (15, [(0, .int a2), (1, .int 0), (2, .int 20)], [.int 0], (0, 0), mi_G) (by rfl) ?_
      exact mi_sem_ret (cal := fun _ _ _ => none) mi_in120 (by rfl)
    refine mi_sem_call mi_in90 (i := (.invokestatic 74, 3, 120, 0, 9, 0, 152)) (by rfl) (by rfl) hM560 (by decide) ⟨Nat.le_of_ble_eq_true rfl, Nat.le_of_ble_eq_true rfl⟩ ?_
    refine mi_sem_steps mi_in90 (mi_calok_none _ _) 2 _ (24, [(0, .ref 0), (1, .int a1), (2, .int a2), (3, .int a3)], [.int (-1)], (0, 0), mi_G) (by rfl) ?_
    exact mi_sem_ret (cal := fun _ _ _ => none) mi_in90 (by rfl)
  · refine mi_met_of (y := 177) (q := (mi_h177, mi_c177)) rfl (by decide) (Nat.le_of_ble_eq_true rfl) ?_
    refine mi_sem_steps mi_in177 (mi_calok_none _ _) 1 _ (1, [(0, .ref 116), (1, .int a1), (2, .int a2), (3, .int a3)], [.int a1], (0, 0), mi_G) (by rfl) ?_
    have hM562 : mi_Met mi_N0 2 mi_h133 [.int a1] mi_G (some (.int 1)) mi_G := by
      refine mi_met_of (y := 133) (q := (mi_h133, mi_c133)) rfl (by decide) (Nat.le_of_ble_eq_true rfl) ?_
      refine mi_sem_steps mi_in133 (mi_calok_none _ _) 3 _ (3, [(0, .int a1)], [.int 5, .int 0, .int a1], (0, 0), mi_G) (by rfl) ?_
      have hM561 : mi_Met mi_N0 1 mi_h131 [.int a1, .int 0, .int 5] mi_G (some (.int 1)) mi_G := by
        refine mi_met_of (y := 131) (q := (mi_h131, mi_c131)) rfl (by decide) (Nat.le_of_ble_eq_true rfl) ?_
        refine mi_sem_steps mi_in131 (mi_calok_none _ _) 2 _ (2, [(0, .int a1), (1, .int 0), (2, .int 5)], [.int 0, .int a1], (0, 0), mi_G) (by rfl) ?_
        refine mi_sem_b mi_in131 (decide (a1 < 0)) false (mi_ltF (0) (by decide) (by omega)) 14 5 ([(0, .int a1), (1, .int 0), (2, .int 5)], [], (0, 0), mi_G) (by rfl) ?_
        refine mi_sem_steps mi_in131 (mi_calok_none _ _) 2 _ (7, [(0, .int a1), (1, .int 0), (2, .int 5)], [.int 5, .int a1], (0, 0), mi_G) (by rfl) ?_
        refine mi_sem_b mi_in131 (decide (5 < a1)) false (mi_ltF2 (5) (by decide) (by omega)) 14 10 ([(0, .int a1), (1, .int 0), (2, .int 5)], [], (0, 0), mi_G) (by rfl) ?_
        refine mi_sem_steps mi_in131 (mi_calok_none _ _) 2 _ (15, [(0, .int a1), (1, .int 0), (2, .int 5)], [.int 1], (0, 0), mi_G) (by rfl) ?_
        exact mi_sem_ret (cal := fun _ _ _ => none) mi_in131 (by rfl)
      refine mi_sem_call mi_in133 (i := (.invokestatic 119, 3, 131, 0, 9, 0, 379)) (by rfl) (by rfl) hM561 (by decide) ⟨Nat.le_of_ble_eq_true rfl, Nat.le_of_ble_eq_true rfl⟩ ?_
      exact mi_sem_ret (cal := fun _ _ _ => none) mi_in133 (by rfl)
    refine mi_sem_call mi_in177 (i := (.invokestatic 127, 3, 133, 0, 9, 0, 382)) (by rfl) (by rfl) hM562 (by decide) ⟨Nat.le_of_ble_eq_true rfl, Nat.le_of_ble_eq_true rfl⟩ ?_
    refine mi_sem_steps mi_in177 (mi_calok_none _ _) 4 _ (11, [(0, .ref 116), (1, .int a1), (2, .int a2), (3, .int a3)], [.int 20, .int 0, .int a2], (0, 0), mi_G) (by rfl) ?_
    have hM563 : mi_Met mi_N0 1 mi_h131 [.int a2, .int 0, .int 20] mi_G (some (.int 0)) mi_G := by
      refine mi_met_of (y := 131) (q := (mi_h131, mi_c131)) rfl (by decide) (Nat.le_of_ble_eq_true rfl) ?_
      refine mi_sem_steps mi_in131 (mi_calok_none _ _) 2 _ (2, [(0, .int a2), (1, .int 0), (2, .int 20)], [.int 0, .int a2], (0, 0), mi_G) (by rfl) ?_
      refine mi_sem_b mi_in131 (decide (a2 < 0)) true (mi_ltT (0) (by decide) (by omega)) 14 5 ([(0, .int a2), (1, .int 0), (2, .int 20)], [], (0, 0), mi_G) (by rfl) ?_
      refine mi_sem_steps mi_in131 (mi_calok_none _ _) 1 _ (15, [(0, .int a2), (1, .int 0), (2, .int 20)], [.int 0], (0, 0), mi_G) (by rfl) ?_
      exact mi_sem_ret (cal := fun _ _ _ => none) mi_in131 (by rfl)
    refine mi_sem_call mi_in177 (i := (.invokestatic 119, 3, 131, 0, 9, 0, 379)) (by rfl) (by rfl) hM563 (by decide) ⟨Nat.le_of_ble_eq_true rfl, Nat.le_of_ble_eq_true rfl⟩ ?_
    refine mi_sem_steps mi_in177 (mi_calok_none _ _) 2 _ (31, [(0, .ref 116), (1, .int a1), (2, .int a2), (3, .int a3)], [.int (-1)], (0, 0), mi_G) (by rfl) ?_
    exact mi_sem_ret (cal := fun _ _ _ => none) mi_in177 (by rfl)

set_option maxRecDepth 100000 in
set_option maxHeartbeats 4000000 in
theorem mp_later_2 (a1 : Int32) (a2 : Int32) (a3 : Int32) (r0 : (-2147483648) ≤ (a2).toInt ∧ (a2).toInt ≤ (-1)) (r1 : 6 ≤ (a1).toInt ∧ (a1).toInt ≤ 2147483647) : mi_P 90 177 [.int a1, .int a2, .int a3] := by
  refine ⟨.int (-1), mi_G, mi_G, (mi_h90, mi_c90), (mi_h177, mi_c177), 2, 3, rfl, rfl, rfl, by decide, by decide, ?_, ?_⟩
  · refine mi_met_of (y := 90) (q := (mi_h90, mi_c90)) rfl (by decide) (Nat.le_of_ble_eq_true rfl) ?_
    refine mi_sem_steps mi_in90 (mi_calok_none _ _) 3 _ (4, [(0, .ref 0), (1, .int a1), (2, .int a2), (3, .int a3)], [.int 20, .int 0, .int a2], (0, 0), mi_G) (by rfl) ?_
    have hM564 : mi_Met mi_N0 1 mi_h120 [.int a2, .int 0, .int 20] mi_G (some (.int 0)) mi_G := by
      refine mi_met_of (y := 120) (q := (mi_h120, mi_c120)) rfl (by decide) (Nat.le_of_ble_eq_true rfl) ?_
      refine mi_sem_steps mi_in120 (mi_calok_none _ _) 2 _ (2, [(0, .int a2), (1, .int 0), (2, .int 20)], [.int 0, .int a2], (0, 0), mi_G) (by rfl) ?_
      refine mi_sem_b mi_in120 (decide (a2 < 0)) true (mi_ltT (0) (by decide) (by omega)) 14 5 ([(0, .int a2), (1, .int 0), (2, .int 20)], [], (0, 0), mi_G) (by rfl) ?_
      refine mi_sem_steps mi_in120 (mi_calok_none _ _) 1 _ (15, [(0, .int a2), (1, .int 0), (2, .int 20)], [.int 0], (0, 0), mi_G) (by rfl) ?_
      exact mi_sem_ret (cal := fun _ _ _ => none) mi_in120 (by rfl)
    refine mi_sem_call mi_in90 (i := (.invokestatic 74, 3, 120, 0, 9, 0, 152)) (by rfl) (by rfl) hM564 (by decide) ⟨Nat.le_of_ble_eq_true rfl, Nat.le_of_ble_eq_true rfl⟩ ?_
    refine mi_sem_steps mi_in90 (mi_calok_none _ _) 2 _ (24, [(0, .ref 0), (1, .int a1), (2, .int a2), (3, .int a3)], [.int (-1)], (0, 0), mi_G) (by rfl) ?_
    exact mi_sem_ret (cal := fun _ _ _ => none) mi_in90 (by rfl)
  · refine mi_met_of (y := 177) (q := (mi_h177, mi_c177)) rfl (by decide) (Nat.le_of_ble_eq_true rfl) ?_
    refine mi_sem_steps mi_in177 (mi_calok_none _ _) 1 _ (1, [(0, .ref 116), (1, .int a1), (2, .int a2), (3, .int a3)], [.int a1], (0, 0), mi_G) (by rfl) ?_
    have hM566 : mi_Met mi_N0 2 mi_h133 [.int a1] mi_G (some (.int 0)) mi_G := by
      refine mi_met_of (y := 133) (q := (mi_h133, mi_c133)) rfl (by decide) (Nat.le_of_ble_eq_true rfl) ?_
      refine mi_sem_steps mi_in133 (mi_calok_none _ _) 3 _ (3, [(0, .int a1)], [.int 5, .int 0, .int a1], (0, 0), mi_G) (by rfl) ?_
      have hM565 : mi_Met mi_N0 1 mi_h131 [.int a1, .int 0, .int 5] mi_G (some (.int 0)) mi_G := by
        refine mi_met_of (y := 131) (q := (mi_h131, mi_c131)) rfl (by decide) (Nat.le_of_ble_eq_true rfl) ?_
        refine mi_sem_steps mi_in131 (mi_calok_none _ _) 2 _ (2, [(0, .int a1), (1, .int 0), (2, .int 5)], [.int 0, .int a1], (0, 0), mi_G) (by rfl) ?_
        refine mi_sem_b mi_in131 (decide (a1 < 0)) false (mi_ltF (0) (by decide) (by omega)) 14 5 ([(0, .int a1), (1, .int 0), (2, .int 5)], [], (0, 0), mi_G) (by rfl) ?_
        refine mi_sem_steps mi_in131 (mi_calok_none _ _) 2 _ (7, [(0, .int a1), (1, .int 0), (2, .int 5)], [.int 5, .int a1], (0, 0), mi_G) (by rfl) ?_
        refine mi_sem_b mi_in131 (decide (5 < a1)) true (mi_ltT2 (5) (by decide) (by omega)) 14 10 ([(0, .int a1), (1, .int 0), (2, .int 5)], [], (0, 0), mi_G) (by rfl) ?_
        refine mi_sem_steps mi_in131 (mi_calok_none _ _) 1 _ (15, [(0, .int a1), (1, .int 0), (2, .int 5)], [.int 0], (0, 0), mi_G) (by rfl) ?_
        exact mi_sem_ret (cal := fun _ _ _ => none) mi_in131 (by rfl)
      refine mi_sem_call mi_in133 (i := (.invokestatic 119, 3, 131, 0, 9, 0, 379)) (by rfl) (by rfl) hM565 (by decide) ⟨Nat.le_of_ble_eq_true rfl, Nat.le_of_ble_eq_true rfl⟩ ?_
      exact mi_sem_ret (cal := fun _ _ _ => none) mi_in133 (by rfl)
    refine mi_sem_call mi_in177 (i := (.invokestatic 127, 3, 133, 0, 9, 0, 382)) (by rfl) (by rfl) hM566 (by decide) ⟨Nat.le_of_ble_eq_true rfl, Nat.le_of_ble_eq_true rfl⟩ ?_
    refine mi_sem_steps mi_in177 (mi_calok_none _ _) 2 _ (31, [(0, .ref 116), (1, .int a1), (2, .int a2), (3, .int a3)], [.int (-1)], (0, 0), mi_G) (by rfl) ?_
    exact mi_sem_ret (cal := fun _ _ _ => none) mi_in177 (by rfl)

set_option maxRecDepth 100000 in
set_option maxHeartbeats 4000000 in
theorem mp_later_3 (a1 : Int32) (a2 : Int32) (a3 : Int32) (r0 : 0 ≤ (a2).toInt ∧ (a2).toInt ≤ 20) (r1 : (-2147483648) ≤ (a3).toInt ∧ (a3).toInt ≤ (-2)) (r2 : (-2147483648) ≤ (a1).toInt ∧ (a1).toInt ≤ (-1)) : mi_P 90 177 [.int a1, .int a2, .int a3] := by
  refine ⟨.int (-1), mi_G, mi_G, (mi_h90, mi_c90), (mi_h177, mi_c177), 3, 3, rfl, rfl, rfl, by decide, by decide, ?_, ?_⟩
  · refine mi_met_of (y := 90) (q := (mi_h90, mi_c90)) rfl (by decide) (Nat.le_of_ble_eq_true rfl) ?_
    refine mi_sem_steps mi_in90 (mi_calok_none _ _) 3 _ (4, [(0, .ref 0), (1, .int a1), (2, .int a2), (3, .int a3)], [.int 20, .int 0, .int a2], (0, 0), mi_G) (by rfl) ?_
    have hM571 : mi_Met mi_N0 1 mi_h120 [.int a2, .int 0, .int 20] mi_G (some (.int 1)) mi_G := by
      refine mi_met_of (y := 120) (q := (mi_h120, mi_c120)) rfl (by decide) (Nat.le_of_ble_eq_true rfl) ?_
      refine mi_sem_steps mi_in120 (mi_calok_none _ _) 2 _ (2, [(0, .int a2), (1, .int 0), (2, .int 20)], [.int 0, .int a2], (0, 0), mi_G) (by rfl) ?_
      refine mi_sem_b mi_in120 (decide (a2 < 0)) false (mi_ltF (0) (by decide) (by omega)) 14 5 ([(0, .int a2), (1, .int 0), (2, .int 20)], [], (0, 0), mi_G) (by rfl) ?_
      refine mi_sem_steps mi_in120 (mi_calok_none _ _) 2 _ (7, [(0, .int a2), (1, .int 0), (2, .int 20)], [.int 20, .int a2], (0, 0), mi_G) (by rfl) ?_
      refine mi_sem_b mi_in120 (decide (20 < a2)) false (mi_ltF2 (20) (by decide) (by omega)) 14 10 ([(0, .int a2), (1, .int 0), (2, .int 20)], [], (0, 0), mi_G) (by rfl) ?_
      refine mi_sem_steps mi_in120 (mi_calok_none _ _) 2 _ (15, [(0, .int a2), (1, .int 0), (2, .int 20)], [.int 1], (0, 0), mi_G) (by rfl) ?_
      exact mi_sem_ret (cal := fun _ _ _ => none) mi_in120 (by rfl)
    refine mi_sem_call mi_in90 (i := (.invokestatic 74, 3, 120, 0, 9, 0, 152)) (by rfl) (by rfl) hM571 (by decide) ⟨Nat.le_of_ble_eq_true rfl, Nat.le_of_ble_eq_true rfl⟩ ?_
    refine mi_sem_steps mi_in90 (mi_calok_none _ _) 3 _ (12, [(0, .ref 0), (1, .int a1), (2, .int a2), (3, .int a3)], [.int (-1), .int a3], (0, 0), mi_G) (by rfl) ?_
    refine mi_sem_b mi_in90 ((a3 == (-1))) false (mi_eqF (-1) (by decide) (by omega)) 25 15 ([(0, .ref 0), (1, .int a1), (2, .int a2), (3, .int a3)], [], (0, 0), mi_G) (by rfl) ?_
    refine mi_sem_steps mi_in90 (mi_calok_none _ _) 2 _ (17, [(0, .ref 0), (1, .int a1), (2, .int a2), (3, .int a3)], [.int a3, .ref 0], (0, 0), mi_G) (by rfl) ?_
    have hM573 : mi_Met mi_N0 2 mi_h123 [.ref 0, .int a3] mi_G (some (.int 0)) mi_G := by
      refine mi_met_of (y := 123) (q := (mi_h123, mi_c123)) rfl (by decide) (Nat.le_of_ble_eq_true rfl) ?_
      refine mi_sem_steps mi_in123 (mi_calok_none _ _) 3 _ (5, [(0, .ref 0), (1, .int a3)], [.int a3, .ref 1], (0, 0), mi_G) (by rfl) ?_
      have hM572 : mi_Met mi_N0 1 mi_h24 [.ref 1, .int a3] mi_G (some (.int 0)) mi_G := by
        refine mi_met_of (y := 24) (q := (mi_h24, mi_c24)) rfl (by decide) (Nat.le_of_ble_eq_true rfl) ?_
        refine mi_sem_steps mi_in24 (mi_calok_none _ _) 1 _ (1, [(0, .ref 1), (1, .int a3)], [.int a3], (0, 0), mi_G) (by rfl) ?_
        refine mi_sem_b mi_in24 (decide (a3 < 0)) true (mi_ltT (0) (by decide) (by omega)) 22 4 ([(0, .ref 1), (1, .int a3)], [], (0, 0), mi_G) (by rfl) ?_
        refine mi_sem_steps mi_in24 (mi_calok_none _ _) 1 _ (23, [(0, .ref 1), (1, .int a3)], [.int 0], (0, 0), mi_G) (by rfl) ?_
        exact mi_sem_ret (cal := fun _ _ _ => none) mi_in24 (by rfl)
      refine mi_sem_call mi_in123 (i := (.invokevirtual 342, 3, 24, 0, 9, 0, 163)) (by rfl) (by rfl) hM572 (by decide) ⟨Nat.le_of_ble_eq_true rfl, Nat.le_of_ble_eq_true rfl⟩ ?_
      exact mi_sem_ret (cal := fun _ _ _ => none) mi_in123 (by rfl)
    refine mi_sem_call mi_in90 (i := (.invokevirtual 141, 3, 123, 0, 9, 0, 162)) (by rfl) (by rfl) hM573 (by decide) ⟨Nat.le_of_ble_eq_true rfl, Nat.le_of_ble_eq_true rfl⟩ ?_
    refine mi_sem_steps mi_in90 (mi_calok_none _ _) 2 _ (24, [(0, .ref 0), (1, .int a1), (2, .int a2), (3, .int a3)], [.int (-1)], (0, 0), mi_G) (by rfl) ?_
    exact mi_sem_ret (cal := fun _ _ _ => none) mi_in90 (by rfl)
  · refine mi_met_of (y := 177) (q := (mi_h177, mi_c177)) rfl (by decide) (Nat.le_of_ble_eq_true rfl) ?_
    refine mi_sem_steps mi_in177 (mi_calok_none _ _) 1 _ (1, [(0, .ref 116), (1, .int a1), (2, .int a2), (3, .int a3)], [.int a1], (0, 0), mi_G) (by rfl) ?_
    have hM575 : mi_Met mi_N0 2 mi_h133 [.int a1] mi_G (some (.int 0)) mi_G := by
      refine mi_met_of (y := 133) (q := (mi_h133, mi_c133)) rfl (by decide) (Nat.le_of_ble_eq_true rfl) ?_
      refine mi_sem_steps mi_in133 (mi_calok_none _ _) 3 _ (3, [(0, .int a1)], [.int 5, .int 0, .int a1], (0, 0), mi_G) (by rfl) ?_
      have hM574 : mi_Met mi_N0 1 mi_h131 [.int a1, .int 0, .int 5] mi_G (some (.int 0)) mi_G := by
        refine mi_met_of (y := 131) (q := (mi_h131, mi_c131)) rfl (by decide) (Nat.le_of_ble_eq_true rfl) ?_
        refine mi_sem_steps mi_in131 (mi_calok_none _ _) 2 _ (2, [(0, .int a1), (1, .int 0), (2, .int 5)], [.int 0, .int a1], (0, 0), mi_G) (by rfl) ?_
        refine mi_sem_b mi_in131 (decide (a1 < 0)) true (mi_ltT (0) (by decide) (by omega)) 14 5 ([(0, .int a1), (1, .int 0), (2, .int 5)], [], (0, 0), mi_G) (by rfl) ?_
        refine mi_sem_steps mi_in131 (mi_calok_none _ _) 1 _ (15, [(0, .int a1), (1, .int 0), (2, .int 5)], [.int 0], (0, 0), mi_G) (by rfl) ?_
        exact mi_sem_ret (cal := fun _ _ _ => none) mi_in131 (by rfl)
      refine mi_sem_call mi_in133 (i := (.invokestatic 119, 3, 131, 0, 9, 0, 379)) (by rfl) (by rfl) hM574 (by decide) ⟨Nat.le_of_ble_eq_true rfl, Nat.le_of_ble_eq_true rfl⟩ ?_
      exact mi_sem_ret (cal := fun _ _ _ => none) mi_in133 (by rfl)
    refine mi_sem_call mi_in177 (i := (.invokestatic 127, 3, 133, 0, 9, 0, 382)) (by rfl) (by rfl) hM575 (by decide) ⟨Nat.le_of_ble_eq_true rfl, Nat.le_of_ble_eq_true rfl⟩ ?_
    refine mi_sem_steps mi_in177 (mi_calok_none _ _) 2 _ (31, [(0, .ref 116), (1, .int a1), (2, .int a2), (3, .int a3)], [.int (-1)], (0, 0), mi_G) (by rfl) ?_
    exact mi_sem_ret (cal := fun _ _ _ => none) mi_in177 (by rfl)

set_option maxRecDepth 100000 in
set_option maxHeartbeats 4000000 in
theorem mp_later_4 (a1 : Int32) (a2 : Int32) (a3 : Int32) (r0 : 0 ≤ (a2).toInt ∧ (a2).toInt ≤ 20) (r1 : (-2147483648) ≤ (a3).toInt ∧ (a3).toInt ≤ (-2)) (r2 : 0 ≤ (a1).toInt ∧ (a1).toInt ≤ 5) : mi_P 90 177 [.int a1, .int a2, .int a3] := by
  refine ⟨.int (-1), mi_G, mi_G, (mi_h90, mi_c90), (mi_h177, mi_c177), 3, 3, rfl, rfl, rfl, by decide, by decide, ?_, ?_⟩
  · refine mi_met_of (y := 90) (q := (mi_h90, mi_c90)) rfl (by decide) (Nat.le_of_ble_eq_true rfl) ?_
    refine mi_sem_steps mi_in90 (mi_calok_none _ _) 3 _ (4, [(0, .ref 0), (1, .int a1), (2, .int a2), (3, .int a3)], [.int 20, .int 0, .int a2], (0, 0), mi_G) (by rfl) ?_
    have hM579 : mi_Met mi_N0 1 mi_h120 [.int a2, .int 0, .int 20] mi_G (some (.int 1)) mi_G := by
      refine mi_met_of (y := 120) (q := (mi_h120, mi_c120)) rfl (by decide) (Nat.le_of_ble_eq_true rfl) ?_
      refine mi_sem_steps mi_in120 (mi_calok_none _ _) 2 _ (2, [(0, .int a2), (1, .int 0), (2, .int 20)], [.int 0, .int a2], (0, 0), mi_G) (by rfl) ?_
      refine mi_sem_b mi_in120 (decide (a2 < 0)) false (mi_ltF (0) (by decide) (by omega)) 14 5 ([(0, .int a2), (1, .int 0), (2, .int 20)], [], (0, 0), mi_G) (by rfl) ?_
      refine mi_sem_steps mi_in120 (mi_calok_none _ _) 2 _ (7, [(0, .int a2), (1, .int 0), (2, .int 20)], [.int 20, .int a2], (0, 0), mi_G) (by rfl) ?_
      refine mi_sem_b mi_in120 (decide (20 < a2)) false (mi_ltF2 (20) (by decide) (by omega)) 14 10 ([(0, .int a2), (1, .int 0), (2, .int 20)], [], (0, 0), mi_G) (by rfl) ?_
      refine mi_sem_steps mi_in120 (mi_calok_none _ _) 2 _ (15, [(0, .int a2), (1, .int 0), (2, .int 20)], [.int 1], (0, 0), mi_G) (by rfl) ?_
      exact mi_sem_ret (cal := fun _ _ _ => none) mi_in120 (by rfl)
    refine mi_sem_call mi_in90 (i := (.invokestatic 74, 3, 120, 0, 9, 0, 152)) (by rfl) (by rfl) hM579 (by decide) ⟨Nat.le_of_ble_eq_true rfl, Nat.le_of_ble_eq_true rfl⟩ ?_
    refine mi_sem_steps mi_in90 (mi_calok_none _ _) 3 _ (12, [(0, .ref 0), (1, .int a1), (2, .int a2), (3, .int a3)], [.int (-1), .int a3], (0, 0), mi_G) (by rfl) ?_
    refine mi_sem_b mi_in90 ((a3 == (-1))) false (mi_eqF (-1) (by decide) (by omega)) 25 15 ([(0, .ref 0), (1, .int a1), (2, .int a2), (3, .int a3)], [], (0, 0), mi_G) (by rfl) ?_
    refine mi_sem_steps mi_in90 (mi_calok_none _ _) 2 _ (17, [(0, .ref 0), (1, .int a1), (2, .int a2), (3, .int a3)], [.int a3, .ref 0], (0, 0), mi_G) (by rfl) ?_
    have hM581 : mi_Met mi_N0 2 mi_h123 [.ref 0, .int a3] mi_G (some (.int 0)) mi_G := by
      refine mi_met_of (y := 123) (q := (mi_h123, mi_c123)) rfl (by decide) (Nat.le_of_ble_eq_true rfl) ?_
      refine mi_sem_steps mi_in123 (mi_calok_none _ _) 3 _ (5, [(0, .ref 0), (1, .int a3)], [.int a3, .ref 1], (0, 0), mi_G) (by rfl) ?_
      have hM580 : mi_Met mi_N0 1 mi_h24 [.ref 1, .int a3] mi_G (some (.int 0)) mi_G := by
        refine mi_met_of (y := 24) (q := (mi_h24, mi_c24)) rfl (by decide) (Nat.le_of_ble_eq_true rfl) ?_
        refine mi_sem_steps mi_in24 (mi_calok_none _ _) 1 _ (1, [(0, .ref 1), (1, .int a3)], [.int a3], (0, 0), mi_G) (by rfl) ?_
        refine mi_sem_b mi_in24 (decide (a3 < 0)) true (mi_ltT (0) (by decide) (by omega)) 22 4 ([(0, .ref 1), (1, .int a3)], [], (0, 0), mi_G) (by rfl) ?_
        refine mi_sem_steps mi_in24 (mi_calok_none _ _) 1 _ (23, [(0, .ref 1), (1, .int a3)], [.int 0], (0, 0), mi_G) (by rfl) ?_
        exact mi_sem_ret (cal := fun _ _ _ => none) mi_in24 (by rfl)
      refine mi_sem_call mi_in123 (i := (.invokevirtual 342, 3, 24, 0, 9, 0, 163)) (by rfl) (by rfl) hM580 (by decide) ⟨Nat.le_of_ble_eq_true rfl, Nat.le_of_ble_eq_true rfl⟩ ?_
      exact mi_sem_ret (cal := fun _ _ _ => none) mi_in123 (by rfl)
    refine mi_sem_call mi_in90 (i := (.invokevirtual 141, 3, 123, 0, 9, 0, 162)) (by rfl) (by rfl) hM581 (by decide) ⟨Nat.le_of_ble_eq_true rfl, Nat.le_of_ble_eq_true rfl⟩ ?_
    refine mi_sem_steps mi_in90 (mi_calok_none _ _) 2 _ (24, [(0, .ref 0), (1, .int a1), (2, .int a2), (3, .int a3)], [.int (-1)], (0, 0), mi_G) (by rfl) ?_
    exact mi_sem_ret (cal := fun _ _ _ => none) mi_in90 (by rfl)
  · refine mi_met_of (y := 177) (q := (mi_h177, mi_c177)) rfl (by decide) (Nat.le_of_ble_eq_true rfl) ?_
    refine mi_sem_steps mi_in177 (mi_calok_none _ _) 1 _ (1, [(0, .ref 116), (1, .int a1), (2, .int a2), (3, .int a3)], [.int a1], (0, 0), mi_G) (by rfl) ?_
    have hM583 : mi_Met mi_N0 2 mi_h133 [.int a1] mi_G (some (.int 1)) mi_G := by
      refine mi_met_of (y := 133) (q := (mi_h133, mi_c133)) rfl (by decide) (Nat.le_of_ble_eq_true rfl) ?_
      refine mi_sem_steps mi_in133 (mi_calok_none _ _) 3 _ (3, [(0, .int a1)], [.int 5, .int 0, .int a1], (0, 0), mi_G) (by rfl) ?_
      have hM582 : mi_Met mi_N0 1 mi_h131 [.int a1, .int 0, .int 5] mi_G (some (.int 1)) mi_G := by
        refine mi_met_of (y := 131) (q := (mi_h131, mi_c131)) rfl (by decide) (Nat.le_of_ble_eq_true rfl) ?_
        refine mi_sem_steps mi_in131 (mi_calok_none _ _) 2 _ (2, [(0, .int a1), (1, .int 0), (2, .int 5)], [.int 0, .int a1], (0, 0), mi_G) (by rfl) ?_
        refine mi_sem_b mi_in131 (decide (a1 < 0)) false (mi_ltF (0) (by decide) (by omega)) 14 5 ([(0, .int a1), (1, .int 0), (2, .int 5)], [], (0, 0), mi_G) (by rfl) ?_
        refine mi_sem_steps mi_in131 (mi_calok_none _ _) 2 _ (7, [(0, .int a1), (1, .int 0), (2, .int 5)], [.int 5, .int a1], (0, 0), mi_G) (by rfl) ?_
        refine mi_sem_b mi_in131 (decide (5 < a1)) false (mi_ltF2 (5) (by decide) (by omega)) 14 10 ([(0, .int a1), (1, .int 0), (2, .int 5)], [], (0, 0), mi_G) (by rfl) ?_
        refine mi_sem_steps mi_in131 (mi_calok_none _ _) 2 _ (15, [(0, .int a1), (1, .int 0), (2, .int 5)], [.int 1], (0, 0), mi_G) (by rfl) ?_
        exact mi_sem_ret (cal := fun _ _ _ => none) mi_in131 (by rfl)
      refine mi_sem_call mi_in133 (i := (.invokestatic 119, 3, 131, 0, 9, 0, 379)) (by rfl) (by rfl) hM582 (by decide) ⟨Nat.le_of_ble_eq_true rfl, Nat.le_of_ble_eq_true rfl⟩ ?_
      exact mi_sem_ret (cal := fun _ _ _ => none) mi_in133 (by rfl)
    refine mi_sem_call mi_in177 (i := (.invokestatic 127, 3, 133, 0, 9, 0, 382)) (by rfl) (by rfl) hM583 (by decide) ⟨Nat.le_of_ble_eq_true rfl, Nat.le_of_ble_eq_true rfl⟩ ?_
    refine mi_sem_steps mi_in177 (mi_calok_none _ _) 4 _ (11, [(0, .ref 116), (1, .int a1), (2, .int a2), (3, .int a3)], [.int 20, .int 0, .int a2], (0, 0), mi_G) (by rfl) ?_
    have hM584 : mi_Met mi_N0 1 mi_h131 [.int a2, .int 0, .int 20] mi_G (some (.int 1)) mi_G := by
      refine mi_met_of (y := 131) (q := (mi_h131, mi_c131)) rfl (by decide) (Nat.le_of_ble_eq_true rfl) ?_
      refine mi_sem_steps mi_in131 (mi_calok_none _ _) 2 _ (2, [(0, .int a2), (1, .int 0), (2, .int 20)], [.int 0, .int a2], (0, 0), mi_G) (by rfl) ?_
      refine mi_sem_b mi_in131 (decide (a2 < 0)) false (mi_ltF (0) (by decide) (by omega)) 14 5 ([(0, .int a2), (1, .int 0), (2, .int 20)], [], (0, 0), mi_G) (by rfl) ?_
      refine mi_sem_steps mi_in131 (mi_calok_none _ _) 2 _ (7, [(0, .int a2), (1, .int 0), (2, .int 20)], [.int 20, .int a2], (0, 0), mi_G) (by rfl) ?_
      refine mi_sem_b mi_in131 (decide (20 < a2)) false (mi_ltF2 (20) (by decide) (by omega)) 14 10 ([(0, .int a2), (1, .int 0), (2, .int 20)], [], (0, 0), mi_G) (by rfl) ?_
      refine mi_sem_steps mi_in131 (mi_calok_none _ _) 2 _ (15, [(0, .int a2), (1, .int 0), (2, .int 20)], [.int 1], (0, 0), mi_G) (by rfl) ?_
      exact mi_sem_ret (cal := fun _ _ _ => none) mi_in131 (by rfl)
    refine mi_sem_call mi_in177 (i := (.invokestatic 119, 3, 131, 0, 9, 0, 379)) (by rfl) (by rfl) hM584 (by decide) ⟨Nat.le_of_ble_eq_true rfl, Nat.le_of_ble_eq_true rfl⟩ ?_
    refine mi_sem_steps mi_in177 (mi_calok_none _ _) 3 _ (19, [(0, .ref 116), (1, .int a1), (2, .int a2), (3, .int a3)], [.int (-1), .int a3], (0, 0), mi_G) (by rfl) ?_
    refine mi_sem_b mi_in177 ((a3 == (-1))) false (mi_eqF (-1) (by decide) (by omega)) 32 22 ([(0, .ref 116), (1, .int a1), (2, .int a2), (3, .int a3)], [], (0, 0), mi_G) (by rfl) ?_
    refine mi_sem_steps mi_in177 (mi_calok_none _ _) 2 _ (24, [(0, .ref 116), (1, .int a1), (2, .int a2), (3, .int a3)], [.int a3, .ref 116], (0, 0), mi_G) (by rfl) ?_
    have hM586 : mi_Met mi_N0 2 mi_h132 [.ref 116, .int a3] mi_G (some (.int 0)) mi_G := by
      refine mi_met_of (y := 132) (q := (mi_h132, mi_c132)) rfl (by decide) (Nat.le_of_ble_eq_true rfl) ?_
      refine mi_sem_steps mi_in132 (mi_calok_none _ _) 6 _ (8, [(0, .ref 116), (1, .int a3)], [.int (-1), .int 0, .int a3], (0, 0), mi_G) (by rfl) ?_
      have hM585 : mi_Met mi_N0 1 mi_h131 [.int a3, .int 0, .int (-1)] mi_G (some (.int 0)) mi_G := by
        refine mi_met_of (y := 131) (q := (mi_h131, mi_c131)) rfl (by decide) (Nat.le_of_ble_eq_true rfl) ?_
        refine mi_sem_steps mi_in131 (mi_calok_none _ _) 2 _ (2, [(0, .int a3), (1, .int 0), (2, .int (-1))], [.int 0, .int a3], (0, 0), mi_G) (by rfl) ?_
        refine mi_sem_b mi_in131 (decide (a3 < 0)) true (mi_ltT (0) (by decide) (by omega)) 14 5 ([(0, .int a3), (1, .int 0), (2, .int (-1))], [], (0, 0), mi_G) (by rfl) ?_
        refine mi_sem_steps mi_in131 (mi_calok_none _ _) 1 _ (15, [(0, .int a3), (1, .int 0), (2, .int (-1))], [.int 0], (0, 0), mi_G) (by rfl) ?_
        exact mi_sem_ret (cal := fun _ _ _ => none) mi_in131 (by rfl)
      refine mi_sem_call mi_in132 (i := (.invokestatic 119, 3, 131, 0, 9, 0, 379)) (by rfl) (by rfl) hM585 (by decide) ⟨Nat.le_of_ble_eq_true rfl, Nat.le_of_ble_eq_true rfl⟩ ?_
      exact mi_sem_ret (cal := fun _ _ _ => none) mi_in132 (by rfl)
    refine mi_sem_call mi_in177 (i := (.invokevirtual 137, 3, 132, 0, 9, 0, 387)) (by rfl) (by rfl) hM586 (by decide) ⟨Nat.le_of_ble_eq_true rfl, Nat.le_of_ble_eq_true rfl⟩ ?_
    refine mi_sem_steps mi_in177 (mi_calok_none _ _) 2 _ (31, [(0, .ref 116), (1, .int a1), (2, .int a2), (3, .int a3)], [.int (-1)], (0, 0), mi_G) (by rfl) ?_
    exact mi_sem_ret (cal := fun _ _ _ => none) mi_in177 (by rfl)

set_option maxRecDepth 100000 in
set_option maxHeartbeats 4000000 in
theorem mp_later_5 (a1 : Int32) (a2 : Int32) (a3 : Int32) (r0 : 0 ≤ (a2).toInt ∧ (a2).toInt ≤ 20) (r1 : (-2147483648) ≤ (a3).toInt ∧ (a3).toInt ≤ (-2)) (r2 : 6 ≤ (a1).toInt ∧ (a1).toInt ≤ 2147483647) : mi_P 90 177 [.int a1, .int a2, .int a3] := by
  refine ⟨.int (-1), mi_G, mi_G, (mi_h90, mi_c90), (mi_h177, mi_c177), 3, 3, rfl, rfl, rfl, by decide, by decide, ?_, ?_⟩
  · refine mi_met_of (y := 90) (q := (mi_h90, mi_c90)) rfl (by decide) (Nat.le_of_ble_eq_true rfl) ?_
    refine mi_sem_steps mi_in90 (mi_calok_none _ _) 3 _ (4, [(0, .ref 0), (1, .int a1), (2, .int a2), (3, .int a3)], [.int 20, .int 0, .int a2], (0, 0), mi_G) (by rfl) ?_
    have hM587 : mi_Met mi_N0 1 mi_h120 [.int a2, .int 0, .int 20] mi_G (some (.int 1)) mi_G := by
      refine mi_met_of (y := 120) (q := (mi_h120, mi_c120)) rfl (by decide) (Nat.le_of_ble_eq_true rfl) ?_
      refine mi_sem_steps mi_in120 (mi_calok_none _ _) 2 _ (2, [(0, .int a2), (1, .int 0), (2, .int 20)], [.int 0, .int a2], (0, 0), mi_G) (by rfl) ?_
      refine mi_sem_b mi_in120 (decide (a2 < 0)) false (mi_ltF (0) (by decide) (by omega)) 14 5 ([(0, .int a2), (1, .int 0), (2, .int 20)], [], (0, 0), mi_G) (by rfl) ?_
      refine mi_sem_steps mi_in120 (mi_calok_none _ _) 2 _ (7, [(0, .int a2), (1, .int 0), (2, .int 20)], [.int 20, .int a2], (0, 0), mi_G) (by rfl) ?_
      refine mi_sem_b mi_in120 (decide (20 < a2)) false (mi_ltF2 (20) (by decide) (by omega)) 14 10 ([(0, .int a2), (1, .int 0), (2, .int 20)], [], (0, 0), mi_G) (by rfl) ?_
      refine mi_sem_steps mi_in120 (mi_calok_none _ _) 2 _ (15, [(0, .int a2), (1, .int 0), (2, .int 20)], [.int 1], (0, 0), mi_G) (by rfl) ?_
      exact mi_sem_ret (cal := fun _ _ _ => none) mi_in120 (by rfl)
    refine mi_sem_call mi_in90 (i := (.invokestatic 74, 3, 120, 0, 9, 0, 152)) (by rfl) (by rfl) hM587 (by decide) ⟨Nat.le_of_ble_eq_true rfl, Nat.le_of_ble_eq_true rfl⟩ ?_
    refine mi_sem_steps mi_in90 (mi_calok_none _ _) 3 _ (12, [(0, .ref 0), (1, .int a1), (2, .int a2), (3, .int a3)], [.int (-1), .int a3], (0, 0), mi_G) (by rfl) ?_
    refine mi_sem_b mi_in90 ((a3 == (-1))) false (mi_eqF (-1) (by decide) (by omega)) 25 15 ([(0, .ref 0), (1, .int a1), (2, .int a2), (3, .int a3)], [], (0, 0), mi_G) (by rfl) ?_
    refine mi_sem_steps mi_in90 (mi_calok_none _ _) 2 _ (17, [(0, .ref 0), (1, .int a1), (2, .int a2), (3, .int a3)], [.int a3, .ref 0], (0, 0), mi_G) (by rfl) ?_
    have hM589 : mi_Met mi_N0 2 mi_h123 [.ref 0, .int a3] mi_G (some (.int 0)) mi_G := by
      refine mi_met_of (y := 123) (q := (mi_h123, mi_c123)) rfl (by decide) (Nat.le_of_ble_eq_true rfl) ?_
      refine mi_sem_steps mi_in123 (mi_calok_none _ _) 3 _ (5, [(0, .ref 0), (1, .int a3)], [.int a3, .ref 1], (0, 0), mi_G) (by rfl) ?_
      have hM588 : mi_Met mi_N0 1 mi_h24 [.ref 1, .int a3] mi_G (some (.int 0)) mi_G := by
        refine mi_met_of (y := 24) (q := (mi_h24, mi_c24)) rfl (by decide) (Nat.le_of_ble_eq_true rfl) ?_
        refine mi_sem_steps mi_in24 (mi_calok_none _ _) 1 _ (1, [(0, .ref 1), (1, .int a3)], [.int a3], (0, 0), mi_G) (by rfl) ?_
        refine mi_sem_b mi_in24 (decide (a3 < 0)) true (mi_ltT (0) (by decide) (by omega)) 22 4 ([(0, .ref 1), (1, .int a3)], [], (0, 0), mi_G) (by rfl) ?_
        refine mi_sem_steps mi_in24 (mi_calok_none _ _) 1 _ (23, [(0, .ref 1), (1, .int a3)], [.int 0], (0, 0), mi_G) (by rfl) ?_
        exact mi_sem_ret (cal := fun _ _ _ => none) mi_in24 (by rfl)
      refine mi_sem_call mi_in123 (i := (.invokevirtual 342, 3, 24, 0, 9, 0, 163)) (by rfl) (by rfl) hM588 (by decide) ⟨Nat.le_of_ble_eq_true rfl, Nat.le_of_ble_eq_true rfl⟩ ?_
      exact mi_sem_ret (cal := fun _ _ _ => none) mi_in123 (by rfl)
    refine mi_sem_call mi_in90 (i := (.invokevirtual 141, 3, 123, 0, 9, 0, 162)) (by rfl) (by rfl) hM589 (by decide) ⟨Nat.le_of_ble_eq_true rfl, Nat.le_of_ble_eq_true rfl⟩ ?_
    refine mi_sem_steps mi_in90 (mi_calok_none _ _) 2 _ (24, [(0, .ref 0), (1, .int a1), (2, .int a2), (3, .int a3)], [.int (-1)], (0, 0), mi_G) (by rfl) ?_
    exact mi_sem_ret (cal := fun _ _ _ => none) mi_in90 (by rfl)
  · refine mi_met_of (y := 177) (q := (mi_h177, mi_c177)) rfl (by decide) (Nat.le_of_ble_eq_true rfl) ?_
    refine mi_sem_steps mi_in177 (mi_calok_none _ _) 1 _ (1, [(0, .ref 116), (1, .int a1), (2, .int a2), (3, .int a3)], [.int a1], (0, 0), mi_G) (by rfl) ?_
    have hM591 : mi_Met mi_N0 2 mi_h133 [.int a1] mi_G (some (.int 0)) mi_G := by
      refine mi_met_of (y := 133) (q := (mi_h133, mi_c133)) rfl (by decide) (Nat.le_of_ble_eq_true rfl) ?_
      refine mi_sem_steps mi_in133 (mi_calok_none _ _) 3 _ (3, [(0, .int a1)], [.int 5, .int 0, .int a1], (0, 0), mi_G) (by rfl) ?_
      have hM590 : mi_Met mi_N0 1 mi_h131 [.int a1, .int 0, .int 5] mi_G (some (.int 0)) mi_G := by
        refine mi_met_of (y := 131) (q := (mi_h131, mi_c131)) rfl (by decide) (Nat.le_of_ble_eq_true rfl) ?_
        refine mi_sem_steps mi_in131 (mi_calok_none _ _) 2 _ (2, [(0, .int a1), (1, .int 0), (2, .int 5)], [.int 0, .int a1], (0, 0), mi_G) (by rfl) ?_
        refine mi_sem_b mi_in131 (decide (a1 < 0)) false (mi_ltF (0) (by decide) (by omega)) 14 5 ([(0, .int a1), (1, .int 0), (2, .int 5)], [], (0, 0), mi_G) (by rfl) ?_
        refine mi_sem_steps mi_in131 (mi_calok_none _ _) 2 _ (7, [(0, .int a1), (1, .int 0), (2, .int 5)], [.int 5, .int a1], (0, 0), mi_G) (by rfl) ?_
        refine mi_sem_b mi_in131 (decide (5 < a1)) true (mi_ltT2 (5) (by decide) (by omega)) 14 10 ([(0, .int a1), (1, .int 0), (2, .int 5)], [], (0, 0), mi_G) (by rfl) ?_
        refine mi_sem_steps mi_in131 (mi_calok_none _ _) 1 _ (15, [(0, .int a1), (1, .int 0), (2, .int 5)], [.int 0], (0, 0), mi_G) (by rfl) ?_
        exact mi_sem_ret (cal := fun _ _ _ => none) mi_in131 (by rfl)
      refine mi_sem_call mi_in133 (i := (.invokestatic 119, 3, 131, 0, 9, 0, 379)) (by rfl) (by rfl) hM590 (by decide) ⟨Nat.le_of_ble_eq_true rfl, Nat.le_of_ble_eq_true rfl⟩ ?_
      exact mi_sem_ret (cal := fun _ _ _ => none) mi_in133 (by rfl)
    refine mi_sem_call mi_in177 (i := (.invokestatic 127, 3, 133, 0, 9, 0, 382)) (by rfl) (by rfl) hM591 (by decide) ⟨Nat.le_of_ble_eq_true rfl, Nat.le_of_ble_eq_true rfl⟩ ?_
    refine mi_sem_steps mi_in177 (mi_calok_none _ _) 2 _ (31, [(0, .ref 116), (1, .int a1), (2, .int a2), (3, .int a3)], [.int (-1)], (0, 0), mi_G) (by rfl) ?_
    exact mi_sem_ret (cal := fun _ _ _ => none) mi_in177 (by rfl)

set_option maxRecDepth 100000 in
set_option maxHeartbeats 4000000 in
theorem mp_later_6 (a1 : Int32) (a2 : Int32) (r0 : 0 ≤ (a2).toInt ∧ (a2).toInt ≤ 20) (r1 : (-2147483648) ≤ (a1).toInt ∧ (a1).toInt ≤ (-1)) : mi_P 90 177 [.int a1, .int a2, .int (-1)] := by
  refine ⟨.int (-1), mi_G, mi_G, (mi_h90, mi_c90), (mi_h177, mi_c177), 5, 3, rfl, rfl, rfl, by decide, by decide, ?_, ?_⟩
  · refine mi_met_of (y := 90) (q := (mi_h90, mi_c90)) rfl (by decide) (Nat.le_of_ble_eq_true rfl) ?_
    refine mi_sem_steps mi_in90 (mi_calok_none _ _) 3 _ (4, [(0, .ref 0), (1, .int a1), (2, .int a2), (3, .int (-1))], [.int 20, .int 0, .int a2], (0, 0), mi_G) (by rfl) ?_
    have hM594 : mi_Met mi_N0 1 mi_h120 [.int a2, .int 0, .int 20] mi_G (some (.int 1)) mi_G := by
      refine mi_met_of (y := 120) (q := (mi_h120, mi_c120)) rfl (by decide) (Nat.le_of_ble_eq_true rfl) ?_
      refine mi_sem_steps mi_in120 (mi_calok_none _ _) 2 _ (2, [(0, .int a2), (1, .int 0), (2, .int 20)], [.int 0, .int a2], (0, 0), mi_G) (by rfl) ?_
      refine mi_sem_b mi_in120 (decide (a2 < 0)) false (mi_ltF (0) (by decide) (by omega)) 14 5 ([(0, .int a2), (1, .int 0), (2, .int 20)], [], (0, 0), mi_G) (by rfl) ?_
      refine mi_sem_steps mi_in120 (mi_calok_none _ _) 2 _ (7, [(0, .int a2), (1, .int 0), (2, .int 20)], [.int 20, .int a2], (0, 0), mi_G) (by rfl) ?_
      refine mi_sem_b mi_in120 (decide (20 < a2)) false (mi_ltF2 (20) (by decide) (by omega)) 14 10 ([(0, .int a2), (1, .int 0), (2, .int 20)], [], (0, 0), mi_G) (by rfl) ?_
      refine mi_sem_steps mi_in120 (mi_calok_none _ _) 2 _ (15, [(0, .int a2), (1, .int 0), (2, .int 20)], [.int 1], (0, 0), mi_G) (by rfl) ?_
      exact mi_sem_ret (cal := fun _ _ _ => none) mi_in120 (by rfl)
    refine mi_sem_call mi_in90 (i := (.invokestatic 74, 3, 120, 0, 9, 0, 152)) (by rfl) (by rfl) hM594 (by decide) ⟨Nat.le_of_ble_eq_true rfl, Nat.le_of_ble_eq_true rfl⟩ ?_
    refine mi_sem_steps mi_in90 (mi_calok_none _ _) 6 _ (27, [(0, .ref 0), (1, .int a1), (2, .int a2), (3, .int (-1))], [.int a1, .ref 0], (0, 0), mi_G) (by rfl) ?_
    have hM598 : mi_Met mi_N0 4 mi_h129 [.ref 0, .int a1] mi_G (some (.int (-1))) mi_G := by
      refine mi_met_of (y := 129) (q := (mi_h129, mi_c129)) rfl (by decide) (Nat.le_of_ble_eq_true rfl) ?_
      refine mi_sem_steps mi_in129 (mi_calok_none _ _) 2 _ (2, [(0, .ref 0), (1, .int a1)], [.int a1, .ref 0], (0, 0), mi_G) (by rfl) ?_
      have hM597 : mi_Met mi_N0 3 mi_h127 [.ref 0, .int a1] mi_G (some (.int (-1))) mi_G := by
        refine mi_met_of (y := 127) (q := (mi_h127, mi_c127)) rfl (by decide) (Nat.le_of_ble_eq_true rfl) ?_
        refine mi_sem_steps mi_in127 (mi_calok_none _ _) 1 _ (1, [(0, .ref 0), (1, .int a1)], [.int a1], (0, 0), mi_G) (by rfl) ?_
        have hM596 : mi_Met mi_N0 2 mi_h121 [.int a1] mi_G (some (.int 0)) mi_G := by
          refine mi_met_of (y := 121) (q := (mi_h121, mi_c121)) rfl (by decide) (Nat.le_of_ble_eq_true rfl) ?_
          refine mi_sem_steps mi_in121 (mi_calok_none _ _) 3 _ (3, [(0, .int a1)], [.int 5, .int 0, .int a1], (0, 0), mi_G) (by rfl) ?_
          have hM595 : mi_Met mi_N0 1 mi_h120 [.int a1, .int 0, .int 5] mi_G (some (.int 0)) mi_G := by
            refine mi_met_of (y := 120) (q := (mi_h120, mi_c120)) rfl (by decide) (Nat.le_of_ble_eq_true rfl) ?_
            refine mi_sem_steps mi_in120 (mi_calok_none _ _) 2 _ (2, [(0, .int a1), (1, .int 0), (2, .int 5)], [.int 0, .int a1], (0, 0), mi_G) (by rfl) ?_
            refine mi_sem_b mi_in120 (decide (a1 < 0)) true (mi_ltT (0) (by decide) (by omega)) 14 5 ([(0, .int a1), (1, .int 0), (2, .int 5)], [], (0, 0), mi_G) (by rfl) ?_
            refine mi_sem_steps mi_in120 (mi_calok_none _ _) 1 _ (15, [(0, .int a1), (1, .int 0), (2, .int 5)], [.int 0], (0, 0), mi_G) (by rfl) ?_
            exact mi_sem_ret (cal := fun _ _ _ => none) mi_in120 (by rfl)
          refine mi_sem_call mi_in121 (i := (.invokestatic 74, 3, 120, 0, 9, 0, 152)) (by rfl) (by rfl) hM595 (by decide) ⟨Nat.le_of_ble_eq_true rfl, Nat.le_of_ble_eq_true rfl⟩ ?_
          exact mi_sem_ret (cal := fun _ _ _ => none) mi_in121 (by rfl)
        refine mi_sem_call mi_in127 (i := (.invokestatic 70, 3, 121, 0, 9, 0, 157)) (by rfl) (by rfl) hM596 (by decide) ⟨Nat.le_of_ble_eq_true rfl, Nat.le_of_ble_eq_true rfl⟩ ?_
        refine mi_sem_steps mi_in127 (mi_calok_none _ _) 2 _ (8, [(0, .ref 0), (1, .int a1)], [.int (-1)], (0, 0), mi_G) (by rfl) ?_
        exact mi_sem_ret (cal := fun _ _ _ => none) mi_in127 (by rfl)
      refine mi_sem_call mi_in129 (i := (.invokevirtual 217, 3, 127, 0, 9, 0, 209)) (by rfl) (by rfl) hM597 (by decide) ⟨Nat.le_of_ble_eq_true rfl, Nat.le_of_ble_eq_true rfl⟩ ?_
      refine mi_sem_steps mi_in129 (mi_calok_none _ _) 4 _ (31, [(2, .int (-1)), (0, .ref 0), (1, .int a1)], [.int (-1)], (0, 0), mi_G) (by rfl) ?_
      exact mi_sem_ret (cal := fun _ _ _ => none) mi_in129 (by rfl)
    refine mi_sem_call mi_in90 (i := (.invokevirtual 144, 3, 129, 0, 9, 0, 208)) (by rfl) (by rfl) hM598 (by decide) ⟨Nat.le_of_ble_eq_true rfl, Nat.le_of_ble_eq_true rfl⟩ ?_
    refine mi_sem_steps mi_in90 (mi_calok_none _ _) 4 _ (39, [(4, .int (-1)), (0, .ref 0), (1, .int a1), (2, .int a2), (3, .int (-1))], [.int (-1)], (0, 0), mi_G) (by rfl) ?_
    exact mi_sem_ret (cal := fun _ _ _ => none) mi_in90 (by rfl)
  · refine mi_met_of (y := 177) (q := (mi_h177, mi_c177)) rfl (by decide) (Nat.le_of_ble_eq_true rfl) ?_
    refine mi_sem_steps mi_in177 (mi_calok_none _ _) 1 _ (1, [(0, .ref 116), (1, .int a1), (2, .int a2), (3, .int (-1))], [.int a1], (0, 0), mi_G) (by rfl) ?_
    have hM600 : mi_Met mi_N0 2 mi_h133 [.int a1] mi_G (some (.int 0)) mi_G := by
      refine mi_met_of (y := 133) (q := (mi_h133, mi_c133)) rfl (by decide) (Nat.le_of_ble_eq_true rfl) ?_
      refine mi_sem_steps mi_in133 (mi_calok_none _ _) 3 _ (3, [(0, .int a1)], [.int 5, .int 0, .int a1], (0, 0), mi_G) (by rfl) ?_
      have hM599 : mi_Met mi_N0 1 mi_h131 [.int a1, .int 0, .int 5] mi_G (some (.int 0)) mi_G := by
        refine mi_met_of (y := 131) (q := (mi_h131, mi_c131)) rfl (by decide) (Nat.le_of_ble_eq_true rfl) ?_
        refine mi_sem_steps mi_in131 (mi_calok_none _ _) 2 _ (2, [(0, .int a1), (1, .int 0), (2, .int 5)], [.int 0, .int a1], (0, 0), mi_G) (by rfl) ?_
        refine mi_sem_b mi_in131 (decide (a1 < 0)) true (mi_ltT (0) (by decide) (by omega)) 14 5 ([(0, .int a1), (1, .int 0), (2, .int 5)], [], (0, 0), mi_G) (by rfl) ?_
        refine mi_sem_steps mi_in131 (mi_calok_none _ _) 1 _ (15, [(0, .int a1), (1, .int 0), (2, .int 5)], [.int 0], (0, 0), mi_G) (by rfl) ?_
        exact mi_sem_ret (cal := fun _ _ _ => none) mi_in131 (by rfl)
      refine mi_sem_call mi_in133 (i := (.invokestatic 119, 3, 131, 0, 9, 0, 379)) (by rfl) (by rfl) hM599 (by decide) ⟨Nat.le_of_ble_eq_true rfl, Nat.le_of_ble_eq_true rfl⟩ ?_
      exact mi_sem_ret (cal := fun _ _ _ => none) mi_in133 (by rfl)
    refine mi_sem_call mi_in177 (i := (.invokestatic 127, 3, 133, 0, 9, 0, 382)) (by rfl) (by rfl) hM600 (by decide) ⟨Nat.le_of_ble_eq_true rfl, Nat.le_of_ble_eq_true rfl⟩ ?_
    refine mi_sem_steps mi_in177 (mi_calok_none _ _) 2 _ (31, [(0, .ref 116), (1, .int a1), (2, .int a2), (3, .int (-1))], [.int (-1)], (0, 0), mi_G) (by rfl) ?_
    exact mi_sem_ret (cal := fun _ _ _ => none) mi_in177 (by rfl)

set_option maxRecDepth 100000 in
set_option maxHeartbeats 4000000 in
theorem mp_later_7 (a2 : Int32) (r0 : 0 ≤ (a2).toInt ∧ (a2).toInt ≤ 20) : mi_P 90 177 [.int 0, .int a2, .int (-1)] := by
  refine ⟨.int (-11), mi_G, mi_G, (mi_h90, mi_c90), (mi_h177, mi_c177), 5, 3, rfl, rfl, rfl, by decide, by decide, ?_, ?_⟩
  · refine mi_met_of (y := 90) (q := (mi_h90, mi_c90)) rfl (by decide) (Nat.le_of_ble_eq_true rfl) ?_
    refine mi_sem_steps mi_in90 (mi_calok_none _ _) 3 _ (4, [(0, .ref 0), (1, .int 0), (2, .int a2), (3, .int (-1))], [.int 20, .int 0, .int a2], (0, 0), mi_G) (by rfl) ?_
    have hM605 : mi_Met mi_N0 1 mi_h120 [.int a2, .int 0, .int 20] mi_G (some (.int 1)) mi_G := by
      refine mi_met_of (y := 120) (q := (mi_h120, mi_c120)) rfl (by decide) (Nat.le_of_ble_eq_true rfl) ?_
      refine mi_sem_steps mi_in120 (mi_calok_none _ _) 2 _ (2, [(0, .int a2), (1, .int 0), (2, .int 20)], [.int 0, .int a2], (0, 0), mi_G) (by rfl) ?_
      refine mi_sem_b mi_in120 (decide (a2 < 0)) false (mi_ltF (0) (by decide) (by omega)) 14 5 ([(0, .int a2), (1, .int 0), (2, .int 20)], [], (0, 0), mi_G) (by rfl) ?_
      refine mi_sem_steps mi_in120 (mi_calok_none _ _) 2 _ (7, [(0, .int a2), (1, .int 0), (2, .int 20)], [.int 20, .int a2], (0, 0), mi_G) (by rfl) ?_
      refine mi_sem_b mi_in120 (decide (20 < a2)) false (mi_ltF2 (20) (by decide) (by omega)) 14 10 ([(0, .int a2), (1, .int 0), (2, .int 20)], [], (0, 0), mi_G) (by rfl) ?_
      refine mi_sem_steps mi_in120 (mi_calok_none _ _) 2 _ (15, [(0, .int a2), (1, .int 0), (2, .int 20)], [.int 1], (0, 0), mi_G) (by rfl) ?_
      exact mi_sem_ret (cal := fun _ _ _ => none) mi_in120 (by rfl)
    refine mi_sem_call mi_in90 (i := (.invokestatic 74, 3, 120, 0, 9, 0, 152)) (by rfl) (by rfl) hM605 (by decide) ⟨Nat.le_of_ble_eq_true rfl, Nat.le_of_ble_eq_true rfl⟩ ?_
    refine mi_sem_steps mi_in90 (mi_calok_none _ _) 6 _ (27, [(0, .ref 0), (1, .int 0), (2, .int a2), (3, .int (-1))], [.int 0, .ref 0], (0, 0), mi_G) (by rfl) ?_
    have hM606 : mi_Met mi_N0 4 mi_h129 [.ref 0, .int 0] mi_G (some (.int (-11))) mi_G := mi_fun_ok mi_N0 4 129 (mi_h129, mi_c129) _ _ _ _ rfl (mi_eR_ok (by decide +kernel))
    refine mi_sem_call mi_in90 (i := (.invokevirtual 144, 3, 129, 0, 9, 0, 208)) (by rfl) (by rfl) hM606 (by decide) ⟨Nat.le_of_ble_eq_true rfl, Nat.le_of_ble_eq_true rfl⟩ ?_
    refine mi_sem_steps mi_in90 (mi_calok_none _ _) 4 _ (39, [(4, .int (-11)), (0, .ref 0), (1, .int 0), (2, .int a2), (3, .int (-1))], [.int (-11)], (0, 0), mi_G) (by rfl) ?_
    exact mi_sem_ret (cal := fun _ _ _ => none) mi_in90 (by rfl)
  · refine mi_met_of (y := 177) (q := (mi_h177, mi_c177)) rfl (by decide) (Nat.le_of_ble_eq_true rfl) ?_
    refine mi_sem_steps mi_in177 (mi_calok_none _ _) 1 _ (1, [(0, .ref 116), (1, .int 0), (2, .int a2), (3, .int (-1))], [.int 0], (0, 0), mi_G) (by rfl) ?_
    have hM607 : mi_Met mi_N0 2 mi_h133 [.int 0] mi_G (some (.int 1)) mi_G := mi_fun_ok mi_N0 2 133 (mi_h133, mi_c133) _ _ _ _ rfl (mi_eR_ok (by decide +kernel))
    refine mi_sem_call mi_in177 (i := (.invokestatic 127, 3, 133, 0, 9, 0, 382)) (by rfl) (by rfl) hM607 (by decide) ⟨Nat.le_of_ble_eq_true rfl, Nat.le_of_ble_eq_true rfl⟩ ?_
    refine mi_sem_steps mi_in177 (mi_calok_none _ _) 4 _ (11, [(0, .ref 116), (1, .int 0), (2, .int a2), (3, .int (-1))], [.int 20, .int 0, .int a2], (0, 0), mi_G) (by rfl) ?_
    have hM608 : mi_Met mi_N0 1 mi_h131 [.int a2, .int 0, .int 20] mi_G (some (.int 1)) mi_G := by
      refine mi_met_of (y := 131) (q := (mi_h131, mi_c131)) rfl (by decide) (Nat.le_of_ble_eq_true rfl) ?_
      refine mi_sem_steps mi_in131 (mi_calok_none _ _) 2 _ (2, [(0, .int a2), (1, .int 0), (2, .int 20)], [.int 0, .int a2], (0, 0), mi_G) (by rfl) ?_
      refine mi_sem_b mi_in131 (decide (a2 < 0)) false (mi_ltF (0) (by decide) (by omega)) 14 5 ([(0, .int a2), (1, .int 0), (2, .int 20)], [], (0, 0), mi_G) (by rfl) ?_
      refine mi_sem_steps mi_in131 (mi_calok_none _ _) 2 _ (7, [(0, .int a2), (1, .int 0), (2, .int 20)], [.int 20, .int a2], (0, 0), mi_G) (by rfl) ?_
      refine mi_sem_b mi_in131 (decide (20 < a2)) false (mi_ltF2 (20) (by decide) (by omega)) 14 10 ([(0, .int a2), (1, .int 0), (2, .int 20)], [], (0, 0), mi_G) (by rfl) ?_
      refine mi_sem_steps mi_in131 (mi_calok_none _ _) 2 _ (15, [(0, .int a2), (1, .int 0), (2, .int 20)], [.int 1], (0, 0), mi_G) (by rfl) ?_
      exact mi_sem_ret (cal := fun _ _ _ => none) mi_in131 (by rfl)
    refine mi_sem_call mi_in177 (i := (.invokestatic 119, 3, 131, 0, 9, 0, 379)) (by rfl) (by rfl) hM608 (by decide) ⟨Nat.le_of_ble_eq_true rfl, Nat.le_of_ble_eq_true rfl⟩ ?_
    refine mi_sem_steps mi_in177 (mi_calok_none _ _) 6 _ (34, [(0, .ref 116), (1, .int 0), (2, .int a2), (3, .int (-1))], [.int 0, .ref 116], (0, 0), mi_G) (by rfl) ?_
    have hM609 : mi_Met mi_N0 1 mi_h173 [.ref 116, .int 0] mi_G (some (.int (-11))) mi_G := mi_fun_ok mi_N0 1 173 (mi_h173, mi_c173) _ _ _ _ rfl (mi_eR_ok (by decide +kernel))
    refine mi_sem_call mi_in177 (i := (.invokevirtual 276, 3, 173, 0, 9, 0, 410)) (by rfl) (by rfl) hM609 (by decide) ⟨Nat.le_of_ble_eq_true rfl, Nat.le_of_ble_eq_true rfl⟩ ?_
    refine mi_sem_steps mi_in177 (mi_calok_none _ _) 4 _ (46, [(4, .int (-11)), (0, .ref 116), (1, .int 0), (2, .int a2), (3, .int (-1))], [.int (-11)], (0, 0), mi_G) (by rfl) ?_
    exact mi_sem_ret (cal := fun _ _ _ => none) mi_in177 (by rfl)

set_option maxRecDepth 100000 in
set_option maxHeartbeats 4000000 in
theorem mp_later_8 (a2 : Int32) (r0 : 0 ≤ (a2).toInt ∧ (a2).toInt ≤ 20) : mi_P 90 177 [.int 1, .int a2, .int (-1)] := by
  refine ⟨.int (-11), mi_G, mi_G, (mi_h90, mi_c90), (mi_h177, mi_c177), 5, 3, rfl, rfl, rfl, by decide, by decide, ?_, ?_⟩
  · refine mi_met_of (y := 90) (q := (mi_h90, mi_c90)) rfl (by decide) (Nat.le_of_ble_eq_true rfl) ?_
    refine mi_sem_steps mi_in90 (mi_calok_none _ _) 3 _ (4, [(0, .ref 0), (1, .int 1), (2, .int a2), (3, .int (-1))], [.int 20, .int 0, .int a2], (0, 0), mi_G) (by rfl) ?_
    have hM613 : mi_Met mi_N0 1 mi_h120 [.int a2, .int 0, .int 20] mi_G (some (.int 1)) mi_G := by
      refine mi_met_of (y := 120) (q := (mi_h120, mi_c120)) rfl (by decide) (Nat.le_of_ble_eq_true rfl) ?_
      refine mi_sem_steps mi_in120 (mi_calok_none _ _) 2 _ (2, [(0, .int a2), (1, .int 0), (2, .int 20)], [.int 0, .int a2], (0, 0), mi_G) (by rfl) ?_
      refine mi_sem_b mi_in120 (decide (a2 < 0)) false (mi_ltF (0) (by decide) (by omega)) 14 5 ([(0, .int a2), (1, .int 0), (2, .int 20)], [], (0, 0), mi_G) (by rfl) ?_
      refine mi_sem_steps mi_in120 (mi_calok_none _ _) 2 _ (7, [(0, .int a2), (1, .int 0), (2, .int 20)], [.int 20, .int a2], (0, 0), mi_G) (by rfl) ?_
      refine mi_sem_b mi_in120 (decide (20 < a2)) false (mi_ltF2 (20) (by decide) (by omega)) 14 10 ([(0, .int a2), (1, .int 0), (2, .int 20)], [], (0, 0), mi_G) (by rfl) ?_
      refine mi_sem_steps mi_in120 (mi_calok_none _ _) 2 _ (15, [(0, .int a2), (1, .int 0), (2, .int 20)], [.int 1], (0, 0), mi_G) (by rfl) ?_
      exact mi_sem_ret (cal := fun _ _ _ => none) mi_in120 (by rfl)
    refine mi_sem_call mi_in90 (i := (.invokestatic 74, 3, 120, 0, 9, 0, 152)) (by rfl) (by rfl) hM613 (by decide) ⟨Nat.le_of_ble_eq_true rfl, Nat.le_of_ble_eq_true rfl⟩ ?_
    refine mi_sem_steps mi_in90 (mi_calok_none _ _) 6 _ (27, [(0, .ref 0), (1, .int 1), (2, .int a2), (3, .int (-1))], [.int 1, .ref 0], (0, 0), mi_G) (by rfl) ?_
    have hM614 : mi_Met mi_N0 4 mi_h129 [.ref 0, .int 1] mi_G (some (.int (-11))) mi_G := mi_fun_ok mi_N0 4 129 (mi_h129, mi_c129) _ _ _ _ rfl (mi_eR_ok (by decide +kernel))
    refine mi_sem_call mi_in90 (i := (.invokevirtual 144, 3, 129, 0, 9, 0, 208)) (by rfl) (by rfl) hM614 (by decide) ⟨Nat.le_of_ble_eq_true rfl, Nat.le_of_ble_eq_true rfl⟩ ?_
    refine mi_sem_steps mi_in90 (mi_calok_none _ _) 4 _ (39, [(4, .int (-11)), (0, .ref 0), (1, .int 1), (2, .int a2), (3, .int (-1))], [.int (-11)], (0, 0), mi_G) (by rfl) ?_
    exact mi_sem_ret (cal := fun _ _ _ => none) mi_in90 (by rfl)
  · refine mi_met_of (y := 177) (q := (mi_h177, mi_c177)) rfl (by decide) (Nat.le_of_ble_eq_true rfl) ?_
    refine mi_sem_steps mi_in177 (mi_calok_none _ _) 1 _ (1, [(0, .ref 116), (1, .int 1), (2, .int a2), (3, .int (-1))], [.int 1], (0, 0), mi_G) (by rfl) ?_
    have hM615 : mi_Met mi_N0 2 mi_h133 [.int 1] mi_G (some (.int 1)) mi_G := mi_fun_ok mi_N0 2 133 (mi_h133, mi_c133) _ _ _ _ rfl (mi_eR_ok (by decide +kernel))
    refine mi_sem_call mi_in177 (i := (.invokestatic 127, 3, 133, 0, 9, 0, 382)) (by rfl) (by rfl) hM615 (by decide) ⟨Nat.le_of_ble_eq_true rfl, Nat.le_of_ble_eq_true rfl⟩ ?_
    refine mi_sem_steps mi_in177 (mi_calok_none _ _) 4 _ (11, [(0, .ref 116), (1, .int 1), (2, .int a2), (3, .int (-1))], [.int 20, .int 0, .int a2], (0, 0), mi_G) (by rfl) ?_
    have hM616 : mi_Met mi_N0 1 mi_h131 [.int a2, .int 0, .int 20] mi_G (some (.int 1)) mi_G := by
      refine mi_met_of (y := 131) (q := (mi_h131, mi_c131)) rfl (by decide) (Nat.le_of_ble_eq_true rfl) ?_
      refine mi_sem_steps mi_in131 (mi_calok_none _ _) 2 _ (2, [(0, .int a2), (1, .int 0), (2, .int 20)], [.int 0, .int a2], (0, 0), mi_G) (by rfl) ?_
      refine mi_sem_b mi_in131 (decide (a2 < 0)) false (mi_ltF (0) (by decide) (by omega)) 14 5 ([(0, .int a2), (1, .int 0), (2, .int 20)], [], (0, 0), mi_G) (by rfl) ?_
      refine mi_sem_steps mi_in131 (mi_calok_none _ _) 2 _ (7, [(0, .int a2), (1, .int 0), (2, .int 20)], [.int 20, .int a2], (0, 0), mi_G) (by rfl) ?_
      refine mi_sem_b mi_in131 (decide (20 < a2)) false (mi_ltF2 (20) (by decide) (by omega)) 14 10 ([(0, .int a2), (1, .int 0), (2, .int 20)], [], (0, 0), mi_G) (by rfl) ?_
      refine mi_sem_steps mi_in131 (mi_calok_none _ _) 2 _ (15, [(0, .int a2), (1, .int 0), (2, .int 20)], [.int 1], (0, 0), mi_G) (by rfl) ?_
      exact mi_sem_ret (cal := fun _ _ _ => none) mi_in131 (by rfl)
    refine mi_sem_call mi_in177 (i := (.invokestatic 119, 3, 131, 0, 9, 0, 379)) (by rfl) (by rfl) hM616 (by decide) ⟨Nat.le_of_ble_eq_true rfl, Nat.le_of_ble_eq_true rfl⟩ ?_
    refine mi_sem_steps mi_in177 (mi_calok_none _ _) 6 _ (34, [(0, .ref 116), (1, .int 1), (2, .int a2), (3, .int (-1))], [.int 1, .ref 116], (0, 0), mi_G) (by rfl) ?_
    have hM617 : mi_Met mi_N0 1 mi_h173 [.ref 116, .int 1] mi_G (some (.int (-11))) mi_G := mi_fun_ok mi_N0 1 173 (mi_h173, mi_c173) _ _ _ _ rfl (mi_eR_ok (by decide +kernel))
    refine mi_sem_call mi_in177 (i := (.invokevirtual 276, 3, 173, 0, 9, 0, 410)) (by rfl) (by rfl) hM617 (by decide) ⟨Nat.le_of_ble_eq_true rfl, Nat.le_of_ble_eq_true rfl⟩ ?_
    refine mi_sem_steps mi_in177 (mi_calok_none _ _) 4 _ (46, [(4, .int (-11)), (0, .ref 116), (1, .int 1), (2, .int a2), (3, .int (-1))], [.int (-11)], (0, 0), mi_G) (by rfl) ?_
    exact mi_sem_ret (cal := fun _ _ _ => none) mi_in177 (by rfl)

set_option maxRecDepth 100000 in
set_option maxHeartbeats 4000000 in
theorem mp_later_9 (a2 : Int32) (r0 : 0 ≤ (a2).toInt ∧ (a2).toInt ≤ 20) : mi_P 90 177 [.int 2, .int a2, .int (-1)] := by
  refine ⟨.int (-11), mi_G, mi_G, (mi_h90, mi_c90), (mi_h177, mi_c177), 5, 3, rfl, rfl, rfl, by decide, by decide, ?_, ?_⟩
  · refine mi_met_of (y := 90) (q := (mi_h90, mi_c90)) rfl (by decide) (Nat.le_of_ble_eq_true rfl) ?_
    refine mi_sem_steps mi_in90 (mi_calok_none _ _) 3 _ (4, [(0, .ref 0), (1, .int 2), (2, .int a2), (3, .int (-1))], [.int 20, .int 0, .int a2], (0, 0), mi_G) (by rfl) ?_
    have hM621 : mi_Met mi_N0 1 mi_h120 [.int a2, .int 0, .int 20] mi_G (some (.int 1)) mi_G := by
      refine mi_met_of (y := 120) (q := (mi_h120, mi_c120)) rfl (by decide) (Nat.le_of_ble_eq_true rfl) ?_
      refine mi_sem_steps mi_in120 (mi_calok_none _ _) 2 _ (2, [(0, .int a2), (1, .int 0), (2, .int 20)], [.int 0, .int a2], (0, 0), mi_G) (by rfl) ?_
      refine mi_sem_b mi_in120 (decide (a2 < 0)) false (mi_ltF (0) (by decide) (by omega)) 14 5 ([(0, .int a2), (1, .int 0), (2, .int 20)], [], (0, 0), mi_G) (by rfl) ?_
      refine mi_sem_steps mi_in120 (mi_calok_none _ _) 2 _ (7, [(0, .int a2), (1, .int 0), (2, .int 20)], [.int 20, .int a2], (0, 0), mi_G) (by rfl) ?_
      refine mi_sem_b mi_in120 (decide (20 < a2)) false (mi_ltF2 (20) (by decide) (by omega)) 14 10 ([(0, .int a2), (1, .int 0), (2, .int 20)], [], (0, 0), mi_G) (by rfl) ?_
      refine mi_sem_steps mi_in120 (mi_calok_none _ _) 2 _ (15, [(0, .int a2), (1, .int 0), (2, .int 20)], [.int 1], (0, 0), mi_G) (by rfl) ?_
      exact mi_sem_ret (cal := fun _ _ _ => none) mi_in120 (by rfl)
    refine mi_sem_call mi_in90 (i := (.invokestatic 74, 3, 120, 0, 9, 0, 152)) (by rfl) (by rfl) hM621 (by decide) ⟨Nat.le_of_ble_eq_true rfl, Nat.le_of_ble_eq_true rfl⟩ ?_
    refine mi_sem_steps mi_in90 (mi_calok_none _ _) 6 _ (27, [(0, .ref 0), (1, .int 2), (2, .int a2), (3, .int (-1))], [.int 2, .ref 0], (0, 0), mi_G) (by rfl) ?_
    have hM622 : mi_Met mi_N0 4 mi_h129 [.ref 0, .int 2] mi_G (some (.int (-11))) mi_G := mi_fun_ok mi_N0 4 129 (mi_h129, mi_c129) _ _ _ _ rfl (mi_eR_ok (by decide +kernel))
    refine mi_sem_call mi_in90 (i := (.invokevirtual 144, 3, 129, 0, 9, 0, 208)) (by rfl) (by rfl) hM622 (by decide) ⟨Nat.le_of_ble_eq_true rfl, Nat.le_of_ble_eq_true rfl⟩ ?_
    refine mi_sem_steps mi_in90 (mi_calok_none _ _) 4 _ (39, [(4, .int (-11)), (0, .ref 0), (1, .int 2), (2, .int a2), (3, .int (-1))], [.int (-11)], (0, 0), mi_G) (by rfl) ?_
    exact mi_sem_ret (cal := fun _ _ _ => none) mi_in90 (by rfl)
  · refine mi_met_of (y := 177) (q := (mi_h177, mi_c177)) rfl (by decide) (Nat.le_of_ble_eq_true rfl) ?_
    refine mi_sem_steps mi_in177 (mi_calok_none _ _) 1 _ (1, [(0, .ref 116), (1, .int 2), (2, .int a2), (3, .int (-1))], [.int 2], (0, 0), mi_G) (by rfl) ?_
    have hM623 : mi_Met mi_N0 2 mi_h133 [.int 2] mi_G (some (.int 1)) mi_G := mi_fun_ok mi_N0 2 133 (mi_h133, mi_c133) _ _ _ _ rfl (mi_eR_ok (by decide +kernel))
    refine mi_sem_call mi_in177 (i := (.invokestatic 127, 3, 133, 0, 9, 0, 382)) (by rfl) (by rfl) hM623 (by decide) ⟨Nat.le_of_ble_eq_true rfl, Nat.le_of_ble_eq_true rfl⟩ ?_
    refine mi_sem_steps mi_in177 (mi_calok_none _ _) 4 _ (11, [(0, .ref 116), (1, .int 2), (2, .int a2), (3, .int (-1))], [.int 20, .int 0, .int a2], (0, 0), mi_G) (by rfl) ?_
    have hM624 : mi_Met mi_N0 1 mi_h131 [.int a2, .int 0, .int 20] mi_G (some (.int 1)) mi_G := by
      refine mi_met_of (y := 131) (q := (mi_h131, mi_c131)) rfl (by decide) (Nat.le_of_ble_eq_true rfl) ?_
      refine mi_sem_steps mi_in131 (mi_calok_none _ _) 2 _ (2, [(0, .int a2), (1, .int 0), (2, .int 20)], [.int 0, .int a2], (0, 0), mi_G) (by rfl) ?_
      refine mi_sem_b mi_in131 (decide (a2 < 0)) false (mi_ltF (0) (by decide) (by omega)) 14 5 ([(0, .int a2), (1, .int 0), (2, .int 20)], [], (0, 0), mi_G) (by rfl) ?_
      refine mi_sem_steps mi_in131 (mi_calok_none _ _) 2 _ (7, [(0, .int a2), (1, .int 0), (2, .int 20)], [.int 20, .int a2], (0, 0), mi_G) (by rfl) ?_
      refine mi_sem_b mi_in131 (decide (20 < a2)) false (mi_ltF2 (20) (by decide) (by omega)) 14 10 ([(0, .int a2), (1, .int 0), (2, .int 20)], [], (0, 0), mi_G) (by rfl) ?_
      refine mi_sem_steps mi_in131 (mi_calok_none _ _) 2 _ (15, [(0, .int a2), (1, .int 0), (2, .int 20)], [.int 1], (0, 0), mi_G) (by rfl) ?_
      exact mi_sem_ret (cal := fun _ _ _ => none) mi_in131 (by rfl)
    refine mi_sem_call mi_in177 (i := (.invokestatic 119, 3, 131, 0, 9, 0, 379)) (by rfl) (by rfl) hM624 (by decide) ⟨Nat.le_of_ble_eq_true rfl, Nat.le_of_ble_eq_true rfl⟩ ?_
    refine mi_sem_steps mi_in177 (mi_calok_none _ _) 6 _ (34, [(0, .ref 116), (1, .int 2), (2, .int a2), (3, .int (-1))], [.int 2, .ref 116], (0, 0), mi_G) (by rfl) ?_
    have hM625 : mi_Met mi_N0 1 mi_h173 [.ref 116, .int 2] mi_G (some (.int (-11))) mi_G := mi_fun_ok mi_N0 1 173 (mi_h173, mi_c173) _ _ _ _ rfl (mi_eR_ok (by decide +kernel))
    refine mi_sem_call mi_in177 (i := (.invokevirtual 276, 3, 173, 0, 9, 0, 410)) (by rfl) (by rfl) hM625 (by decide) ⟨Nat.le_of_ble_eq_true rfl, Nat.le_of_ble_eq_true rfl⟩ ?_
    refine mi_sem_steps mi_in177 (mi_calok_none _ _) 4 _ (46, [(4, .int (-11)), (0, .ref 116), (1, .int 2), (2, .int a2), (3, .int (-1))], [.int (-11)], (0, 0), mi_G) (by rfl) ?_
    exact mi_sem_ret (cal := fun _ _ _ => none) mi_in177 (by rfl)

set_option maxRecDepth 100000 in
set_option maxHeartbeats 4000000 in
theorem mp_later_10 (a2 : Int32) (r0 : 0 ≤ (a2).toInt ∧ (a2).toInt ≤ 20) : mi_P 90 177 [.int 3, .int a2, .int (-1)] := by
  refine ⟨.int (-11), mi_G, mi_G, (mi_h90, mi_c90), (mi_h177, mi_c177), 5, 3, rfl, rfl, rfl, by decide, by decide, ?_, ?_⟩
  · refine mi_met_of (y := 90) (q := (mi_h90, mi_c90)) rfl (by decide) (Nat.le_of_ble_eq_true rfl) ?_
    refine mi_sem_steps mi_in90 (mi_calok_none _ _) 3 _ (4, [(0, .ref 0), (1, .int 3), (2, .int a2), (3, .int (-1))], [.int 20, .int 0, .int a2], (0, 0), mi_G) (by rfl) ?_
    have hM629 : mi_Met mi_N0 1 mi_h120 [.int a2, .int 0, .int 20] mi_G (some (.int 1)) mi_G := by
      refine mi_met_of (y := 120) (q := (mi_h120, mi_c120)) rfl (by decide) (Nat.le_of_ble_eq_true rfl) ?_
      refine mi_sem_steps mi_in120 (mi_calok_none _ _) 2 _ (2, [(0, .int a2), (1, .int 0), (2, .int 20)], [.int 0, .int a2], (0, 0), mi_G) (by rfl) ?_
      refine mi_sem_b mi_in120 (decide (a2 < 0)) false (mi_ltF (0) (by decide) (by omega)) 14 5 ([(0, .int a2), (1, .int 0), (2, .int 20)], [], (0, 0), mi_G) (by rfl) ?_
      refine mi_sem_steps mi_in120 (mi_calok_none _ _) 2 _ (7, [(0, .int a2), (1, .int 0), (2, .int 20)], [.int 20, .int a2], (0, 0), mi_G) (by rfl) ?_
      refine mi_sem_b mi_in120 (decide (20 < a2)) false (mi_ltF2 (20) (by decide) (by omega)) 14 10 ([(0, .int a2), (1, .int 0), (2, .int 20)], [], (0, 0), mi_G) (by rfl) ?_
      refine mi_sem_steps mi_in120 (mi_calok_none _ _) 2 _ (15, [(0, .int a2), (1, .int 0), (2, .int 20)], [.int 1], (0, 0), mi_G) (by rfl) ?_
      exact mi_sem_ret (cal := fun _ _ _ => none) mi_in120 (by rfl)
    refine mi_sem_call mi_in90 (i := (.invokestatic 74, 3, 120, 0, 9, 0, 152)) (by rfl) (by rfl) hM629 (by decide) ⟨Nat.le_of_ble_eq_true rfl, Nat.le_of_ble_eq_true rfl⟩ ?_
    refine mi_sem_steps mi_in90 (mi_calok_none _ _) 6 _ (27, [(0, .ref 0), (1, .int 3), (2, .int a2), (3, .int (-1))], [.int 3, .ref 0], (0, 0), mi_G) (by rfl) ?_
    have hM630 : mi_Met mi_N0 4 mi_h129 [.ref 0, .int 3] mi_G (some (.int (-11))) mi_G := mi_fun_ok mi_N0 4 129 (mi_h129, mi_c129) _ _ _ _ rfl (mi_eR_ok (by decide +kernel))
    refine mi_sem_call mi_in90 (i := (.invokevirtual 144, 3, 129, 0, 9, 0, 208)) (by rfl) (by rfl) hM630 (by decide) ⟨Nat.le_of_ble_eq_true rfl, Nat.le_of_ble_eq_true rfl⟩ ?_
    refine mi_sem_steps mi_in90 (mi_calok_none _ _) 4 _ (39, [(4, .int (-11)), (0, .ref 0), (1, .int 3), (2, .int a2), (3, .int (-1))], [.int (-11)], (0, 0), mi_G) (by rfl) ?_
    exact mi_sem_ret (cal := fun _ _ _ => none) mi_in90 (by rfl)
  · refine mi_met_of (y := 177) (q := (mi_h177, mi_c177)) rfl (by decide) (Nat.le_of_ble_eq_true rfl) ?_
    refine mi_sem_steps mi_in177 (mi_calok_none _ _) 1 _ (1, [(0, .ref 116), (1, .int 3), (2, .int a2), (3, .int (-1))], [.int 3], (0, 0), mi_G) (by rfl) ?_
    have hM631 : mi_Met mi_N0 2 mi_h133 [.int 3] mi_G (some (.int 1)) mi_G := mi_fun_ok mi_N0 2 133 (mi_h133, mi_c133) _ _ _ _ rfl (mi_eR_ok (by decide +kernel))
    refine mi_sem_call mi_in177 (i := (.invokestatic 127, 3, 133, 0, 9, 0, 382)) (by rfl) (by rfl) hM631 (by decide) ⟨Nat.le_of_ble_eq_true rfl, Nat.le_of_ble_eq_true rfl⟩ ?_
    refine mi_sem_steps mi_in177 (mi_calok_none _ _) 4 _ (11, [(0, .ref 116), (1, .int 3), (2, .int a2), (3, .int (-1))], [.int 20, .int 0, .int a2], (0, 0), mi_G) (by rfl) ?_
    have hM632 : mi_Met mi_N0 1 mi_h131 [.int a2, .int 0, .int 20] mi_G (some (.int 1)) mi_G := by
      refine mi_met_of (y := 131) (q := (mi_h131, mi_c131)) rfl (by decide) (Nat.le_of_ble_eq_true rfl) ?_
      refine mi_sem_steps mi_in131 (mi_calok_none _ _) 2 _ (2, [(0, .int a2), (1, .int 0), (2, .int 20)], [.int 0, .int a2], (0, 0), mi_G) (by rfl) ?_
      refine mi_sem_b mi_in131 (decide (a2 < 0)) false (mi_ltF (0) (by decide) (by omega)) 14 5 ([(0, .int a2), (1, .int 0), (2, .int 20)], [], (0, 0), mi_G) (by rfl) ?_
      refine mi_sem_steps mi_in131 (mi_calok_none _ _) 2 _ (7, [(0, .int a2), (1, .int 0), (2, .int 20)], [.int 20, .int a2], (0, 0), mi_G) (by rfl) ?_
      refine mi_sem_b mi_in131 (decide (20 < a2)) false (mi_ltF2 (20) (by decide) (by omega)) 14 10 ([(0, .int a2), (1, .int 0), (2, .int 20)], [], (0, 0), mi_G) (by rfl) ?_
      refine mi_sem_steps mi_in131 (mi_calok_none _ _) 2 _ (15, [(0, .int a2), (1, .int 0), (2, .int 20)], [.int 1], (0, 0), mi_G) (by rfl) ?_
      exact mi_sem_ret (cal := fun _ _ _ => none) mi_in131 (by rfl)
    refine mi_sem_call mi_in177 (i := (.invokestatic 119, 3, 131, 0, 9, 0, 379)) (by rfl) (by rfl) hM632 (by decide) ⟨Nat.le_of_ble_eq_true rfl, Nat.le_of_ble_eq_true rfl⟩ ?_
    refine mi_sem_steps mi_in177 (mi_calok_none _ _) 6 _ (34, [(0, .ref 116), (1, .int 3), (2, .int a2), (3, .int (-1))], [.int 3, .ref 116], (0, 0), mi_G) (by rfl) ?_
    have hM633 : mi_Met mi_N0 1 mi_h173 [.ref 116, .int 3] mi_G (some (.int (-11))) mi_G := mi_fun_ok mi_N0 1 173 (mi_h173, mi_c173) _ _ _ _ rfl (mi_eR_ok (by decide +kernel))
    refine mi_sem_call mi_in177 (i := (.invokevirtual 276, 3, 173, 0, 9, 0, 410)) (by rfl) (by rfl) hM633 (by decide) ⟨Nat.le_of_ble_eq_true rfl, Nat.le_of_ble_eq_true rfl⟩ ?_
    refine mi_sem_steps mi_in177 (mi_calok_none _ _) 4 _ (46, [(4, .int (-11)), (0, .ref 116), (1, .int 3), (2, .int a2), (3, .int (-1))], [.int (-11)], (0, 0), mi_G) (by rfl) ?_
    exact mi_sem_ret (cal := fun _ _ _ => none) mi_in177 (by rfl)

set_option maxRecDepth 100000 in
set_option maxHeartbeats 4000000 in
theorem mp_later_11 (a2 : Int32) (r0 : 0 ≤ (a2).toInt ∧ (a2).toInt ≤ 20) : mi_P 90 177 [.int 4, .int a2, .int (-1)] := by
  refine ⟨.int (-11), mi_G, mi_G, (mi_h90, mi_c90), (mi_h177, mi_c177), 5, 3, rfl, rfl, rfl, by decide, by decide, ?_, ?_⟩
  · refine mi_met_of (y := 90) (q := (mi_h90, mi_c90)) rfl (by decide) (Nat.le_of_ble_eq_true rfl) ?_
    refine mi_sem_steps mi_in90 (mi_calok_none _ _) 3 _ (4, [(0, .ref 0), (1, .int 4), (2, .int a2), (3, .int (-1))], [.int 20, .int 0, .int a2], (0, 0), mi_G) (by rfl) ?_
    have hM637 : mi_Met mi_N0 1 mi_h120 [.int a2, .int 0, .int 20] mi_G (some (.int 1)) mi_G := by
      refine mi_met_of (y := 120) (q := (mi_h120, mi_c120)) rfl (by decide) (Nat.le_of_ble_eq_true rfl) ?_
      refine mi_sem_steps mi_in120 (mi_calok_none _ _) 2 _ (2, [(0, .int a2), (1, .int 0), (2, .int 20)], [.int 0, .int a2], (0, 0), mi_G) (by rfl) ?_
      refine mi_sem_b mi_in120 (decide (a2 < 0)) false (mi_ltF (0) (by decide) (by omega)) 14 5 ([(0, .int a2), (1, .int 0), (2, .int 20)], [], (0, 0), mi_G) (by rfl) ?_
      refine mi_sem_steps mi_in120 (mi_calok_none _ _) 2 _ (7, [(0, .int a2), (1, .int 0), (2, .int 20)], [.int 20, .int a2], (0, 0), mi_G) (by rfl) ?_
      refine mi_sem_b mi_in120 (decide (20 < a2)) false (mi_ltF2 (20) (by decide) (by omega)) 14 10 ([(0, .int a2), (1, .int 0), (2, .int 20)], [], (0, 0), mi_G) (by rfl) ?_
      refine mi_sem_steps mi_in120 (mi_calok_none _ _) 2 _ (15, [(0, .int a2), (1, .int 0), (2, .int 20)], [.int 1], (0, 0), mi_G) (by rfl) ?_
      exact mi_sem_ret (cal := fun _ _ _ => none) mi_in120 (by rfl)
    refine mi_sem_call mi_in90 (i := (.invokestatic 74, 3, 120, 0, 9, 0, 152)) (by rfl) (by rfl) hM637 (by decide) ⟨Nat.le_of_ble_eq_true rfl, Nat.le_of_ble_eq_true rfl⟩ ?_
    refine mi_sem_steps mi_in90 (mi_calok_none _ _) 6 _ (27, [(0, .ref 0), (1, .int 4), (2, .int a2), (3, .int (-1))], [.int 4, .ref 0], (0, 0), mi_G) (by rfl) ?_
    have hM638 : mi_Met mi_N0 4 mi_h129 [.ref 0, .int 4] mi_G (some (.int (-11))) mi_G := mi_fun_ok mi_N0 4 129 (mi_h129, mi_c129) _ _ _ _ rfl (mi_eR_ok (by decide +kernel))
    refine mi_sem_call mi_in90 (i := (.invokevirtual 144, 3, 129, 0, 9, 0, 208)) (by rfl) (by rfl) hM638 (by decide) ⟨Nat.le_of_ble_eq_true rfl, Nat.le_of_ble_eq_true rfl⟩ ?_
    refine mi_sem_steps mi_in90 (mi_calok_none _ _) 4 _ (39, [(4, .int (-11)), (0, .ref 0), (1, .int 4), (2, .int a2), (3, .int (-1))], [.int (-11)], (0, 0), mi_G) (by rfl) ?_
    exact mi_sem_ret (cal := fun _ _ _ => none) mi_in90 (by rfl)
  · refine mi_met_of (y := 177) (q := (mi_h177, mi_c177)) rfl (by decide) (Nat.le_of_ble_eq_true rfl) ?_
    refine mi_sem_steps mi_in177 (mi_calok_none _ _) 1 _ (1, [(0, .ref 116), (1, .int 4), (2, .int a2), (3, .int (-1))], [.int 4], (0, 0), mi_G) (by rfl) ?_
    have hM639 : mi_Met mi_N0 2 mi_h133 [.int 4] mi_G (some (.int 1)) mi_G := mi_fun_ok mi_N0 2 133 (mi_h133, mi_c133) _ _ _ _ rfl (mi_eR_ok (by decide +kernel))
    refine mi_sem_call mi_in177 (i := (.invokestatic 127, 3, 133, 0, 9, 0, 382)) (by rfl) (by rfl) hM639 (by decide) ⟨Nat.le_of_ble_eq_true rfl, Nat.le_of_ble_eq_true rfl⟩ ?_
    refine mi_sem_steps mi_in177 (mi_calok_none _ _) 4 _ (11, [(0, .ref 116), (1, .int 4), (2, .int a2), (3, .int (-1))], [.int 20, .int 0, .int a2], (0, 0), mi_G) (by rfl) ?_
    have hM640 : mi_Met mi_N0 1 mi_h131 [.int a2, .int 0, .int 20] mi_G (some (.int 1)) mi_G := by
      refine mi_met_of (y := 131) (q := (mi_h131, mi_c131)) rfl (by decide) (Nat.le_of_ble_eq_true rfl) ?_
      refine mi_sem_steps mi_in131 (mi_calok_none _ _) 2 _ (2, [(0, .int a2), (1, .int 0), (2, .int 20)], [.int 0, .int a2], (0, 0), mi_G) (by rfl) ?_
      refine mi_sem_b mi_in131 (decide (a2 < 0)) false (mi_ltF (0) (by decide) (by omega)) 14 5 ([(0, .int a2), (1, .int 0), (2, .int 20)], [], (0, 0), mi_G) (by rfl) ?_
      refine mi_sem_steps mi_in131 (mi_calok_none _ _) 2 _ (7, [(0, .int a2), (1, .int 0), (2, .int 20)], [.int 20, .int a2], (0, 0), mi_G) (by rfl) ?_
      refine mi_sem_b mi_in131 (decide (20 < a2)) false (mi_ltF2 (20) (by decide) (by omega)) 14 10 ([(0, .int a2), (1, .int 0), (2, .int 20)], [], (0, 0), mi_G) (by rfl) ?_
      refine mi_sem_steps mi_in131 (mi_calok_none _ _) 2 _ (15, [(0, .int a2), (1, .int 0), (2, .int 20)], [.int 1], (0, 0), mi_G) (by rfl) ?_
      exact mi_sem_ret (cal := fun _ _ _ => none) mi_in131 (by rfl)
    refine mi_sem_call mi_in177 (i := (.invokestatic 119, 3, 131, 0, 9, 0, 379)) (by rfl) (by rfl) hM640 (by decide) ⟨Nat.le_of_ble_eq_true rfl, Nat.le_of_ble_eq_true rfl⟩ ?_
    refine mi_sem_steps mi_in177 (mi_calok_none _ _) 6 _ (34, [(0, .ref 116), (1, .int 4), (2, .int a2), (3, .int (-1))], [.int 4, .ref 116], (0, 0), mi_G) (by rfl) ?_
    have hM641 : mi_Met mi_N0 1 mi_h173 [.ref 116, .int 4] mi_G (some (.int (-11))) mi_G := mi_fun_ok mi_N0 1 173 (mi_h173, mi_c173) _ _ _ _ rfl (mi_eR_ok (by decide +kernel))
    refine mi_sem_call mi_in177 (i := (.invokevirtual 276, 3, 173, 0, 9, 0, 410)) (by rfl) (by rfl) hM641 (by decide) ⟨Nat.le_of_ble_eq_true rfl, Nat.le_of_ble_eq_true rfl⟩ ?_
    refine mi_sem_steps mi_in177 (mi_calok_none _ _) 4 _ (46, [(4, .int (-11)), (0, .ref 116), (1, .int 4), (2, .int a2), (3, .int (-1))], [.int (-11)], (0, 0), mi_G) (by rfl) ?_
    exact mi_sem_ret (cal := fun _ _ _ => none) mi_in177 (by rfl)

set_option maxRecDepth 100000 in
set_option maxHeartbeats 4000000 in
theorem mp_later_12 (a2 : Int32) (r0 : 0 ≤ (a2).toInt ∧ (a2).toInt ≤ 20) : mi_P 90 177 [.int 5, .int a2, .int (-1)] := by
  refine ⟨.int (-11), mi_G, mi_G, (mi_h90, mi_c90), (mi_h177, mi_c177), 5, 3, rfl, rfl, rfl, by decide, by decide, ?_, ?_⟩
  · refine mi_met_of (y := 90) (q := (mi_h90, mi_c90)) rfl (by decide) (Nat.le_of_ble_eq_true rfl) ?_
    refine mi_sem_steps mi_in90 (mi_calok_none _ _) 3 _ (4, [(0, .ref 0), (1, .int 5), (2, .int a2), (3, .int (-1))], [.int 20, .int 0, .int a2], (0, 0), mi_G) (by rfl) ?_
    have hM642 : mi_Met mi_N0 1 mi_h120 [.int a2, .int 0, .int 20] mi_G (some (.int 1)) mi_G := by
      refine mi_met_of (y := 120) (q := (mi_h120, mi_c120)) rfl (by decide) (Nat.le_of_ble_eq_true rfl) ?_
      refine mi_sem_steps mi_in120 (mi_calok_none _ _) 2 _ (2, [(0, .int a2), (1, .int 0), (2, .int 20)], [.int 0, .int a2], (0, 0), mi_G) (by rfl) ?_
      refine mi_sem_b mi_in120 (decide (a2 < 0)) false (mi_ltF (0) (by decide) (by omega)) 14 5 ([(0, .int a2), (1, .int 0), (2, .int 20)], [], (0, 0), mi_G) (by rfl) ?_
      refine mi_sem_steps mi_in120 (mi_calok_none _ _) 2 _ (7, [(0, .int a2), (1, .int 0), (2, .int 20)], [.int 20, .int a2], (0, 0), mi_G) (by rfl) ?_
      refine mi_sem_b mi_in120 (decide (20 < a2)) false (mi_ltF2 (20) (by decide) (by omega)) 14 10 ([(0, .int a2), (1, .int 0), (2, .int 20)], [], (0, 0), mi_G) (by rfl) ?_
      refine mi_sem_steps mi_in120 (mi_calok_none _ _) 2 _ (15, [(0, .int a2), (1, .int 0), (2, .int 20)], [.int 1], (0, 0), mi_G) (by rfl) ?_
      exact mi_sem_ret (cal := fun _ _ _ => none) mi_in120 (by rfl)
    refine mi_sem_call mi_in90 (i := (.invokestatic 74, 3, 120, 0, 9, 0, 152)) (by rfl) (by rfl) hM642 (by decide) ⟨Nat.le_of_ble_eq_true rfl, Nat.le_of_ble_eq_true rfl⟩ ?_
    refine mi_sem_steps mi_in90 (mi_calok_none _ _) 6 _ (27, [(0, .ref 0), (1, .int 5), (2, .int a2), (3, .int (-1))], [.int 5, .ref 0], (0, 0), mi_G) (by rfl) ?_
    have hM643 : mi_Met mi_N0 4 mi_h129 [.ref 0, .int 5] mi_G (some (.int (-11))) mi_G := mi_fun_ok mi_N0 4 129 (mi_h129, mi_c129) _ _ _ _ rfl (mi_eR_ok (by decide +kernel))
    refine mi_sem_call mi_in90 (i := (.invokevirtual 144, 3, 129, 0, 9, 0, 208)) (by rfl) (by rfl) hM643 (by decide) ⟨Nat.le_of_ble_eq_true rfl, Nat.le_of_ble_eq_true rfl⟩ ?_
    refine mi_sem_steps mi_in90 (mi_calok_none _ _) 4 _ (39, [(4, .int (-11)), (0, .ref 0), (1, .int 5), (2, .int a2), (3, .int (-1))], [.int (-11)], (0, 0), mi_G) (by rfl) ?_
    exact mi_sem_ret (cal := fun _ _ _ => none) mi_in90 (by rfl)
  · refine mi_met_of (y := 177) (q := (mi_h177, mi_c177)) rfl (by decide) (Nat.le_of_ble_eq_true rfl) ?_
    refine mi_sem_steps mi_in177 (mi_calok_none _ _) 1 _ (1, [(0, .ref 116), (1, .int 5), (2, .int a2), (3, .int (-1))], [.int 5], (0, 0), mi_G) (by rfl) ?_
    have hM644 : mi_Met mi_N0 2 mi_h133 [.int 5] mi_G (some (.int 1)) mi_G := mi_fun_ok mi_N0 2 133 (mi_h133, mi_c133) _ _ _ _ rfl (mi_eR_ok (by decide +kernel))
    refine mi_sem_call mi_in177 (i := (.invokestatic 127, 3, 133, 0, 9, 0, 382)) (by rfl) (by rfl) hM644 (by decide) ⟨Nat.le_of_ble_eq_true rfl, Nat.le_of_ble_eq_true rfl⟩ ?_
    refine mi_sem_steps mi_in177 (mi_calok_none _ _) 4 _ (11, [(0, .ref 116), (1, .int 5), (2, .int a2), (3, .int (-1))], [.int 20, .int 0, .int a2], (0, 0), mi_G) (by rfl) ?_
    have hM645 : mi_Met mi_N0 1 mi_h131 [.int a2, .int 0, .int 20] mi_G (some (.int 1)) mi_G := by
      refine mi_met_of (y := 131) (q := (mi_h131, mi_c131)) rfl (by decide) (Nat.le_of_ble_eq_true rfl) ?_
      refine mi_sem_steps mi_in131 (mi_calok_none _ _) 2 _ (2, [(0, .int a2), (1, .int 0), (2, .int 20)], [.int 0, .int a2], (0, 0), mi_G) (by rfl) ?_
      refine mi_sem_b mi_in131 (decide (a2 < 0)) false (mi_ltF (0) (by decide) (by omega)) 14 5 ([(0, .int a2), (1, .int 0), (2, .int 20)], [], (0, 0), mi_G) (by rfl) ?_
      refine mi_sem_steps mi_in131 (mi_calok_none _ _) 2 _ (7, [(0, .int a2), (1, .int 0), (2, .int 20)], [.int 20, .int a2], (0, 0), mi_G) (by rfl) ?_
      refine mi_sem_b mi_in131 (decide (20 < a2)) false (mi_ltF2 (20) (by decide) (by omega)) 14 10 ([(0, .int a2), (1, .int 0), (2, .int 20)], [], (0, 0), mi_G) (by rfl) ?_
      refine mi_sem_steps mi_in131 (mi_calok_none _ _) 2 _ (15, [(0, .int a2), (1, .int 0), (2, .int 20)], [.int 1], (0, 0), mi_G) (by rfl) ?_
      exact mi_sem_ret (cal := fun _ _ _ => none) mi_in131 (by rfl)
    refine mi_sem_call mi_in177 (i := (.invokestatic 119, 3, 131, 0, 9, 0, 379)) (by rfl) (by rfl) hM645 (by decide) ⟨Nat.le_of_ble_eq_true rfl, Nat.le_of_ble_eq_true rfl⟩ ?_
    refine mi_sem_steps mi_in177 (mi_calok_none _ _) 6 _ (34, [(0, .ref 116), (1, .int 5), (2, .int a2), (3, .int (-1))], [.int 5, .ref 116], (0, 0), mi_G) (by rfl) ?_
    have hM646 : mi_Met mi_N0 1 mi_h173 [.ref 116, .int 5] mi_G (some (.int (-11))) mi_G := mi_fun_ok mi_N0 1 173 (mi_h173, mi_c173) _ _ _ _ rfl (mi_eR_ok (by decide +kernel))
    refine mi_sem_call mi_in177 (i := (.invokevirtual 276, 3, 173, 0, 9, 0, 410)) (by rfl) (by rfl) hM646 (by decide) ⟨Nat.le_of_ble_eq_true rfl, Nat.le_of_ble_eq_true rfl⟩ ?_
    refine mi_sem_steps mi_in177 (mi_calok_none _ _) 4 _ (46, [(4, .int (-11)), (0, .ref 116), (1, .int 5), (2, .int a2), (3, .int (-1))], [.int (-11)], (0, 0), mi_G) (by rfl) ?_
    exact mi_sem_ret (cal := fun _ _ _ => none) mi_in177 (by rfl)

set_option maxRecDepth 100000 in
set_option maxHeartbeats 4000000 in
theorem mp_later_13 (a1 : Int32) (a2 : Int32) (r0 : 0 ≤ (a2).toInt ∧ (a2).toInt ≤ 20) (r1 : 6 ≤ (a1).toInt ∧ (a1).toInt ≤ 2147483647) : mi_P 90 177 [.int a1, .int a2, .int (-1)] := by
  refine ⟨.int (-1), mi_G, mi_G, (mi_h90, mi_c90), (mi_h177, mi_c177), 5, 3, rfl, rfl, rfl, by decide, by decide, ?_, ?_⟩
  · refine mi_met_of (y := 90) (q := (mi_h90, mi_c90)) rfl (by decide) (Nat.le_of_ble_eq_true rfl) ?_
    refine mi_sem_steps mi_in90 (mi_calok_none _ _) 3 _ (4, [(0, .ref 0), (1, .int a1), (2, .int a2), (3, .int (-1))], [.int 20, .int 0, .int a2], (0, 0), mi_G) (by rfl) ?_
    have hM647 : mi_Met mi_N0 1 mi_h120 [.int a2, .int 0, .int 20] mi_G (some (.int 1)) mi_G := by
      refine mi_met_of (y := 120) (q := (mi_h120, mi_c120)) rfl (by decide) (Nat.le_of_ble_eq_true rfl) ?_
      refine mi_sem_steps mi_in120 (mi_calok_none _ _) 2 _ (2, [(0, .int a2), (1, .int 0), (2, .int 20)], [.int 0, .int a2], (0, 0), mi_G) (by rfl) ?_
      refine mi_sem_b mi_in120 (decide (a2 < 0)) false (mi_ltF (0) (by decide) (by omega)) 14 5 ([(0, .int a2), (1, .int 0), (2, .int 20)], [], (0, 0), mi_G) (by rfl) ?_
      refine mi_sem_steps mi_in120 (mi_calok_none _ _) 2 _ (7, [(0, .int a2), (1, .int 0), (2, .int 20)], [.int 20, .int a2], (0, 0), mi_G) (by rfl) ?_
      refine mi_sem_b mi_in120 (decide (20 < a2)) false (mi_ltF2 (20) (by decide) (by omega)) 14 10 ([(0, .int a2), (1, .int 0), (2, .int 20)], [], (0, 0), mi_G) (by rfl) ?_
      refine mi_sem_steps mi_in120 (mi_calok_none _ _) 2 _ (15, [(0, .int a2), (1, .int 0), (2, .int 20)], [.int 1], (0, 0), mi_G) (by rfl) ?_
      exact mi_sem_ret (cal := fun _ _ _ => none) mi_in120 (by rfl)
    refine mi_sem_call mi_in90 (i := (.invokestatic 74, 3, 120, 0, 9, 0, 152)) (by rfl) (by rfl) hM647 (by decide) ⟨Nat.le_of_ble_eq_true rfl, Nat.le_of_ble_eq_true rfl⟩ ?_
    refine mi_sem_steps mi_in90 (mi_calok_none _ _) 6 _ (27, [(0, .ref 0), (1, .int a1), (2, .int a2), (3, .int (-1))], [.int a1, .ref 0], (0, 0), mi_G) (by rfl) ?_
    have hM651 : mi_Met mi_N0 4 mi_h129 [.ref 0, .int a1] mi_G (some (.int (-1))) mi_G := by
      refine mi_met_of (y := 129) (q := (mi_h129, mi_c129)) rfl (by decide) (Nat.le_of_ble_eq_true rfl) ?_
      refine mi_sem_steps mi_in129 (mi_calok_none _ _) 2 _ (2, [(0, .ref 0), (1, .int a1)], [.int a1, .ref 0], (0, 0), mi_G) (by rfl) ?_
      have hM650 : mi_Met mi_N0 3 mi_h127 [.ref 0, .int a1] mi_G (some (.int (-1))) mi_G := by
        refine mi_met_of (y := 127) (q := (mi_h127, mi_c127)) rfl (by decide) (Nat.le_of_ble_eq_true rfl) ?_
        refine mi_sem_steps mi_in127 (mi_calok_none _ _) 1 _ (1, [(0, .ref 0), (1, .int a1)], [.int a1], (0, 0), mi_G) (by rfl) ?_
        have hM649 : mi_Met mi_N0 2 mi_h121 [.int a1] mi_G (some (.int 0)) mi_G := by
          refine mi_met_of (y := 121) (q := (mi_h121, mi_c121)) rfl (by decide) (Nat.le_of_ble_eq_true rfl) ?_
          refine mi_sem_steps mi_in121 (mi_calok_none _ _) 3 _ (3, [(0, .int a1)], [.int 5, .int 0, .int a1], (0, 0), mi_G) (by rfl) ?_
          have hM648 : mi_Met mi_N0 1 mi_h120 [.int a1, .int 0, .int 5] mi_G (some (.int 0)) mi_G := by
            refine mi_met_of (y := 120) (q := (mi_h120, mi_c120)) rfl (by decide) (Nat.le_of_ble_eq_true rfl) ?_
            refine mi_sem_steps mi_in120 (mi_calok_none _ _) 2 _ (2, [(0, .int a1), (1, .int 0), (2, .int 5)], [.int 0, .int a1], (0, 0), mi_G) (by rfl) ?_
            refine mi_sem_b mi_in120 (decide (a1 < 0)) false (mi_ltF (0) (by decide) (by omega)) 14 5 ([(0, .int a1), (1, .int 0), (2, .int 5)], [], (0, 0), mi_G) (by rfl) ?_
            refine mi_sem_steps mi_in120 (mi_calok_none _ _) 2 _ (7, [(0, .int a1), (1, .int 0), (2, .int 5)], [.int 5, .int a1], (0, 0), mi_G) (by rfl) ?_
            refine mi_sem_b mi_in120 (decide (5 < a1)) true (mi_ltT2 (5) (by decide) (by omega)) 14 10 ([(0, .int a1), (1, .int 0), (2, .int 5)], [], (0, 0), mi_G) (by rfl) ?_
            refine mi_sem_steps mi_in120 (mi_calok_none _ _) 1 _ (15, [(0, .int a1), (1, .int 0), (2, .int 5)], [.int 0], (0, 0), mi_G) (by rfl) ?_
            exact mi_sem_ret (cal := fun _ _ _ => none) mi_in120 (by rfl)
          refine mi_sem_call mi_in121 (i := (.invokestatic 74, 3, 120, 0, 9, 0, 152)) (by rfl) (by rfl) hM648 (by decide) ⟨Nat.le_of_ble_eq_true rfl, Nat.le_of_ble_eq_true rfl⟩ ?_
          exact mi_sem_ret (cal := fun _ _ _ => none) mi_in121 (by rfl)
        refine mi_sem_call mi_in127 (i := (.invokestatic 70, 3, 121, 0, 9, 0, 157)) (by rfl) (by rfl) hM649 (by decide) ⟨Nat.le_of_ble_eq_true rfl, Nat.le_of_ble_eq_true rfl⟩ ?_
        refine mi_sem_steps mi_in127 (mi_calok_none _ _) 2 _ (8, [(0, .ref 0), (1, .int a1)], [.int (-1)], (0, 0), mi_G) (by rfl) ?_
        exact mi_sem_ret (cal := fun _ _ _ => none) mi_in127 (by rfl)
      refine mi_sem_call mi_in129 (i := (.invokevirtual 217, 3, 127, 0, 9, 0, 209)) (by rfl) (by rfl) hM650 (by decide) ⟨Nat.le_of_ble_eq_true rfl, Nat.le_of_ble_eq_true rfl⟩ ?_
      refine mi_sem_steps mi_in129 (mi_calok_none _ _) 4 _ (31, [(2, .int (-1)), (0, .ref 0), (1, .int a1)], [.int (-1)], (0, 0), mi_G) (by rfl) ?_
      exact mi_sem_ret (cal := fun _ _ _ => none) mi_in129 (by rfl)
    refine mi_sem_call mi_in90 (i := (.invokevirtual 144, 3, 129, 0, 9, 0, 208)) (by rfl) (by rfl) hM651 (by decide) ⟨Nat.le_of_ble_eq_true rfl, Nat.le_of_ble_eq_true rfl⟩ ?_
    refine mi_sem_steps mi_in90 (mi_calok_none _ _) 4 _ (39, [(4, .int (-1)), (0, .ref 0), (1, .int a1), (2, .int a2), (3, .int (-1))], [.int (-1)], (0, 0), mi_G) (by rfl) ?_
    exact mi_sem_ret (cal := fun _ _ _ => none) mi_in90 (by rfl)
  · refine mi_met_of (y := 177) (q := (mi_h177, mi_c177)) rfl (by decide) (Nat.le_of_ble_eq_true rfl) ?_
    refine mi_sem_steps mi_in177 (mi_calok_none _ _) 1 _ (1, [(0, .ref 116), (1, .int a1), (2, .int a2), (3, .int (-1))], [.int a1], (0, 0), mi_G) (by rfl) ?_
    have hM653 : mi_Met mi_N0 2 mi_h133 [.int a1] mi_G (some (.int 0)) mi_G := by
      refine mi_met_of (y := 133) (q := (mi_h133, mi_c133)) rfl (by decide) (Nat.le_of_ble_eq_true rfl) ?_
      refine mi_sem_steps mi_in133 (mi_calok_none _ _) 3 _ (3, [(0, .int a1)], [.int 5, .int 0, .int a1], (0, 0), mi_G) (by rfl) ?_
      have hM652 : mi_Met mi_N0 1 mi_h131 [.int a1, .int 0, .int 5] mi_G (some (.int 0)) mi_G := by
        refine mi_met_of (y := 131) (q := (mi_h131, mi_c131)) rfl (by decide) (Nat.le_of_ble_eq_true rfl) ?_
        refine mi_sem_steps mi_in131 (mi_calok_none _ _) 2 _ (2, [(0, .int a1), (1, .int 0), (2, .int 5)], [.int 0, .int a1], (0, 0), mi_G) (by rfl) ?_
        refine mi_sem_b mi_in131 (decide (a1 < 0)) false (mi_ltF (0) (by decide) (by omega)) 14 5 ([(0, .int a1), (1, .int 0), (2, .int 5)], [], (0, 0), mi_G) (by rfl) ?_
        refine mi_sem_steps mi_in131 (mi_calok_none _ _) 2 _ (7, [(0, .int a1), (1, .int 0), (2, .int 5)], [.int 5, .int a1], (0, 0), mi_G) (by rfl) ?_
        refine mi_sem_b mi_in131 (decide (5 < a1)) true (mi_ltT2 (5) (by decide) (by omega)) 14 10 ([(0, .int a1), (1, .int 0), (2, .int 5)], [], (0, 0), mi_G) (by rfl) ?_
        refine mi_sem_steps mi_in131 (mi_calok_none _ _) 1 _ (15, [(0, .int a1), (1, .int 0), (2, .int 5)], [.int 0], (0, 0), mi_G) (by rfl) ?_
        exact mi_sem_ret (cal := fun _ _ _ => none) mi_in131 (by rfl)
      refine mi_sem_call mi_in133 (i := (.invokestatic 119, 3, 131, 0, 9, 0, 379)) (by rfl) (by rfl) hM652 (by decide) ⟨Nat.le_of_ble_eq_true rfl, Nat.le_of_ble_eq_true rfl⟩ ?_
      exact mi_sem_ret (cal := fun _ _ _ => none) mi_in133 (by rfl)
    refine mi_sem_call mi_in177 (i := (.invokestatic 127, 3, 133, 0, 9, 0, 382)) (by rfl) (by rfl) hM653 (by decide) ⟨Nat.le_of_ble_eq_true rfl, Nat.le_of_ble_eq_true rfl⟩ ?_
    refine mi_sem_steps mi_in177 (mi_calok_none _ _) 2 _ (31, [(0, .ref 116), (1, .int a1), (2, .int a2), (3, .int (-1))], [.int (-1)], (0, 0), mi_G) (by rfl) ?_
    exact mi_sem_ret (cal := fun _ _ _ => none) mi_in177 (by rfl)

set_option maxRecDepth 100000 in
set_option maxHeartbeats 4000000 in
theorem mp_later_14 (a1 : Int32) (a2 : Int32) (a3 : Int32) (r0 : 0 ≤ (a2).toInt ∧ (a2).toInt ≤ 20) (r1 : 0 ≤ (a3).toInt ∧ (a3).toInt ≤ 2147483647) (r2 : (-2147483648) ≤ (a1).toInt ∧ (a1).toInt ≤ (-1)) : mi_P 90 177 [.int a1, .int a2, .int a3] := by
  refine ⟨.int (-1), mi_G, mi_G, (mi_h90, mi_c90), (mi_h177, mi_c177), 3, 3, rfl, rfl, rfl, by decide, by decide, ?_, ?_⟩
  · refine mi_met_of (y := 90) (q := (mi_h90, mi_c90)) rfl (by decide) (Nat.le_of_ble_eq_true rfl) ?_
    refine mi_sem_steps mi_in90 (mi_calok_none _ _) 3 _ (4, [(0, .ref 0), (1, .int a1), (2, .int a2), (3, .int a3)], [.int 20, .int 0, .int a2], (0, 0), mi_G) (by rfl) ?_
    have hM657 : mi_Met mi_N0 1 mi_h120 [.int a2, .int 0, .int 20] mi_G (some (.int 1)) mi_G := by
      refine mi_met_of (y := 120) (q := (mi_h120, mi_c120)) rfl (by decide) (Nat.le_of_ble_eq_true rfl) ?_
      refine mi_sem_steps mi_in120 (mi_calok_none _ _) 2 _ (2, [(0, .int a2), (1, .int 0), (2, .int 20)], [.int 0, .int a2], (0, 0), mi_G) (by rfl) ?_
      refine mi_sem_b mi_in120 (decide (a2 < 0)) false (mi_ltF (0) (by decide) (by omega)) 14 5 ([(0, .int a2), (1, .int 0), (2, .int 20)], [], (0, 0), mi_G) (by rfl) ?_
      refine mi_sem_steps mi_in120 (mi_calok_none _ _) 2 _ (7, [(0, .int a2), (1, .int 0), (2, .int 20)], [.int 20, .int a2], (0, 0), mi_G) (by rfl) ?_
      refine mi_sem_b mi_in120 (decide (20 < a2)) false (mi_ltF2 (20) (by decide) (by omega)) 14 10 ([(0, .int a2), (1, .int 0), (2, .int 20)], [], (0, 0), mi_G) (by rfl) ?_
      refine mi_sem_steps mi_in120 (mi_calok_none _ _) 2 _ (15, [(0, .int a2), (1, .int 0), (2, .int 20)], [.int 1], (0, 0), mi_G) (by rfl) ?_
      exact mi_sem_ret (cal := fun _ _ _ => none) mi_in120 (by rfl)
    refine mi_sem_call mi_in90 (i := (.invokestatic 74, 3, 120, 0, 9, 0, 152)) (by rfl) (by rfl) hM657 (by decide) ⟨Nat.le_of_ble_eq_true rfl, Nat.le_of_ble_eq_true rfl⟩ ?_
    refine mi_sem_steps mi_in90 (mi_calok_none _ _) 3 _ (12, [(0, .ref 0), (1, .int a1), (2, .int a2), (3, .int a3)], [.int (-1), .int a3], (0, 0), mi_G) (by rfl) ?_
    refine mi_sem_b mi_in90 ((a3 == (-1))) false (mi_eqF (-1) (by decide) (by omega)) 25 15 ([(0, .ref 0), (1, .int a1), (2, .int a2), (3, .int a3)], [], (0, 0), mi_G) (by rfl) ?_
    refine mi_sem_steps mi_in90 (mi_calok_none _ _) 2 _ (17, [(0, .ref 0), (1, .int a1), (2, .int a2), (3, .int a3)], [.int a3, .ref 0], (0, 0), mi_G) (by rfl) ?_
    have hM659 : mi_Met mi_N0 2 mi_h123 [.ref 0, .int a3] mi_G (some (.int 0)) mi_G := by
      refine mi_met_of (y := 123) (q := (mi_h123, mi_c123)) rfl (by decide) (Nat.le_of_ble_eq_true rfl) ?_
      refine mi_sem_steps mi_in123 (mi_calok_none _ _) 3 _ (5, [(0, .ref 0), (1, .int a3)], [.int a3, .ref 1], (0, 0), mi_G) (by rfl) ?_
      have hM658 : mi_Met mi_N0 1 mi_h24 [.ref 1, .int a3] mi_G (some (.int 0)) mi_G := by
        refine mi_met_of (y := 24) (q := (mi_h24, mi_c24)) rfl (by decide) (Nat.le_of_ble_eq_true rfl) ?_
        refine mi_sem_steps mi_in24 (mi_calok_none _ _) 1 _ (1, [(0, .ref 1), (1, .int a3)], [.int a3], (0, 0), mi_G) (by rfl) ?_
        refine mi_sem_b mi_in24 (decide (a3 < 0)) false (mi_ltF (0) (by decide) (by omega)) 22 4 ([(0, .ref 1), (1, .int a3)], [], (0, 0), mi_G) (by rfl) ?_
        refine mi_sem_steps mi_in24 (mi_calok_none _ _) 3 _ (9, [(0, .ref 1), (1, .int a3)], [.int 0, .int a3], (0, 0), mi_G) (by rfl) ?_
        refine mi_sem_b mi_in24 (decide (0 ≤ a3)) true (mi_leT2 (0) (by decide) (by omega)) 22 12 ([(0, .ref 1), (1, .int a3)], [], (0, 0), mi_G) (by rfl) ?_
        refine mi_sem_steps mi_in24 (mi_calok_none _ _) 1 _ (23, [(0, .ref 1), (1, .int a3)], [.int 0], (0, 0), mi_G) (by rfl) ?_
        exact mi_sem_ret (cal := fun _ _ _ => none) mi_in24 (by rfl)
      refine mi_sem_call mi_in123 (i := (.invokevirtual 342, 3, 24, 0, 9, 0, 163)) (by rfl) (by rfl) hM658 (by decide) ⟨Nat.le_of_ble_eq_true rfl, Nat.le_of_ble_eq_true rfl⟩ ?_
      exact mi_sem_ret (cal := fun _ _ _ => none) mi_in123 (by rfl)
    refine mi_sem_call mi_in90 (i := (.invokevirtual 141, 3, 123, 0, 9, 0, 162)) (by rfl) (by rfl) hM659 (by decide) ⟨Nat.le_of_ble_eq_true rfl, Nat.le_of_ble_eq_true rfl⟩ ?_
    refine mi_sem_steps mi_in90 (mi_calok_none _ _) 2 _ (24, [(0, .ref 0), (1, .int a1), (2, .int a2), (3, .int a3)], [.int (-1)], (0, 0), mi_G) (by rfl) ?_
    exact mi_sem_ret (cal := fun _ _ _ => none) mi_in90 (by rfl)
  · refine mi_met_of (y := 177) (q := (mi_h177, mi_c177)) rfl (by decide) (Nat.le_of_ble_eq_true rfl) ?_
    refine mi_sem_steps mi_in177 (mi_calok_none _ _) 1 _ (1, [(0, .ref 116), (1, .int a1), (2, .int a2), (3, .int a3)], [.int a1], (0, 0), mi_G) (by rfl) ?_
    have hM661 : mi_Met mi_N0 2 mi_h133 [.int a1] mi_G (some (.int 0)) mi_G := by
      refine mi_met_of (y := 133) (q := (mi_h133, mi_c133)) rfl (by decide) (Nat.le_of_ble_eq_true rfl) ?_
      refine mi_sem_steps mi_in133 (mi_calok_none _ _) 3 _ (3, [(0, .int a1)], [.int 5, .int 0, .int a1], (0, 0), mi_G) (by rfl) ?_
      have hM660 : mi_Met mi_N0 1 mi_h131 [.int a1, .int 0, .int 5] mi_G (some (.int 0)) mi_G := by
        refine mi_met_of (y := 131) (q := (mi_h131, mi_c131)) rfl (by decide) (Nat.le_of_ble_eq_true rfl) ?_
        refine mi_sem_steps mi_in131 (mi_calok_none _ _) 2 _ (2, [(0, .int a1), (1, .int 0), (2, .int 5)], [.int 0, .int a1], (0, 0), mi_G) (by rfl) ?_
        refine mi_sem_b mi_in131 (decide (a1 < 0)) true (mi_ltT (0) (by decide) (by omega)) 14 5 ([(0, .int a1), (1, .int 0), (2, .int 5)], [], (0, 0), mi_G) (by rfl) ?_
        refine mi_sem_steps mi_in131 (mi_calok_none _ _) 1 _ (15, [(0, .int a1), (1, .int 0), (2, .int 5)], [.int 0], (0, 0), mi_G) (by rfl) ?_
        exact mi_sem_ret (cal := fun _ _ _ => none) mi_in131 (by rfl)
      refine mi_sem_call mi_in133 (i := (.invokestatic 119, 3, 131, 0, 9, 0, 379)) (by rfl) (by rfl) hM660 (by decide) ⟨Nat.le_of_ble_eq_true rfl, Nat.le_of_ble_eq_true rfl⟩ ?_
      exact mi_sem_ret (cal := fun _ _ _ => none) mi_in133 (by rfl)
    refine mi_sem_call mi_in177 (i := (.invokestatic 127, 3, 133, 0, 9, 0, 382)) (by rfl) (by rfl) hM661 (by decide) ⟨Nat.le_of_ble_eq_true rfl, Nat.le_of_ble_eq_true rfl⟩ ?_
    refine mi_sem_steps mi_in177 (mi_calok_none _ _) 2 _ (31, [(0, .ref 116), (1, .int a1), (2, .int a2), (3, .int a3)], [.int (-1)], (0, 0), mi_G) (by rfl) ?_
    exact mi_sem_ret (cal := fun _ _ _ => none) mi_in177 (by rfl)

set_option maxRecDepth 100000 in
set_option maxHeartbeats 4000000 in
theorem mp_later_15 (a1 : Int32) (a2 : Int32) (a3 : Int32) (r0 : 0 ≤ (a2).toInt ∧ (a2).toInt ≤ 20) (r1 : 0 ≤ (a3).toInt ∧ (a3).toInt ≤ 2147483647) (r2 : 0 ≤ (a1).toInt ∧ (a1).toInt ≤ 5) : mi_P 90 177 [.int a1, .int a2, .int a3] := by
  refine ⟨.int (-1), mi_G, mi_G, (mi_h90, mi_c90), (mi_h177, mi_c177), 3, 3, rfl, rfl, rfl, by decide, by decide, ?_, ?_⟩
  · refine mi_met_of (y := 90) (q := (mi_h90, mi_c90)) rfl (by decide) (Nat.le_of_ble_eq_true rfl) ?_
    refine mi_sem_steps mi_in90 (mi_calok_none _ _) 3 _ (4, [(0, .ref 0), (1, .int a1), (2, .int a2), (3, .int a3)], [.int 20, .int 0, .int a2], (0, 0), mi_G) (by rfl) ?_
    have hM665 : mi_Met mi_N0 1 mi_h120 [.int a2, .int 0, .int 20] mi_G (some (.int 1)) mi_G := by
      refine mi_met_of (y := 120) (q := (mi_h120, mi_c120)) rfl (by decide) (Nat.le_of_ble_eq_true rfl) ?_
      refine mi_sem_steps mi_in120 (mi_calok_none _ _) 2 _ (2, [(0, .int a2), (1, .int 0), (2, .int 20)], [.int 0, .int a2], (0, 0), mi_G) (by rfl) ?_
      refine mi_sem_b mi_in120 (decide (a2 < 0)) false (mi_ltF (0) (by decide) (by omega)) 14 5 ([(0, .int a2), (1, .int 0), (2, .int 20)], [], (0, 0), mi_G) (by rfl) ?_
      refine mi_sem_steps mi_in120 (mi_calok_none _ _) 2 _ (7, [(0, .int a2), (1, .int 0), (2, .int 20)], [.int 20, .int a2], (0, 0), mi_G) (by rfl) ?_
      refine mi_sem_b mi_in120 (decide (20 < a2)) false (mi_ltF2 (20) (by decide) (by omega)) 14 10 ([(0, .int a2), (1, .int 0), (2, .int 20)], [], (0, 0), mi_G) (by rfl) ?_
      refine mi_sem_steps mi_in120 (mi_calok_none _ _) 2 _ (15, [(0, .int a2), (1, .int 0), (2, .int 20)], [.int 1], (0, 0), mi_G) (by rfl) ?_
      exact mi_sem_ret (cal := fun _ _ _ => none) mi_in120 (by rfl)
    refine mi_sem_call mi_in90 (i := (.invokestatic 74, 3, 120, 0, 9, 0, 152)) (by rfl) (by rfl) hM665 (by decide) ⟨Nat.le_of_ble_eq_true rfl, Nat.le_of_ble_eq_true rfl⟩ ?_
    refine mi_sem_steps mi_in90 (mi_calok_none _ _) 3 _ (12, [(0, .ref 0), (1, .int a1), (2, .int a2), (3, .int a3)], [.int (-1), .int a3], (0, 0), mi_G) (by rfl) ?_
    refine mi_sem_b mi_in90 ((a3 == (-1))) false (mi_eqF (-1) (by decide) (by omega)) 25 15 ([(0, .ref 0), (1, .int a1), (2, .int a2), (3, .int a3)], [], (0, 0), mi_G) (by rfl) ?_
    refine mi_sem_steps mi_in90 (mi_calok_none _ _) 2 _ (17, [(0, .ref 0), (1, .int a1), (2, .int a2), (3, .int a3)], [.int a3, .ref 0], (0, 0), mi_G) (by rfl) ?_
    have hM667 : mi_Met mi_N0 2 mi_h123 [.ref 0, .int a3] mi_G (some (.int 0)) mi_G := by
      refine mi_met_of (y := 123) (q := (mi_h123, mi_c123)) rfl (by decide) (Nat.le_of_ble_eq_true rfl) ?_
      refine mi_sem_steps mi_in123 (mi_calok_none _ _) 3 _ (5, [(0, .ref 0), (1, .int a3)], [.int a3, .ref 1], (0, 0), mi_G) (by rfl) ?_
      have hM666 : mi_Met mi_N0 1 mi_h24 [.ref 1, .int a3] mi_G (some (.int 0)) mi_G := by
        refine mi_met_of (y := 24) (q := (mi_h24, mi_c24)) rfl (by decide) (Nat.le_of_ble_eq_true rfl) ?_
        refine mi_sem_steps mi_in24 (mi_calok_none _ _) 1 _ (1, [(0, .ref 1), (1, .int a3)], [.int a3], (0, 0), mi_G) (by rfl) ?_
        refine mi_sem_b mi_in24 (decide (a3 < 0)) false (mi_ltF (0) (by decide) (by omega)) 22 4 ([(0, .ref 1), (1, .int a3)], [], (0, 0), mi_G) (by rfl) ?_
        refine mi_sem_steps mi_in24 (mi_calok_none _ _) 3 _ (9, [(0, .ref 1), (1, .int a3)], [.int 0, .int a3], (0, 0), mi_G) (by rfl) ?_
        refine mi_sem_b mi_in24 (decide (0 ≤ a3)) true (mi_leT2 (0) (by decide) (by omega)) 22 12 ([(0, .ref 1), (1, .int a3)], [], (0, 0), mi_G) (by rfl) ?_
        refine mi_sem_steps mi_in24 (mi_calok_none _ _) 1 _ (23, [(0, .ref 1), (1, .int a3)], [.int 0], (0, 0), mi_G) (by rfl) ?_
        exact mi_sem_ret (cal := fun _ _ _ => none) mi_in24 (by rfl)
      refine mi_sem_call mi_in123 (i := (.invokevirtual 342, 3, 24, 0, 9, 0, 163)) (by rfl) (by rfl) hM666 (by decide) ⟨Nat.le_of_ble_eq_true rfl, Nat.le_of_ble_eq_true rfl⟩ ?_
      exact mi_sem_ret (cal := fun _ _ _ => none) mi_in123 (by rfl)
    refine mi_sem_call mi_in90 (i := (.invokevirtual 141, 3, 123, 0, 9, 0, 162)) (by rfl) (by rfl) hM667 (by decide) ⟨Nat.le_of_ble_eq_true rfl, Nat.le_of_ble_eq_true rfl⟩ ?_
    refine mi_sem_steps mi_in90 (mi_calok_none _ _) 2 _ (24, [(0, .ref 0), (1, .int a1), (2, .int a2), (3, .int a3)], [.int (-1)], (0, 0), mi_G) (by rfl) ?_
    exact mi_sem_ret (cal := fun _ _ _ => none) mi_in90 (by rfl)
  · refine mi_met_of (y := 177) (q := (mi_h177, mi_c177)) rfl (by decide) (Nat.le_of_ble_eq_true rfl) ?_
    refine mi_sem_steps mi_in177 (mi_calok_none _ _) 1 _ (1, [(0, .ref 116), (1, .int a1), (2, .int a2), (3, .int a3)], [.int a1], (0, 0), mi_G) (by rfl) ?_
    have hM669 : mi_Met mi_N0 2 mi_h133 [.int a1] mi_G (some (.int 1)) mi_G := by
      refine mi_met_of (y := 133) (q := (mi_h133, mi_c133)) rfl (by decide) (Nat.le_of_ble_eq_true rfl) ?_
      refine mi_sem_steps mi_in133 (mi_calok_none _ _) 3 _ (3, [(0, .int a1)], [.int 5, .int 0, .int a1], (0, 0), mi_G) (by rfl) ?_
      have hM668 : mi_Met mi_N0 1 mi_h131 [.int a1, .int 0, .int 5] mi_G (some (.int 1)) mi_G := by
        refine mi_met_of (y := 131) (q := (mi_h131, mi_c131)) rfl (by decide) (Nat.le_of_ble_eq_true rfl) ?_
        refine mi_sem_steps mi_in131 (mi_calok_none _ _) 2 _ (2, [(0, .int a1), (1, .int 0), (2, .int 5)], [.int 0, .int a1], (0, 0), mi_G) (by rfl) ?_
        refine mi_sem_b mi_in131 (decide (a1 < 0)) false (mi_ltF (0) (by decide) (by omega)) 14 5 ([(0, .int a1), (1, .int 0), (2, .int 5)], [], (0, 0), mi_G) (by rfl) ?_
        refine mi_sem_steps mi_in131 (mi_calok_none _ _) 2 _ (7, [(0, .int a1), (1, .int 0), (2, .int 5)], [.int 5, .int a1], (0, 0), mi_G) (by rfl) ?_
        refine mi_sem_b mi_in131 (decide (5 < a1)) false (mi_ltF2 (5) (by decide) (by omega)) 14 10 ([(0, .int a1), (1, .int 0), (2, .int 5)], [], (0, 0), mi_G) (by rfl) ?_
        refine mi_sem_steps mi_in131 (mi_calok_none _ _) 2 _ (15, [(0, .int a1), (1, .int 0), (2, .int 5)], [.int 1], (0, 0), mi_G) (by rfl) ?_
        exact mi_sem_ret (cal := fun _ _ _ => none) mi_in131 (by rfl)
      refine mi_sem_call mi_in133 (i := (.invokestatic 119, 3, 131, 0, 9, 0, 379)) (by rfl) (by rfl) hM668 (by decide) ⟨Nat.le_of_ble_eq_true rfl, Nat.le_of_ble_eq_true rfl⟩ ?_
      exact mi_sem_ret (cal := fun _ _ _ => none) mi_in133 (by rfl)
    refine mi_sem_call mi_in177 (i := (.invokestatic 127, 3, 133, 0, 9, 0, 382)) (by rfl) (by rfl) hM669 (by decide) ⟨Nat.le_of_ble_eq_true rfl, Nat.le_of_ble_eq_true rfl⟩ ?_
    refine mi_sem_steps mi_in177 (mi_calok_none _ _) 4 _ (11, [(0, .ref 116), (1, .int a1), (2, .int a2), (3, .int a3)], [.int 20, .int 0, .int a2], (0, 0), mi_G) (by rfl) ?_
    have hM670 : mi_Met mi_N0 1 mi_h131 [.int a2, .int 0, .int 20] mi_G (some (.int 1)) mi_G := by
      refine mi_met_of (y := 131) (q := (mi_h131, mi_c131)) rfl (by decide) (Nat.le_of_ble_eq_true rfl) ?_
      refine mi_sem_steps mi_in131 (mi_calok_none _ _) 2 _ (2, [(0, .int a2), (1, .int 0), (2, .int 20)], [.int 0, .int a2], (0, 0), mi_G) (by rfl) ?_
      refine mi_sem_b mi_in131 (decide (a2 < 0)) false (mi_ltF (0) (by decide) (by omega)) 14 5 ([(0, .int a2), (1, .int 0), (2, .int 20)], [], (0, 0), mi_G) (by rfl) ?_
      refine mi_sem_steps mi_in131 (mi_calok_none _ _) 2 _ (7, [(0, .int a2), (1, .int 0), (2, .int 20)], [.int 20, .int a2], (0, 0), mi_G) (by rfl) ?_
      refine mi_sem_b mi_in131 (decide (20 < a2)) false (mi_ltF2 (20) (by decide) (by omega)) 14 10 ([(0, .int a2), (1, .int 0), (2, .int 20)], [], (0, 0), mi_G) (by rfl) ?_
      refine mi_sem_steps mi_in131 (mi_calok_none _ _) 2 _ (15, [(0, .int a2), (1, .int 0), (2, .int 20)], [.int 1], (0, 0), mi_G) (by rfl) ?_
      exact mi_sem_ret (cal := fun _ _ _ => none) mi_in131 (by rfl)
    refine mi_sem_call mi_in177 (i := (.invokestatic 119, 3, 131, 0, 9, 0, 379)) (by rfl) (by rfl) hM670 (by decide) ⟨Nat.le_of_ble_eq_true rfl, Nat.le_of_ble_eq_true rfl⟩ ?_
    refine mi_sem_steps mi_in177 (mi_calok_none _ _) 3 _ (19, [(0, .ref 116), (1, .int a1), (2, .int a2), (3, .int a3)], [.int (-1), .int a3], (0, 0), mi_G) (by rfl) ?_
    refine mi_sem_b mi_in177 ((a3 == (-1))) false (mi_eqF (-1) (by decide) (by omega)) 32 22 ([(0, .ref 116), (1, .int a1), (2, .int a2), (3, .int a3)], [], (0, 0), mi_G) (by rfl) ?_
    refine mi_sem_steps mi_in177 (mi_calok_none _ _) 2 _ (24, [(0, .ref 116), (1, .int a1), (2, .int a2), (3, .int a3)], [.int a3, .ref 116], (0, 0), mi_G) (by rfl) ?_
    have hM672 : mi_Met mi_N0 2 mi_h132 [.ref 116, .int a3] mi_G (some (.int 0)) mi_G := by
      refine mi_met_of (y := 132) (q := (mi_h132, mi_c132)) rfl (by decide) (Nat.le_of_ble_eq_true rfl) ?_
      refine mi_sem_steps mi_in132 (mi_calok_none _ _) 6 _ (8, [(0, .ref 116), (1, .int a3)], [.int (-1), .int 0, .int a3], (0, 0), mi_G) (by rfl) ?_
      have hM671 : mi_Met mi_N0 1 mi_h131 [.int a3, .int 0, .int (-1)] mi_G (some (.int 0)) mi_G := by
        refine mi_met_of (y := 131) (q := (mi_h131, mi_c131)) rfl (by decide) (Nat.le_of_ble_eq_true rfl) ?_
        refine mi_sem_steps mi_in131 (mi_calok_none _ _) 2 _ (2, [(0, .int a3), (1, .int 0), (2, .int (-1))], [.int 0, .int a3], (0, 0), mi_G) (by rfl) ?_
        refine mi_sem_b mi_in131 (decide (a3 < 0)) false (mi_ltF (0) (by decide) (by omega)) 14 5 ([(0, .int a3), (1, .int 0), (2, .int (-1))], [], (0, 0), mi_G) (by rfl) ?_
        refine mi_sem_steps mi_in131 (mi_calok_none _ _) 2 _ (7, [(0, .int a3), (1, .int 0), (2, .int (-1))], [.int (-1), .int a3], (0, 0), mi_G) (by rfl) ?_
        refine mi_sem_b mi_in131 (decide ((-1) < a3)) true (mi_ltT2 (-1) (by decide) (by omega)) 14 10 ([(0, .int a3), (1, .int 0), (2, .int (-1))], [], (0, 0), mi_G) (by rfl) ?_
        refine mi_sem_steps mi_in131 (mi_calok_none _ _) 1 _ (15, [(0, .int a3), (1, .int 0), (2, .int (-1))], [.int 0], (0, 0), mi_G) (by rfl) ?_
        exact mi_sem_ret (cal := fun _ _ _ => none) mi_in131 (by rfl)
      refine mi_sem_call mi_in132 (i := (.invokestatic 119, 3, 131, 0, 9, 0, 379)) (by rfl) (by rfl) hM671 (by decide) ⟨Nat.le_of_ble_eq_true rfl, Nat.le_of_ble_eq_true rfl⟩ ?_
      exact mi_sem_ret (cal := fun _ _ _ => none) mi_in132 (by rfl)
    refine mi_sem_call mi_in177 (i := (.invokevirtual 137, 3, 132, 0, 9, 0, 387)) (by rfl) (by rfl) hM672 (by decide) ⟨Nat.le_of_ble_eq_true rfl, Nat.le_of_ble_eq_true rfl⟩ ?_
    refine mi_sem_steps mi_in177 (mi_calok_none _ _) 2 _ (31, [(0, .ref 116), (1, .int a1), (2, .int a2), (3, .int a3)], [.int (-1)], (0, 0), mi_G) (by rfl) ?_
    exact mi_sem_ret (cal := fun _ _ _ => none) mi_in177 (by rfl)

set_option maxRecDepth 100000 in
set_option maxHeartbeats 4000000 in
theorem mp_later_16 (a1 : Int32) (a2 : Int32) (a3 : Int32) (r0 : 0 ≤ (a2).toInt ∧ (a2).toInt ≤ 20) (r1 : 0 ≤ (a3).toInt ∧ (a3).toInt ≤ 2147483647) (r2 : 6 ≤ (a1).toInt ∧ (a1).toInt ≤ 2147483647) : mi_P 90 177 [.int a1, .int a2, .int a3] := by
  refine ⟨.int (-1), mi_G, mi_G, (mi_h90, mi_c90), (mi_h177, mi_c177), 3, 3, rfl, rfl, rfl, by decide, by decide, ?_, ?_⟩
  · refine mi_met_of (y := 90) (q := (mi_h90, mi_c90)) rfl (by decide) (Nat.le_of_ble_eq_true rfl) ?_
    refine mi_sem_steps mi_in90 (mi_calok_none _ _) 3 _ (4, [(0, .ref 0), (1, .int a1), (2, .int a2), (3, .int a3)], [.int 20, .int 0, .int a2], (0, 0), mi_G) (by rfl) ?_
    have hM673 : mi_Met mi_N0 1 mi_h120 [.int a2, .int 0, .int 20] mi_G (some (.int 1)) mi_G := by
      refine mi_met_of (y := 120) (q := (mi_h120, mi_c120)) rfl (by decide) (Nat.le_of_ble_eq_true rfl) ?_
      refine mi_sem_steps mi_in120 (mi_calok_none _ _) 2 _ (2, [(0, .int a2), (1, .int 0), (2, .int 20)], [.int 0, .int a2], (0, 0), mi_G) (by rfl) ?_
      refine mi_sem_b mi_in120 (decide (a2 < 0)) false (mi_ltF (0) (by decide) (by omega)) 14 5 ([(0, .int a2), (1, .int 0), (2, .int 20)], [], (0, 0), mi_G) (by rfl) ?_
      refine mi_sem_steps mi_in120 (mi_calok_none _ _) 2 _ (7, [(0, .int a2), (1, .int 0), (2, .int 20)], [.int 20, .int a2], (0, 0), mi_G) (by rfl) ?_
      refine mi_sem_b mi_in120 (decide (20 < a2)) false (mi_ltF2 (20) (by decide) (by omega)) 14 10 ([(0, .int a2), (1, .int 0), (2, .int 20)], [], (0, 0), mi_G) (by rfl) ?_
      refine mi_sem_steps mi_in120 (mi_calok_none _ _) 2 _ (15, [(0, .int a2), (1, .int 0), (2, .int 20)], [.int 1], (0, 0), mi_G) (by rfl) ?_
      exact mi_sem_ret (cal := fun _ _ _ => none) mi_in120 (by rfl)
    refine mi_sem_call mi_in90 (i := (.invokestatic 74, 3, 120, 0, 9, 0, 152)) (by rfl) (by rfl) hM673 (by decide) ⟨Nat.le_of_ble_eq_true rfl, Nat.le_of_ble_eq_true rfl⟩ ?_
    refine mi_sem_steps mi_in90 (mi_calok_none _ _) 3 _ (12, [(0, .ref 0), (1, .int a1), (2, .int a2), (3, .int a3)], [.int (-1), .int a3], (0, 0), mi_G) (by rfl) ?_
    refine mi_sem_b mi_in90 ((a3 == (-1))) false (mi_eqF (-1) (by decide) (by omega)) 25 15 ([(0, .ref 0), (1, .int a1), (2, .int a2), (3, .int a3)], [], (0, 0), mi_G) (by rfl) ?_
    refine mi_sem_steps mi_in90 (mi_calok_none _ _) 2 _ (17, [(0, .ref 0), (1, .int a1), (2, .int a2), (3, .int a3)], [.int a3, .ref 0], (0, 0), mi_G) (by rfl) ?_
    have hM675 : mi_Met mi_N0 2 mi_h123 [.ref 0, .int a3] mi_G (some (.int 0)) mi_G := by
      refine mi_met_of (y := 123) (q := (mi_h123, mi_c123)) rfl (by decide) (Nat.le_of_ble_eq_true rfl) ?_
      refine mi_sem_steps mi_in123 (mi_calok_none _ _) 3 _ (5, [(0, .ref 0), (1, .int a3)], [.int a3, .ref 1], (0, 0), mi_G) (by rfl) ?_
      have hM674 : mi_Met mi_N0 1 mi_h24 [.ref 1, .int a3] mi_G (some (.int 0)) mi_G := by
        refine mi_met_of (y := 24) (q := (mi_h24, mi_c24)) rfl (by decide) (Nat.le_of_ble_eq_true rfl) ?_
        refine mi_sem_steps mi_in24 (mi_calok_none _ _) 1 _ (1, [(0, .ref 1), (1, .int a3)], [.int a3], (0, 0), mi_G) (by rfl) ?_
        refine mi_sem_b mi_in24 (decide (a3 < 0)) false (mi_ltF (0) (by decide) (by omega)) 22 4 ([(0, .ref 1), (1, .int a3)], [], (0, 0), mi_G) (by rfl) ?_
        refine mi_sem_steps mi_in24 (mi_calok_none _ _) 3 _ (9, [(0, .ref 1), (1, .int a3)], [.int 0, .int a3], (0, 0), mi_G) (by rfl) ?_
        refine mi_sem_b mi_in24 (decide (0 ≤ a3)) true (mi_leT2 (0) (by decide) (by omega)) 22 12 ([(0, .ref 1), (1, .int a3)], [], (0, 0), mi_G) (by rfl) ?_
        refine mi_sem_steps mi_in24 (mi_calok_none _ _) 1 _ (23, [(0, .ref 1), (1, .int a3)], [.int 0], (0, 0), mi_G) (by rfl) ?_
        exact mi_sem_ret (cal := fun _ _ _ => none) mi_in24 (by rfl)
      refine mi_sem_call mi_in123 (i := (.invokevirtual 342, 3, 24, 0, 9, 0, 163)) (by rfl) (by rfl) hM674 (by decide) ⟨Nat.le_of_ble_eq_true rfl, Nat.le_of_ble_eq_true rfl⟩ ?_
      exact mi_sem_ret (cal := fun _ _ _ => none) mi_in123 (by rfl)
    refine mi_sem_call mi_in90 (i := (.invokevirtual 141, 3, 123, 0, 9, 0, 162)) (by rfl) (by rfl) hM675 (by decide) ⟨Nat.le_of_ble_eq_true rfl, Nat.le_of_ble_eq_true rfl⟩ ?_
    refine mi_sem_steps mi_in90 (mi_calok_none _ _) 2 _ (24, [(0, .ref 0), (1, .int a1), (2, .int a2), (3, .int a3)], [.int (-1)], (0, 0), mi_G) (by rfl) ?_
    exact mi_sem_ret (cal := fun _ _ _ => none) mi_in90 (by rfl)
  · refine mi_met_of (y := 177) (q := (mi_h177, mi_c177)) rfl (by decide) (Nat.le_of_ble_eq_true rfl) ?_
    refine mi_sem_steps mi_in177 (mi_calok_none _ _) 1 _ (1, [(0, .ref 116), (1, .int a1), (2, .int a2), (3, .int a3)], [.int a1], (0, 0), mi_G) (by rfl) ?_
    have hM677 : mi_Met mi_N0 2 mi_h133 [.int a1] mi_G (some (.int 0)) mi_G := by
      refine mi_met_of (y := 133) (q := (mi_h133, mi_c133)) rfl (by decide) (Nat.le_of_ble_eq_true rfl) ?_
      refine mi_sem_steps mi_in133 (mi_calok_none _ _) 3 _ (3, [(0, .int a1)], [.int 5, .int 0, .int a1], (0, 0), mi_G) (by rfl) ?_
      have hM676 : mi_Met mi_N0 1 mi_h131 [.int a1, .int 0, .int 5] mi_G (some (.int 0)) mi_G := by
        refine mi_met_of (y := 131) (q := (mi_h131, mi_c131)) rfl (by decide) (Nat.le_of_ble_eq_true rfl) ?_
        refine mi_sem_steps mi_in131 (mi_calok_none _ _) 2 _ (2, [(0, .int a1), (1, .int 0), (2, .int 5)], [.int 0, .int a1], (0, 0), mi_G) (by rfl) ?_
        refine mi_sem_b mi_in131 (decide (a1 < 0)) false (mi_ltF (0) (by decide) (by omega)) 14 5 ([(0, .int a1), (1, .int 0), (2, .int 5)], [], (0, 0), mi_G) (by rfl) ?_
        refine mi_sem_steps mi_in131 (mi_calok_none _ _) 2 _ (7, [(0, .int a1), (1, .int 0), (2, .int 5)], [.int 5, .int a1], (0, 0), mi_G) (by rfl) ?_
        refine mi_sem_b mi_in131 (decide (5 < a1)) true (mi_ltT2 (5) (by decide) (by omega)) 14 10 ([(0, .int a1), (1, .int 0), (2, .int 5)], [], (0, 0), mi_G) (by rfl) ?_
        refine mi_sem_steps mi_in131 (mi_calok_none _ _) 1 _ (15, [(0, .int a1), (1, .int 0), (2, .int 5)], [.int 0], (0, 0), mi_G) (by rfl) ?_
        exact mi_sem_ret (cal := fun _ _ _ => none) mi_in131 (by rfl)
      refine mi_sem_call mi_in133 (i := (.invokestatic 119, 3, 131, 0, 9, 0, 379)) (by rfl) (by rfl) hM676 (by decide) ⟨Nat.le_of_ble_eq_true rfl, Nat.le_of_ble_eq_true rfl⟩ ?_
      exact mi_sem_ret (cal := fun _ _ _ => none) mi_in133 (by rfl)
    refine mi_sem_call mi_in177 (i := (.invokestatic 127, 3, 133, 0, 9, 0, 382)) (by rfl) (by rfl) hM677 (by decide) ⟨Nat.le_of_ble_eq_true rfl, Nat.le_of_ble_eq_true rfl⟩ ?_
    refine mi_sem_steps mi_in177 (mi_calok_none _ _) 2 _ (31, [(0, .ref 116), (1, .int a1), (2, .int a2), (3, .int a3)], [.int (-1)], (0, 0), mi_G) (by rfl) ?_
    exact mi_sem_ret (cal := fun _ _ _ => none) mi_in177 (by rfl)

set_option maxRecDepth 100000 in
set_option maxHeartbeats 4000000 in
theorem mp_later_17 (a1 : Int32) (a2 : Int32) (a3 : Int32) (r0 : 21 ≤ (a2).toInt ∧ (a2).toInt ≤ 2147483647) (r1 : (-2147483648) ≤ (a1).toInt ∧ (a1).toInt ≤ (-1)) : mi_P 90 177 [.int a1, .int a2, .int a3] := by
  refine ⟨.int (-1), mi_G, mi_G, (mi_h90, mi_c90), (mi_h177, mi_c177), 2, 3, rfl, rfl, rfl, by decide, by decide, ?_, ?_⟩
  · refine mi_met_of (y := 90) (q := (mi_h90, mi_c90)) rfl (by decide) (Nat.le_of_ble_eq_true rfl) ?_
    refine mi_sem_steps mi_in90 (mi_calok_none _ _) 3 _ (4, [(0, .ref 0), (1, .int a1), (2, .int a2), (3, .int a3)], [.int 20, .int 0, .int a2], (0, 0), mi_G) (by rfl) ?_
    have hM679 : mi_Met mi_N0 1 mi_h120 [.int a2, .int 0, .int 20] mi_G (some (.int 0)) mi_G := by
      refine mi_met_of (y := 120) (q := (mi_h120, mi_c120)) rfl (by decide) (Nat.le_of_ble_eq_true rfl) ?_
      refine mi_sem_steps mi_in120 (mi_calok_none _ _) 2 _ (2, [(0, .int a2), (1, .int 0), (2, .int 20)], [.int 0, .int a2], (0, 0), mi_G) (by rfl) ?_
      refine mi_sem_b mi_in120 (decide (a2 < 0)) false (mi_ltF (0) (by decide) (by omega)) 14 5 ([(0, .int a2), (1, .int 0), (2, .int 20)], [], (0, 0), mi_G) (by rfl) ?_
      refine mi_sem_steps mi_in120 (mi_calok_none _ _) 2 _ (7, [(0, .int a2), (1, .int 0), (2, .int 20)], [.int 20, .int a2], (0, 0), mi_G) (by rfl) ?_
      refine mi_sem_b mi_in120 (decide (20 < a2)) true (mi_ltT2 (20) (by decide) (by omega)) 14 10 ([(0, .int a2), (1, .int 0), (2, .int 20)], [], (0, 0), mi_G) (by rfl) ?_
      refine mi_sem_steps mi_in120 (mi_calok_none _ _) 1 _ (15, [(0, .int a2), (1, .int 0), (2, .int 20)], [.int 0], (0, 0), mi_G) (by rfl) ?_
      exact mi_sem_ret (cal := fun _ _ _ => none) mi_in120 (by rfl)
    refine mi_sem_call mi_in90 (i := (.invokestatic 74, 3, 120, 0, 9, 0, 152)) (by rfl) (by rfl) hM679 (by decide) ⟨Nat.le_of_ble_eq_true rfl, Nat.le_of_ble_eq_true rfl⟩ ?_
    refine mi_sem_steps mi_in90 (mi_calok_none _ _) 2 _ (24, [(0, .ref 0), (1, .int a1), (2, .int a2), (3, .int a3)], [.int (-1)], (0, 0), mi_G) (by rfl) ?_
    exact mi_sem_ret (cal := fun _ _ _ => none) mi_in90 (by rfl)
  · refine mi_met_of (y := 177) (q := (mi_h177, mi_c177)) rfl (by decide) (Nat.le_of_ble_eq_true rfl) ?_
    refine mi_sem_steps mi_in177 (mi_calok_none _ _) 1 _ (1, [(0, .ref 116), (1, .int a1), (2, .int a2), (3, .int a3)], [.int a1], (0, 0), mi_G) (by rfl) ?_
    have hM681 : mi_Met mi_N0 2 mi_h133 [.int a1] mi_G (some (.int 0)) mi_G := by
      refine mi_met_of (y := 133) (q := (mi_h133, mi_c133)) rfl (by decide) (Nat.le_of_ble_eq_true rfl) ?_
      refine mi_sem_steps mi_in133 (mi_calok_none _ _) 3 _ (3, [(0, .int a1)], [.int 5, .int 0, .int a1], (0, 0), mi_G) (by rfl) ?_
      have hM680 : mi_Met mi_N0 1 mi_h131 [.int a1, .int 0, .int 5] mi_G (some (.int 0)) mi_G := by
        refine mi_met_of (y := 131) (q := (mi_h131, mi_c131)) rfl (by decide) (Nat.le_of_ble_eq_true rfl) ?_
        refine mi_sem_steps mi_in131 (mi_calok_none _ _) 2 _ (2, [(0, .int a1), (1, .int 0), (2, .int 5)], [.int 0, .int a1], (0, 0), mi_G) (by rfl) ?_
        refine mi_sem_b mi_in131 (decide (a1 < 0)) true (mi_ltT (0) (by decide) (by omega)) 14 5 ([(0, .int a1), (1, .int 0), (2, .int 5)], [], (0, 0), mi_G) (by rfl) ?_
        refine mi_sem_steps mi_in131 (mi_calok_none _ _) 1 _ (15, [(0, .int a1), (1, .int 0), (2, .int 5)], [.int 0], (0, 0), mi_G) (by rfl) ?_
        exact mi_sem_ret (cal := fun _ _ _ => none) mi_in131 (by rfl)
      refine mi_sem_call mi_in133 (i := (.invokestatic 119, 3, 131, 0, 9, 0, 379)) (by rfl) (by rfl) hM680 (by decide) ⟨Nat.le_of_ble_eq_true rfl, Nat.le_of_ble_eq_true rfl⟩ ?_
      exact mi_sem_ret (cal := fun _ _ _ => none) mi_in133 (by rfl)
    refine mi_sem_call mi_in177 (i := (.invokestatic 127, 3, 133, 0, 9, 0, 382)) (by rfl) (by rfl) hM681 (by decide) ⟨Nat.le_of_ble_eq_true rfl, Nat.le_of_ble_eq_true rfl⟩ ?_
    refine mi_sem_steps mi_in177 (mi_calok_none _ _) 2 _ (31, [(0, .ref 116), (1, .int a1), (2, .int a2), (3, .int a3)], [.int (-1)], (0, 0), mi_G) (by rfl) ?_
    exact mi_sem_ret (cal := fun _ _ _ => none) mi_in177 (by rfl)

set_option maxRecDepth 100000 in
set_option maxHeartbeats 4000000 in
theorem mp_later_18 (a1 : Int32) (a2 : Int32) (a3 : Int32) (r0 : 21 ≤ (a2).toInt ∧ (a2).toInt ≤ 2147483647) (r1 : 0 ≤ (a1).toInt ∧ (a1).toInt ≤ 5) : mi_P 90 177 [.int a1, .int a2, .int a3] := by
  refine ⟨.int (-1), mi_G, mi_G, (mi_h90, mi_c90), (mi_h177, mi_c177), 2, 3, rfl, rfl, rfl, by decide, by decide, ?_, ?_⟩
  · refine mi_met_of (y := 90) (q := (mi_h90, mi_c90)) rfl (by decide) (Nat.le_of_ble_eq_true rfl) ?_
    refine mi_sem_steps mi_in90 (mi_calok_none _ _) 3 _ (4, [(0, .ref 0), (1, .int a1), (2, .int a2), (3, .int a3)], [.int 20, .int 0, .int a2], (0, 0), mi_G) (by rfl) ?_
    have hM683 : mi_Met mi_N0 1 mi_h120 [.int a2, .int 0, .int 20] mi_G (some (.int 0)) mi_G := by
      refine mi_met_of (y := 120) (q := (mi_h120, mi_c120)) rfl (by decide) (Nat.le_of_ble_eq_true rfl) ?_
      refine mi_sem_steps mi_in120 (mi_calok_none _ _) 2 _ (2, [(0, .int a2), (1, .int 0), (2, .int 20)], [.int 0, .int a2], (0, 0), mi_G) (by rfl) ?_
      refine mi_sem_b mi_in120 (decide (a2 < 0)) false (mi_ltF (0) (by decide) (by omega)) 14 5 ([(0, .int a2), (1, .int 0), (2, .int 20)], [], (0, 0), mi_G) (by rfl) ?_
      refine mi_sem_steps mi_in120 (mi_calok_none _ _) 2 _ (7, [(0, .int a2), (1, .int 0), (2, .int 20)], [.int 20, .int a2], (0, 0), mi_G) (by rfl) ?_
      refine mi_sem_b mi_in120 (decide (20 < a2)) true (mi_ltT2 (20) (by decide) (by omega)) 14 10 ([(0, .int a2), (1, .int 0), (2, .int 20)], [], (0, 0), mi_G) (by rfl) ?_
      refine mi_sem_steps mi_in120 (mi_calok_none _ _) 1 _ (15, [(0, .int a2), (1, .int 0), (2, .int 20)], [.int 0], (0, 0), mi_G) (by rfl) ?_
      exact mi_sem_ret (cal := fun _ _ _ => none) mi_in120 (by rfl)
    refine mi_sem_call mi_in90 (i := (.invokestatic 74, 3, 120, 0, 9, 0, 152)) (by rfl) (by rfl) hM683 (by decide) ⟨Nat.le_of_ble_eq_true rfl, Nat.le_of_ble_eq_true rfl⟩ ?_
    refine mi_sem_steps mi_in90 (mi_calok_none _ _) 2 _ (24, [(0, .ref 0), (1, .int a1), (2, .int a2), (3, .int a3)], [.int (-1)], (0, 0), mi_G) (by rfl) ?_
    exact mi_sem_ret (cal := fun _ _ _ => none) mi_in90 (by rfl)
  · refine mi_met_of (y := 177) (q := (mi_h177, mi_c177)) rfl (by decide) (Nat.le_of_ble_eq_true rfl) ?_
    refine mi_sem_steps mi_in177 (mi_calok_none _ _) 1 _ (1, [(0, .ref 116), (1, .int a1), (2, .int a2), (3, .int a3)], [.int a1], (0, 0), mi_G) (by rfl) ?_
    have hM685 : mi_Met mi_N0 2 mi_h133 [.int a1] mi_G (some (.int 1)) mi_G := by
      refine mi_met_of (y := 133) (q := (mi_h133, mi_c133)) rfl (by decide) (Nat.le_of_ble_eq_true rfl) ?_
      refine mi_sem_steps mi_in133 (mi_calok_none _ _) 3 _ (3, [(0, .int a1)], [.int 5, .int 0, .int a1], (0, 0), mi_G) (by rfl) ?_
      have hM684 : mi_Met mi_N0 1 mi_h131 [.int a1, .int 0, .int 5] mi_G (some (.int 1)) mi_G := by
        refine mi_met_of (y := 131) (q := (mi_h131, mi_c131)) rfl (by decide) (Nat.le_of_ble_eq_true rfl) ?_
        refine mi_sem_steps mi_in131 (mi_calok_none _ _) 2 _ (2, [(0, .int a1), (1, .int 0), (2, .int 5)], [.int 0, .int a1], (0, 0), mi_G) (by rfl) ?_
        refine mi_sem_b mi_in131 (decide (a1 < 0)) false (mi_ltF (0) (by decide) (by omega)) 14 5 ([(0, .int a1), (1, .int 0), (2, .int 5)], [], (0, 0), mi_G) (by rfl) ?_
        refine mi_sem_steps mi_in131 (mi_calok_none _ _) 2 _ (7, [(0, .int a1), (1, .int 0), (2, .int 5)], [.int 5, .int a1], (0, 0), mi_G) (by rfl) ?_
        refine mi_sem_b mi_in131 (decide (5 < a1)) false (mi_ltF2 (5) (by decide) (by omega)) 14 10 ([(0, .int a1), (1, .int 0), (2, .int 5)], [], (0, 0), mi_G) (by rfl) ?_
        refine mi_sem_steps mi_in131 (mi_calok_none _ _) 2 _ (15, [(0, .int a1), (1, .int 0), (2, .int 5)], [.int 1], (0, 0), mi_G) (by rfl) ?_
        exact mi_sem_ret (cal := fun _ _ _ => none) mi_in131 (by rfl)
      refine mi_sem_call mi_in133 (i := (.invokestatic 119, 3, 131, 0, 9, 0, 379)) (by rfl) (by rfl) hM684 (by decide) ⟨Nat.le_of_ble_eq_true rfl, Nat.le_of_ble_eq_true rfl⟩ ?_
      exact mi_sem_ret (cal := fun _ _ _ => none) mi_in133 (by rfl)
    refine mi_sem_call mi_in177 (i := (.invokestatic 127, 3, 133, 0, 9, 0, 382)) (by rfl) (by rfl) hM685 (by decide) ⟨Nat.le_of_ble_eq_true rfl, Nat.le_of_ble_eq_true rfl⟩ ?_
    refine mi_sem_steps mi_in177 (mi_calok_none _ _) 4 _ (11, [(0, .ref 116), (1, .int a1), (2, .int a2), (3, .int a3)], [.int 20, .int 0, .int a2], (0, 0), mi_G) (by rfl) ?_
    have hM686 : mi_Met mi_N0 1 mi_h131 [.int a2, .int 0, .int 20] mi_G (some (.int 0)) mi_G := by
      refine mi_met_of (y := 131) (q := (mi_h131, mi_c131)) rfl (by decide) (Nat.le_of_ble_eq_true rfl) ?_
      refine mi_sem_steps mi_in131 (mi_calok_none _ _) 2 _ (2, [(0, .int a2), (1, .int 0), (2, .int 20)], [.int 0, .int a2], (0, 0), mi_G) (by rfl) ?_
      refine mi_sem_b mi_in131 (decide (a2 < 0)) false (mi_ltF (0) (by decide) (by omega)) 14 5 ([(0, .int a2), (1, .int 0), (2, .int 20)], [], (0, 0), mi_G) (by rfl) ?_
      refine mi_sem_steps mi_in131 (mi_calok_none _ _) 2 _ (7, [(0, .int a2), (1, .int 0), (2, .int 20)], [.int 20, .int a2], (0, 0), mi_G) (by rfl) ?_
      refine mi_sem_b mi_in131 (decide (20 < a2)) true (mi_ltT2 (20) (by decide) (by omega)) 14 10 ([(0, .int a2), (1, .int 0), (2, .int 20)], [], (0, 0), mi_G) (by rfl) ?_
      refine mi_sem_steps mi_in131 (mi_calok_none _ _) 1 _ (15, [(0, .int a2), (1, .int 0), (2, .int 20)], [.int 0], (0, 0), mi_G) (by rfl) ?_
      exact mi_sem_ret (cal := fun _ _ _ => none) mi_in131 (by rfl)
    refine mi_sem_call mi_in177 (i := (.invokestatic 119, 3, 131, 0, 9, 0, 379)) (by rfl) (by rfl) hM686 (by decide) ⟨Nat.le_of_ble_eq_true rfl, Nat.le_of_ble_eq_true rfl⟩ ?_
    refine mi_sem_steps mi_in177 (mi_calok_none _ _) 2 _ (31, [(0, .ref 116), (1, .int a1), (2, .int a2), (3, .int a3)], [.int (-1)], (0, 0), mi_G) (by rfl) ?_
    exact mi_sem_ret (cal := fun _ _ _ => none) mi_in177 (by rfl)

set_option maxRecDepth 100000 in
set_option maxHeartbeats 4000000 in
theorem mp_later_19 (a1 : Int32) (a2 : Int32) (a3 : Int32) (r0 : 21 ≤ (a2).toInt ∧ (a2).toInt ≤ 2147483647) (r1 : 6 ≤ (a1).toInt ∧ (a1).toInt ≤ 2147483647) : mi_P 90 177 [.int a1, .int a2, .int a3] := by
  refine ⟨.int (-1), mi_G, mi_G, (mi_h90, mi_c90), (mi_h177, mi_c177), 2, 3, rfl, rfl, rfl, by decide, by decide, ?_, ?_⟩
  · refine mi_met_of (y := 90) (q := (mi_h90, mi_c90)) rfl (by decide) (Nat.le_of_ble_eq_true rfl) ?_
    refine mi_sem_steps mi_in90 (mi_calok_none _ _) 3 _ (4, [(0, .ref 0), (1, .int a1), (2, .int a2), (3, .int a3)], [.int 20, .int 0, .int a2], (0, 0), mi_G) (by rfl) ?_
    have hM687 : mi_Met mi_N0 1 mi_h120 [.int a2, .int 0, .int 20] mi_G (some (.int 0)) mi_G := by
      refine mi_met_of (y := 120) (q := (mi_h120, mi_c120)) rfl (by decide) (Nat.le_of_ble_eq_true rfl) ?_
      refine mi_sem_steps mi_in120 (mi_calok_none _ _) 2 _ (2, [(0, .int a2), (1, .int 0), (2, .int 20)], [.int 0, .int a2], (0, 0), mi_G) (by rfl) ?_
      refine mi_sem_b mi_in120 (decide (a2 < 0)) false (mi_ltF (0) (by decide) (by omega)) 14 5 ([(0, .int a2), (1, .int 0), (2, .int 20)], [], (0, 0), mi_G) (by rfl) ?_
      refine mi_sem_steps mi_in120 (mi_calok_none _ _) 2 _ (7, [(0, .int a2), (1, .int 0), (2, .int 20)], [.int 20, .int a2], (0, 0), mi_G) (by rfl) ?_
      refine mi_sem_b mi_in120 (decide (20 < a2)) true (mi_ltT2 (20) (by decide) (by omega)) 14 10 ([(0, .int a2), (1, .int 0), (2, .int 20)], [], (0, 0), mi_G) (by rfl) ?_
      refine mi_sem_steps mi_in120 (mi_calok_none _ _) 1 _ (15, [(0, .int a2), (1, .int 0), (2, .int 20)], [.int 0], (0, 0), mi_G) (by rfl) ?_
      exact mi_sem_ret (cal := fun _ _ _ => none) mi_in120 (by rfl)
    refine mi_sem_call mi_in90 (i := (.invokestatic 74, 3, 120, 0, 9, 0, 152)) (by rfl) (by rfl) hM687 (by decide) ⟨Nat.le_of_ble_eq_true rfl, Nat.le_of_ble_eq_true rfl⟩ ?_
    refine mi_sem_steps mi_in90 (mi_calok_none _ _) 2 _ (24, [(0, .ref 0), (1, .int a1), (2, .int a2), (3, .int a3)], [.int (-1)], (0, 0), mi_G) (by rfl) ?_
    exact mi_sem_ret (cal := fun _ _ _ => none) mi_in90 (by rfl)
  · refine mi_met_of (y := 177) (q := (mi_h177, mi_c177)) rfl (by decide) (Nat.le_of_ble_eq_true rfl) ?_
    refine mi_sem_steps mi_in177 (mi_calok_none _ _) 1 _ (1, [(0, .ref 116), (1, .int a1), (2, .int a2), (3, .int a3)], [.int a1], (0, 0), mi_G) (by rfl) ?_
    have hM689 : mi_Met mi_N0 2 mi_h133 [.int a1] mi_G (some (.int 0)) mi_G := by
      refine mi_met_of (y := 133) (q := (mi_h133, mi_c133)) rfl (by decide) (Nat.le_of_ble_eq_true rfl) ?_
      refine mi_sem_steps mi_in133 (mi_calok_none _ _) 3 _ (3, [(0, .int a1)], [.int 5, .int 0, .int a1], (0, 0), mi_G) (by rfl) ?_
      have hM688 : mi_Met mi_N0 1 mi_h131 [.int a1, .int 0, .int 5] mi_G (some (.int 0)) mi_G := by
        refine mi_met_of (y := 131) (q := (mi_h131, mi_c131)) rfl (by decide) (Nat.le_of_ble_eq_true rfl) ?_
        refine mi_sem_steps mi_in131 (mi_calok_none _ _) 2 _ (2, [(0, .int a1), (1, .int 0), (2, .int 5)], [.int 0, .int a1], (0, 0), mi_G) (by rfl) ?_
        refine mi_sem_b mi_in131 (decide (a1 < 0)) false (mi_ltF (0) (by decide) (by omega)) 14 5 ([(0, .int a1), (1, .int 0), (2, .int 5)], [], (0, 0), mi_G) (by rfl) ?_
        refine mi_sem_steps mi_in131 (mi_calok_none _ _) 2 _ (7, [(0, .int a1), (1, .int 0), (2, .int 5)], [.int 5, .int a1], (0, 0), mi_G) (by rfl) ?_
        refine mi_sem_b mi_in131 (decide (5 < a1)) true (mi_ltT2 (5) (by decide) (by omega)) 14 10 ([(0, .int a1), (1, .int 0), (2, .int 5)], [], (0, 0), mi_G) (by rfl) ?_
        refine mi_sem_steps mi_in131 (mi_calok_none _ _) 1 _ (15, [(0, .int a1), (1, .int 0), (2, .int 5)], [.int 0], (0, 0), mi_G) (by rfl) ?_
        exact mi_sem_ret (cal := fun _ _ _ => none) mi_in131 (by rfl)
      refine mi_sem_call mi_in133 (i := (.invokestatic 119, 3, 131, 0, 9, 0, 379)) (by rfl) (by rfl) hM688 (by decide) ⟨Nat.le_of_ble_eq_true rfl, Nat.le_of_ble_eq_true rfl⟩ ?_
      exact mi_sem_ret (cal := fun _ _ _ => none) mi_in133 (by rfl)
    refine mi_sem_call mi_in177 (i := (.invokestatic 127, 3, 133, 0, 9, 0, 382)) (by rfl) (by rfl) hM689 (by decide) ⟨Nat.le_of_ble_eq_true rfl, Nat.le_of_ble_eq_true rfl⟩ ?_
    refine mi_sem_steps mi_in177 (mi_calok_none _ _) 2 _ (31, [(0, .ref 116), (1, .int a1), (2, .int a2), (3, .int a3)], [.int (-1)], (0, 0), mi_G) (by rfl) ?_
    exact mi_sem_ret (cal := fun _ _ _ => none) mi_in177 (by rfl)

set_option maxRecDepth 100000 in
set_option maxHeartbeats 4000000 in
theorem mp_later (a1 : Int32) (a2 : Int32) (a3 : Int32) : mi_P 90 177 [.int a1, .int a2, .int a3] := by
  have b0 := Int32.toInt_lt (a1)
  have c0 := Int32.le_toInt (a1)
  have b1 := Int32.toInt_lt (a2)
  have c1 := Int32.le_toInt (a2)
  have b2 := Int32.toInt_lt (a3)
  have c2 := Int32.le_toInt (a3)
  rcases Int.lt_or_le (a2).toInt 0 with _hh | _hh
  ·
    rcases Int.lt_or_le (a1).toInt 0 with _hh | _hh
    ·
      exact mp_later_0 a1 a2 a3 ⟨by omega, by omega⟩ ⟨by omega, by omega⟩
    ·
      rcases Int.lt_or_le (a1).toInt 6 with _hh | _hh
      ·
        exact mp_later_1 a1 a2 a3 ⟨by omega, by omega⟩ ⟨by omega, by omega⟩
      ·
        exact mp_later_2 a1 a2 a3 ⟨by omega, by omega⟩ ⟨by omega, by omega⟩
  ·
    rcases Int.lt_or_le (a2).toInt 21 with _hh | _hh
    ·
      rcases Int.lt_or_le (a3).toInt (-1) with _hh | _hh
      ·
        rcases Int.lt_or_le (a1).toInt 0 with _hh | _hh
        ·
          exact mp_later_3 a1 a2 a3 ⟨by omega, by omega⟩ ⟨by omega, by omega⟩ ⟨by omega, by omega⟩
        ·
          rcases Int.lt_or_le (a1).toInt 6 with _hh | _hh
          ·
            exact mp_later_4 a1 a2 a3 ⟨by omega, by omega⟩ ⟨by omega, by omega⟩ ⟨by omega, by omega⟩
          ·
            exact mp_later_5 a1 a2 a3 ⟨by omega, by omega⟩ ⟨by omega, by omega⟩ ⟨by omega, by omega⟩
      ·
        rcases Int.lt_or_le (a3).toInt 0 with _hh | _hh
        ·
          rcases Int.lt_or_le (a1).toInt 0 with _hh | _hh
          ·
            have e_a3 : a3 = (-1) := Int32.toInt_inj.mp ((by omega : (a3).toInt = -1).trans (by decide))
            subst e_a3
            exact mp_later_6 a1 a2 ⟨by omega, by omega⟩ ⟨by omega, by omega⟩
          ·
            rcases Int.lt_or_le (a1).toInt 6 with _hh | _hh
            ·
              rcases Int.lt_or_le (a1).toInt 1 with _hh | _hh
              ·
                have e_a1 : a1 = 0 := Int32.toInt_inj.mp ((by omega : (a1).toInt = 0).trans (by decide))
                subst e_a1
                have e_a3 : a3 = (-1) := Int32.toInt_inj.mp ((by omega : (a3).toInt = -1).trans (by decide))
                subst e_a3
                exact mp_later_7 a2 ⟨by omega, by omega⟩
              ·
                rcases Int.lt_or_le (a1).toInt 2 with _hh | _hh
                ·
                  have e_a1 : a1 = 1 := Int32.toInt_inj.mp ((by omega : (a1).toInt = 1).trans (by decide))
                  subst e_a1
                  have e_a3 : a3 = (-1) := Int32.toInt_inj.mp ((by omega : (a3).toInt = -1).trans (by decide))
                  subst e_a3
                  exact mp_later_8 a2 ⟨by omega, by omega⟩
                ·
                  rcases Int.lt_or_le (a1).toInt 3 with _hh | _hh
                  ·
                    have e_a1 : a1 = 2 := Int32.toInt_inj.mp ((by omega : (a1).toInt = 2).trans (by decide))
                    subst e_a1
                    have e_a3 : a3 = (-1) := Int32.toInt_inj.mp ((by omega : (a3).toInt = -1).trans (by decide))
                    subst e_a3
                    exact mp_later_9 a2 ⟨by omega, by omega⟩
                  ·
                    rcases Int.lt_or_le (a1).toInt 4 with _hh | _hh
                    ·
                      have e_a1 : a1 = 3 := Int32.toInt_inj.mp ((by omega : (a1).toInt = 3).trans (by decide))
                      subst e_a1
                      have e_a3 : a3 = (-1) := Int32.toInt_inj.mp ((by omega : (a3).toInt = -1).trans (by decide))
                      subst e_a3
                      exact mp_later_10 a2 ⟨by omega, by omega⟩
                    ·
                      rcases Int.lt_or_le (a1).toInt 5 with _hh | _hh
                      ·
                        have e_a1 : a1 = 4 := Int32.toInt_inj.mp ((by omega : (a1).toInt = 4).trans (by decide))
                        subst e_a1
                        have e_a3 : a3 = (-1) := Int32.toInt_inj.mp ((by omega : (a3).toInt = -1).trans (by decide))
                        subst e_a3
                        exact mp_later_11 a2 ⟨by omega, by omega⟩
                      ·
                        have e_a1 : a1 = 5 := Int32.toInt_inj.mp ((by omega : (a1).toInt = 5).trans (by decide))
                        subst e_a1
                        have e_a3 : a3 = (-1) := Int32.toInt_inj.mp ((by omega : (a3).toInt = -1).trans (by decide))
                        subst e_a3
                        exact mp_later_12 a2 ⟨by omega, by omega⟩
            ·
              have e_a3 : a3 = (-1) := Int32.toInt_inj.mp ((by omega : (a3).toInt = -1).trans (by decide))
              subst e_a3
              exact mp_later_13 a1 a2 ⟨by omega, by omega⟩ ⟨by omega, by omega⟩
        ·
          rcases Int.lt_or_le (a1).toInt 0 with _hh | _hh
          ·
            exact mp_later_14 a1 a2 a3 ⟨by omega, by omega⟩ ⟨by omega, by omega⟩ ⟨by omega, by omega⟩
          ·
            rcases Int.lt_or_le (a1).toInt 6 with _hh | _hh
            ·
              exact mp_later_15 a1 a2 a3 ⟨by omega, by omega⟩ ⟨by omega, by omega⟩ ⟨by omega, by omega⟩
            ·
              exact mp_later_16 a1 a2 a3 ⟨by omega, by omega⟩ ⟨by omega, by omega⟩ ⟨by omega, by omega⟩
    ·
      rcases Int.lt_or_le (a1).toInt 0 with _hh | _hh
      ·
        exact mp_later_17 a1 a2 a3 ⟨by omega, by omega⟩ ⟨by omega, by omega⟩
      ·
        rcases Int.lt_or_le (a1).toInt 6 with _hh | _hh
        ·
          exact mp_later_18 a1 a2 a3 ⟨by omega, by omega⟩ ⟨by omega, by omega⟩
        ·
          exact mp_later_19 a1 a2 a3 ⟨by omega, by omega⟩ ⟨by omega, by omega⟩
