set_option maxRecDepth 100000 in
set_option maxHeartbeats 4000000 in
theorem mp_fits_0 (a1 : Int32) (a2 : Int32) (a3 : Int32) (r0 : (-2147483648) ≤ (a1).toInt ∧ (a1).toInt ≤ (-1)) : mi_P 98 197 [.int a1, .int a2, .int a3] := by
  refine ⟨.int (-1), mi_G, mi_G, (mi_h98, mi_c98), (mi_h197, mi_c197), 2, 2, rfl, rfl, rfl, by decide, by decide, ?_, ?_⟩
  · refine mi_met_of (y := 98) (q := (mi_h98, mi_c98)) rfl (by decide) (Nat.le_of_ble_eq_true rfl) ?_
    refine mi_sem_steps mi_in98 (mi_calok_none _ _) 1 _ (1, [(0, .ref 0), (1, .int a1), (2, .int a2), (3, .int a3)], [.int a1], (0, 0), mi_G) (by rfl) ?_
    have hM1100 : mi_Met mi_N0 1 mi_h122 [.int a1] mi_G (some (.int 0)) mi_G := by
      refine mi_met_of (y := 122) (q := (mi_h122, mi_c122)) rfl (by decide) (Nat.le_of_ble_eq_true rfl) ?_
      refine mi_sem_steps mi_in122 (mi_calok_none _ _) 1 _ (1, [(0, .int a1)], [.int a1], (0, 0), mi_G) (by rfl) ?_
      refine mi_sem_b mi_in122 (decide (a1 < 0)) true (mi_ltT (0) (by decide) (by omega)) 28 4 ([(0, .int a1)], [], (0, 0), mi_G) (by rfl) ?_
      refine mi_sem_steps mi_in122 (mi_calok_none _ _) 1 _ (29, [(0, .int a1)], [.int 0], (0, 0), mi_G) (by rfl) ?_
      exact mi_sem_ret (cal := fun _ _ _ => none) mi_in122 (by rfl)
    refine mi_sem_call mi_in98 (i := (.invokestatic 214, 3, 122, 0, 9, 0, 260)) (by rfl) (by rfl) hM1100 (by decide) ⟨Nat.le_of_ble_eq_true rfl, Nat.le_of_ble_eq_true rfl⟩ ?_
    refine mi_sem_steps mi_in98 (mi_calok_none _ _) 2 _ (21, [(0, .ref 0), (1, .int a1), (2, .int a2), (3, .int a3)], [.int (-1)], (0, 0), mi_G) (by rfl) ?_
    exact mi_sem_ret (cal := fun _ _ _ => none) mi_in98 (by rfl)
  · refine mi_met_of (y := 197) (q := (mi_h197, mi_c197)) rfl (by decide) (Nat.le_of_ble_eq_true rfl) ?_
    refine mi_sem_steps mi_in197 (mi_calok_none _ _) 2 _ (2, [(0, .ref 116), (1, .int a1), (2, .int a2), (3, .int a3)], [.int a1, .ref 116], (0, 0), mi_G) (by rfl) ?_
    have hM1101 : mi_Met mi_N0 1 mi_h190 [.ref 116, .int a1] mi_G (some (.int 0)) mi_G := by
      refine mi_met_of (y := 190) (q := (mi_h190, mi_c190)) rfl (by decide) (Nat.le_of_ble_eq_true rfl) ?_
      refine mi_sem_steps mi_in190 (mi_calok_none _ _) 1 _ (1, [(0, .ref 116), (1, .int a1)], [.int a1], (0, 0), mi_G) (by rfl) ?_
      refine mi_sem_b mi_in190 (decide (a1 < 0)) true (mi_ltT (0) (by decide) (by omega)) 28 4 ([(0, .ref 116), (1, .int a1)], [], (0, 0), mi_G) (by rfl) ?_
      refine mi_sem_steps mi_in190 (mi_calok_none _ _) 1 _ (29, [(0, .ref 116), (1, .int a1)], [.int 0], (0, 0), mi_G) (by rfl) ?_
      exact mi_sem_ret (cal := fun _ _ _ => none) mi_in190 (by rfl)
    refine mi_sem_call mi_in197 (i := (.invokevirtual 314, 3, 190, 0, 9, 0, 442)) (by rfl) (by rfl) hM1101 (by decide) ⟨Nat.le_of_ble_eq_true rfl, Nat.le_of_ble_eq_true rfl⟩ ?_
    refine mi_sem_steps mi_in197 (mi_calok_none _ _) 2 _ (43, [(0, .ref 116), (1, .int a1), (2, .int a2), (3, .int a3)], [.int (-1)], (0, 0), mi_G) (by rfl) ?_
    exact mi_sem_ret (cal := fun _ _ _ => none) mi_in197 (by rfl)

set_option maxRecDepth 100000 in
set_option maxHeartbeats 4000000 in
theorem mp_fits_1 (a1 : Int32) (a2 : Int32) (a3 : Int32) (r0 : 0 ≤ (a1).toInt ∧ (a1).toInt ≤ 2147483647) (r1 : (-2147483648) ≤ ((a1 / 10)).toInt ∧ ((a1 / 10)).toInt ≤ (-1)) : mi_P 98 197 [.int a1, .int a2, .int a3] := by
  refine ⟨.int (-1), mi_G, mi_G, (mi_h98, mi_c98), (mi_h197, mi_c197), 4, 4, rfl, rfl, rfl, by decide, by decide, ?_, ?_⟩
  · refine mi_met_of (y := 98) (q := (mi_h98, mi_c98)) rfl (by decide) (Nat.le_of_ble_eq_true rfl) ?_
    refine mi_sem_steps mi_in98 (mi_calok_none _ _) 1 _ (1, [(0, .ref 0), (1, .int a1), (2, .int a2), (3, .int a3)], [.int a1], (0, 0), mi_G) (by rfl) ?_
    have hM1104 : mi_Met mi_N0 3 mi_h122 [.int a1] mi_G (some (.int 0)) mi_G := by
      refine mi_met_of (y := 122) (q := (mi_h122, mi_c122)) rfl (by decide) (Nat.le_of_ble_eq_true rfl) ?_
      refine mi_sem_steps mi_in122 (mi_calok_none _ _) 1 _ (1, [(0, .int a1)], [.int a1], (0, 0), mi_G) (by rfl) ?_
      refine mi_sem_b mi_in122 (decide (a1 < 0)) false (mi_ltF (0) (by decide) (by omega)) 28 4 ([(0, .int a1)], [], (0, 0), mi_G) (by rfl) ?_
      refine mi_sem_steps mi_in122 (mi_calok_none _ _) 3 _ (8, [(0, .int a1)], [.int ((a1 / 10))], (0, 0), mi_G) (by rfl) ?_
      have hM1103 : mi_Met mi_N0 2 mi_h121 [.int ((a1 / 10))] mi_G (some (.int 0)) mi_G := by
        refine mi_met_of (y := 121) (q := (mi_h121, mi_c121)) rfl (by decide) (Nat.le_of_ble_eq_true rfl) ?_
        refine mi_sem_steps mi_in121 (mi_calok_none _ _) 3 _ (3, [(0, .int ((a1 / 10)))], [.int 5, .int 0, .int ((a1 / 10))], (0, 0), mi_G) (by rfl) ?_
        have hM1102 : mi_Met mi_N0 1 mi_h120 [.int ((a1 / 10)), .int 0, .int 5] mi_G (some (.int 0)) mi_G := by
          refine mi_met_of (y := 120) (q := (mi_h120, mi_c120)) rfl (by decide) (Nat.le_of_ble_eq_true rfl) ?_
          refine mi_sem_steps mi_in120 (mi_calok_none _ _) 2 _ (2, [(0, .int ((a1 / 10))), (1, .int 0), (2, .int 5)], [.int 0, .int ((a1 / 10))], (0, 0), mi_G) (by rfl) ?_
          refine mi_sem_b mi_in120 (decide (((a1 / 10)) < 0)) true (mi_ltT (0) (by decide) (by omega)) 14 5 ([(0, .int ((a1 / 10))), (1, .int 0), (2, .int 5)], [], (0, 0), mi_G) (by rfl) ?_
          refine mi_sem_steps mi_in120 (mi_calok_none _ _) 1 _ (15, [(0, .int ((a1 / 10))), (1, .int 0), (2, .int 5)], [.int 0], (0, 0), mi_G) (by rfl) ?_
          exact mi_sem_ret (cal := fun _ _ _ => none) mi_in120 (by rfl)
        refine mi_sem_call mi_in121 (i := (.invokestatic 74, 3, 120, 0, 9, 0, 152)) (by rfl) (by rfl) hM1102 (by decide) ⟨Nat.le_of_ble_eq_true rfl, Nat.le_of_ble_eq_true rfl⟩ ?_
        exact mi_sem_ret (cal := fun _ _ _ => none) mi_in121 (by rfl)
      refine mi_sem_call mi_in122 (i := (.invokestatic 70, 3, 121, 0, 9, 0, 157)) (by rfl) (by rfl) hM1103 (by decide) ⟨Nat.le_of_ble_eq_true rfl, Nat.le_of_ble_eq_true rfl⟩ ?_
      refine mi_sem_steps mi_in122 (mi_calok_none _ _) 2 _ (29, [(0, .int a1)], [.int 0], (0, 0), mi_G) (by rfl) ?_
      exact mi_sem_ret (cal := fun _ _ _ => none) mi_in122 (by rfl)
    refine mi_sem_call mi_in98 (i := (.invokestatic 214, 3, 122, 0, 9, 0, 260)) (by rfl) (by rfl) hM1104 (by decide) ⟨Nat.le_of_ble_eq_true rfl, Nat.le_of_ble_eq_true rfl⟩ ?_
    refine mi_sem_steps mi_in98 (mi_calok_none _ _) 2 _ (21, [(0, .ref 0), (1, .int a1), (2, .int a2), (3, .int a3)], [.int (-1)], (0, 0), mi_G) (by rfl) ?_
    exact mi_sem_ret (cal := fun _ _ _ => none) mi_in98 (by rfl)
  · refine mi_met_of (y := 197) (q := (mi_h197, mi_c197)) rfl (by decide) (Nat.le_of_ble_eq_true rfl) ?_
    refine mi_sem_steps mi_in197 (mi_calok_none _ _) 2 _ (2, [(0, .ref 116), (1, .int a1), (2, .int a2), (3, .int a3)], [.int a1, .ref 116], (0, 0), mi_G) (by rfl) ?_
    have hM1107 : mi_Met mi_N0 3 mi_h190 [.ref 116, .int a1] mi_G (some (.int 0)) mi_G := by
      refine mi_met_of (y := 190) (q := (mi_h190, mi_c190)) rfl (by decide) (Nat.le_of_ble_eq_true rfl) ?_
      refine mi_sem_steps mi_in190 (mi_calok_none _ _) 1 _ (1, [(0, .ref 116), (1, .int a1)], [.int a1], (0, 0), mi_G) (by rfl) ?_
      refine mi_sem_b mi_in190 (decide (a1 < 0)) false (mi_ltF (0) (by decide) (by omega)) 28 4 ([(0, .ref 116), (1, .int a1)], [], (0, 0), mi_G) (by rfl) ?_
      refine mi_sem_steps mi_in190 (mi_calok_none _ _) 3 _ (8, [(0, .ref 116), (1, .int a1)], [.int ((a1 / 10))], (0, 0), mi_G) (by rfl) ?_
      have hM1106 : mi_Met mi_N0 2 mi_h133 [.int ((a1 / 10))] mi_G (some (.int 0)) mi_G := by
        refine mi_met_of (y := 133) (q := (mi_h133, mi_c133)) rfl (by decide) (Nat.le_of_ble_eq_true rfl) ?_
        refine mi_sem_steps mi_in133 (mi_calok_none _ _) 3 _ (3, [(0, .int ((a1 / 10)))], [.int 5, .int 0, .int ((a1 / 10))], (0, 0), mi_G) (by rfl) ?_
        have hM1105 : mi_Met mi_N0 1 mi_h131 [.int ((a1 / 10)), .int 0, .int 5] mi_G (some (.int 0)) mi_G := by
          refine mi_met_of (y := 131) (q := (mi_h131, mi_c131)) rfl (by decide) (Nat.le_of_ble_eq_true rfl) ?_
          refine mi_sem_steps mi_in131 (mi_calok_none _ _) 2 _ (2, [(0, .int ((a1 / 10))), (1, .int 0), (2, .int 5)], [.int 0, .int ((a1 / 10))], (0, 0), mi_G) (by rfl) ?_
          refine mi_sem_b mi_in131 (decide (((a1 / 10)) < 0)) true (mi_ltT (0) (by decide) (by omega)) 14 5 ([(0, .int ((a1 / 10))), (1, .int 0), (2, .int 5)], [], (0, 0), mi_G) (by rfl) ?_
          refine mi_sem_steps mi_in131 (mi_calok_none _ _) 1 _ (15, [(0, .int ((a1 / 10))), (1, .int 0), (2, .int 5)], [.int 0], (0, 0), mi_G) (by rfl) ?_
          exact mi_sem_ret (cal := fun _ _ _ => none) mi_in131 (by rfl)
        refine mi_sem_call mi_in133 (i := (.invokestatic 119, 3, 131, 0, 9, 0, 379)) (by rfl) (by rfl) hM1105 (by decide) ⟨Nat.le_of_ble_eq_true rfl, Nat.le_of_ble_eq_true rfl⟩ ?_
        exact mi_sem_ret (cal := fun _ _ _ => none) mi_in133 (by rfl)
      refine mi_sem_call mi_in190 (i := (.invokestatic 127, 3, 133, 0, 9, 0, 382)) (by rfl) (by rfl) hM1106 (by decide) ⟨Nat.le_of_ble_eq_true rfl, Nat.le_of_ble_eq_true rfl⟩ ?_
      refine mi_sem_steps mi_in190 (mi_calok_none _ _) 2 _ (29, [(0, .ref 116), (1, .int a1)], [.int 0], (0, 0), mi_G) (by rfl) ?_
      exact mi_sem_ret (cal := fun _ _ _ => none) mi_in190 (by rfl)
    refine mi_sem_call mi_in197 (i := (.invokevirtual 314, 3, 190, 0, 9, 0, 442)) (by rfl) (by rfl) hM1107 (by decide) ⟨Nat.le_of_ble_eq_true rfl, Nat.le_of_ble_eq_true rfl⟩ ?_
    refine mi_sem_steps mi_in197 (mi_calok_none _ _) 2 _ (43, [(0, .ref 116), (1, .int a1), (2, .int a2), (3, .int a3)], [.int (-1)], (0, 0), mi_G) (by rfl) ?_
    exact mi_sem_ret (cal := fun _ _ _ => none) mi_in197 (by rfl)

set_option maxRecDepth 100000 in
set_option maxHeartbeats 4000000 in
theorem mp_fits_2 (a1 : Int32) (a2 : Int32) (a3 : Int32) (r0 : 0 ≤ (a1).toInt ∧ (a1).toInt ≤ 2147483647) (r1 : 0 ≤ ((a1 / 10)).toInt ∧ ((a1 / 10)).toInt ≤ 5) (r2 : (-2147483648) ≤ ((a1 - a1 / 10 * 10)).toInt ∧ ((a1 - a1 / 10 * 10)).toInt ≤ (-1)) : mi_P 98 197 [.int a1, .int a2, .int a3] := by
  refine ⟨.int (-1), mi_G, mi_G, (mi_h98, mi_c98), (mi_h197, mi_c197), 4, 4, rfl, rfl, rfl, by decide, by decide, ?_, ?_⟩
  · refine mi_met_of (y := 98) (q := (mi_h98, mi_c98)) rfl (by decide) (Nat.le_of_ble_eq_true rfl) ?_
    refine mi_sem_steps mi_in98 (mi_calok_none _ _) 1 _ (1, [(0, .ref 0), (1, .int a1), (2, .int a2), (3, .int a3)], [.int a1], (0, 0), mi_G) (by rfl) ?_
    have hM1114 : mi_Met mi_N0 3 mi_h122 [.int a1] mi_G (some (.int 0)) mi_G := by
      refine mi_met_of (y := 122) (q := (mi_h122, mi_c122)) rfl (by decide) (Nat.le_of_ble_eq_true rfl) ?_
      refine mi_sem_steps mi_in122 (mi_calok_none _ _) 1 _ (1, [(0, .int a1)], [.int a1], (0, 0), mi_G) (by rfl) ?_
      refine mi_sem_b mi_in122 (decide (a1 < 0)) false (mi_ltF (0) (by decide) (by omega)) 28 4 ([(0, .int a1)], [], (0, 0), mi_G) (by rfl) ?_
      refine mi_sem_steps mi_in122 (mi_calok_none _ _) 3 _ (8, [(0, .int a1)], [.int ((a1 / 10))], (0, 0), mi_G) (by rfl) ?_
      have hM1111 : mi_Met mi_N0 2 mi_h121 [.int ((a1 / 10))] mi_G (some (.int 1)) mi_G := by
        refine mi_met_of (y := 121) (q := (mi_h121, mi_c121)) rfl (by decide) (Nat.le_of_ble_eq_true rfl) ?_
        refine mi_sem_steps mi_in121 (mi_calok_none _ _) 3 _ (3, [(0, .int ((a1 / 10)))], [.int 5, .int 0, .int ((a1 / 10))], (0, 0), mi_G) (by rfl) ?_
        have hM1110 : mi_Met mi_N0 1 mi_h120 [.int ((a1 / 10)), .int 0, .int 5] mi_G (some (.int 1)) mi_G := by
          refine mi_met_of (y := 120) (q := (mi_h120, mi_c120)) rfl (by decide) (Nat.le_of_ble_eq_true rfl) ?_
          refine mi_sem_steps mi_in120 (mi_calok_none _ _) 2 _ (2, [(0, .int ((a1 / 10))), (1, .int 0), (2, .int 5)], [.int 0, .int ((a1 / 10))], (0, 0), mi_G) (by rfl) ?_
          refine mi_sem_b mi_in120 (decide (((a1 / 10)) < 0)) false (mi_ltF (0) (by decide) (by omega)) 14 5 ([(0, .int ((a1 / 10))), (1, .int 0), (2, .int 5)], [], (0, 0), mi_G) (by rfl) ?_
          refine mi_sem_steps mi_in120 (mi_calok_none _ _) 2 _ (7, [(0, .int ((a1 / 10))), (1, .int 0), (2, .int 5)], [.int 5, .int ((a1 / 10))], (0, 0), mi_G) (by rfl) ?_
          refine mi_sem_b mi_in120 (decide (5 < ((a1 / 10)))) false (mi_ltF2 (5) (by decide) (by omega)) 14 10 ([(0, .int ((a1 / 10))), (1, .int 0), (2, .int 5)], [], (0, 0), mi_G) (by rfl) ?_
          refine mi_sem_steps mi_in120 (mi_calok_none _ _) 2 _ (15, [(0, .int ((a1 / 10))), (1, .int 0), (2, .int 5)], [.int 1], (0, 0), mi_G) (by rfl) ?_
          exact mi_sem_ret (cal := fun _ _ _ => none) mi_in120 (by rfl)
        refine mi_sem_call mi_in121 (i := (.invokestatic 74, 3, 120, 0, 9, 0, 152)) (by rfl) (by rfl) hM1110 (by decide) ⟨Nat.le_of_ble_eq_true rfl, Nat.le_of_ble_eq_true rfl⟩ ?_
        exact mi_sem_ret (cal := fun _ _ _ => none) mi_in121 (by rfl)
      refine mi_sem_call mi_in122 (i := (.invokestatic 70, 3, 121, 0, 9, 0, 157)) (by rfl) (by rfl) hM1111 (by decide) ⟨Nat.le_of_ble_eq_true rfl, Nat.le_of_ble_eq_true rfl⟩ ?_
      refine mi_sem_steps mi_in122 (mi_calok_none _ _) 4 _ (18, [(0, .int a1)], [.int ((a1 - a1 / 10 * 10))], (0, 0), mi_G) (by rfl) ?_
      have hM1113 : mi_Met mi_N0 2 mi_h121 [.int ((a1 - a1 / 10 * 10))] mi_G (some (.int 0)) mi_G := by
        refine mi_met_of (y := 121) (q := (mi_h121, mi_c121)) rfl (by decide) (Nat.le_of_ble_eq_true rfl) ?_
        refine mi_sem_steps mi_in121 (mi_calok_none _ _) 3 _ (3, [(0, .int ((a1 - a1 / 10 * 10)))], [.int 5, .int 0, .int ((a1 - a1 / 10 * 10))], (0, 0), mi_G) (by rfl) ?_
        have hM1112 : mi_Met mi_N0 1 mi_h120 [.int ((a1 - a1 / 10 * 10)), .int 0, .int 5] mi_G (some (.int 0)) mi_G := by
          refine mi_met_of (y := 120) (q := (mi_h120, mi_c120)) rfl (by decide) (Nat.le_of_ble_eq_true rfl) ?_
          refine mi_sem_steps mi_in120 (mi_calok_none _ _) 2 _ (2, [(0, .int ((a1 - a1 / 10 * 10))), (1, .int 0), (2, .int 5)], [.int 0, .int ((a1 - a1 / 10 * 10))], (0, 0), mi_G) (by rfl) ?_
          refine mi_sem_b mi_in120 (decide (((a1 - a1 / 10 * 10)) < 0)) true (mi_ltT (0) (by decide) (by omega)) 14 5 ([(0, .int ((a1 - a1 / 10 * 10))), (1, .int 0), (2, .int 5)], [], (0, 0), mi_G) (by rfl) ?_
          refine mi_sem_steps mi_in120 (mi_calok_none _ _) 1 _ (15, [(0, .int ((a1 - a1 / 10 * 10))), (1, .int 0), (2, .int 5)], [.int 0], (0, 0), mi_G) (by rfl) ?_
          exact mi_sem_ret (cal := fun _ _ _ => none) mi_in120 (by rfl)
        refine mi_sem_call mi_in121 (i := (.invokestatic 74, 3, 120, 0, 9, 0, 152)) (by rfl) (by rfl) hM1112 (by decide) ⟨Nat.le_of_ble_eq_true rfl, Nat.le_of_ble_eq_true rfl⟩ ?_
        exact mi_sem_ret (cal := fun _ _ _ => none) mi_in121 (by rfl)
      refine mi_sem_call mi_in122 (i := (.invokestatic 70, 3, 121, 0, 9, 0, 157)) (by rfl) (by rfl) hM1113 (by decide) ⟨Nat.le_of_ble_eq_true rfl, Nat.le_of_ble_eq_true rfl⟩ ?_
      refine mi_sem_steps mi_in122 (mi_calok_none _ _) 2 _ (29, [(0, .int a1)], [.int 0], (0, 0), mi_G) (by rfl) ?_
      exact mi_sem_ret (cal := fun _ _ _ => none) mi_in122 (by rfl)
    refine mi_sem_call mi_in98 (i := (.invokestatic 214, 3, 122, 0, 9, 0, 260)) (by rfl) (by rfl) hM1114 (by decide) ⟨Nat.le_of_ble_eq_true rfl, Nat.le_of_ble_eq_true rfl⟩ ?_
    refine mi_sem_steps mi_in98 (mi_calok_none _ _) 2 _ (21, [(0, .ref 0), (1, .int a1), (2, .int a2), (3, .int a3)], [.int (-1)], (0, 0), mi_G) (by rfl) ?_
    exact mi_sem_ret (cal := fun _ _ _ => none) mi_in98 (by rfl)
  · refine mi_met_of (y := 197) (q := (mi_h197, mi_c197)) rfl (by decide) (Nat.le_of_ble_eq_true rfl) ?_
    refine mi_sem_steps mi_in197 (mi_calok_none _ _) 2 _ (2, [(0, .ref 116), (1, .int a1), (2, .int a2), (3, .int a3)], [.int a1, .ref 116], (0, 0), mi_G) (by rfl) ?_
    have hM1119 : mi_Met mi_N0 3 mi_h190 [.ref 116, .int a1] mi_G (some (.int 0)) mi_G := by
      refine mi_met_of (y := 190) (q := (mi_h190, mi_c190)) rfl (by decide) (Nat.le_of_ble_eq_true rfl) ?_
      refine mi_sem_steps mi_in190 (mi_calok_none _ _) 1 _ (1, [(0, .ref 116), (1, .int a1)], [.int a1], (0, 0), mi_G) (by rfl) ?_
      refine mi_sem_b mi_in190 (decide (a1 < 0)) false (mi_ltF (0) (by decide) (by omega)) 28 4 ([(0, .ref 116), (1, .int a1)], [], (0, 0), mi_G) (by rfl) ?_
      refine mi_sem_steps mi_in190 (mi_calok_none _ _) 3 _ (8, [(0, .ref 116), (1, .int a1)], [.int ((a1 / 10))], (0, 0), mi_G) (by rfl) ?_
      have hM1116 : mi_Met mi_N0 2 mi_h133 [.int ((a1 / 10))] mi_G (some (.int 1)) mi_G := by
        refine mi_met_of (y := 133) (q := (mi_h133, mi_c133)) rfl (by decide) (Nat.le_of_ble_eq_true rfl) ?_
        refine mi_sem_steps mi_in133 (mi_calok_none _ _) 3 _ (3, [(0, .int ((a1 / 10)))], [.int 5, .int 0, .int ((a1 / 10))], (0, 0), mi_G) (by rfl) ?_
        have hM1115 : mi_Met mi_N0 1 mi_h131 [.int ((a1 / 10)), .int 0, .int 5] mi_G (some (.int 1)) mi_G := by
          refine mi_met_of (y := 131) (q := (mi_h131, mi_c131)) rfl (by decide) (Nat.le_of_ble_eq_true rfl) ?_
          refine mi_sem_steps mi_in131 (mi_calok_none _ _) 2 _ (2, [(0, .int ((a1 / 10))), (1, .int 0), (2, .int 5)], [.int 0, .int ((a1 / 10))], (0, 0), mi_G) (by rfl) ?_
          refine mi_sem_b mi_in131 (decide (((a1 / 10)) < 0)) false (mi_ltF (0) (by decide) (by omega)) 14 5 ([(0, .int ((a1 / 10))), (1, .int 0), (2, .int 5)], [], (0, 0), mi_G) (by rfl) ?_
          refine mi_sem_steps mi_in131 (mi_calok_none _ _) 2 _ (7, [(0, .int ((a1 / 10))), (1, .int 0), (2, .int 5)], [.int 5, .int ((a1 / 10))], (0, 0), mi_G) (by rfl) ?_
          refine mi_sem_b mi_in131 (decide (5 < ((a1 / 10)))) false (mi_ltF2 (5) (by decide) (by omega)) 14 10 ([(0, .int ((a1 / 10))), (1, .int 0), (2, .int 5)], [], (0, 0), mi_G) (by rfl) ?_
          refine mi_sem_steps mi_in131 (mi_calok_none _ _) 2 _ (15, [(0, .int ((a1 / 10))), (1, .int 0), (2, .int 5)], [.int 1], (0, 0), mi_G) (by rfl) ?_
          exact mi_sem_ret (cal := fun _ _ _ => none) mi_in131 (by rfl)
        refine mi_sem_call mi_in133 (i := (.invokestatic 119, 3, 131, 0, 9, 0, 379)) (by rfl) (by rfl) hM1115 (by decide) ⟨Nat.le_of_ble_eq_true rfl, Nat.le_of_ble_eq_true rfl⟩ ?_
        exact mi_sem_ret (cal := fun _ _ _ => none) mi_in133 (by rfl)
      refine mi_sem_call mi_in190 (i := (.invokestatic 127, 3, 133, 0, 9, 0, 382)) (by rfl) (by rfl) hM1116 (by decide) ⟨Nat.le_of_ble_eq_true rfl, Nat.le_of_ble_eq_true rfl⟩ ?_
      refine mi_sem_steps mi_in190 (mi_calok_none _ _) 4 _ (18, [(0, .ref 116), (1, .int a1)], [.int ((a1 - a1 / 10 * 10))], (0, 0), mi_G) (by rfl) ?_
      have hM1118 : mi_Met mi_N0 2 mi_h133 [.int ((a1 - a1 / 10 * 10))] mi_G (some (.int 0)) mi_G := by
        refine mi_met_of (y := 133) (q := (mi_h133, mi_c133)) rfl (by decide) (Nat.le_of_ble_eq_true rfl) ?_
        refine mi_sem_steps mi_in133 (mi_calok_none _ _) 3 _ (3, [(0, .int ((a1 - a1 / 10 * 10)))], [.int 5, .int 0, .int ((a1 - a1 / 10 * 10))], (0, 0), mi_G) (by rfl) ?_
        have hM1117 : mi_Met mi_N0 1 mi_h131 [.int ((a1 - a1 / 10 * 10)), .int 0, .int 5] mi_G (some (.int 0)) mi_G := by
          refine mi_met_of (y := 131) (q := (mi_h131, mi_c131)) rfl (by decide) (Nat.le_of_ble_eq_true rfl) ?_
          refine mi_sem_steps mi_in131 (mi_calok_none _ _) 2 _ (2, [(0, .int ((a1 - a1 / 10 * 10))), (1, .int 0), (2, .int 5)], [.int 0, .int ((a1 - a1 / 10 * 10))], (0, 0), mi_G) (by rfl) ?_
          refine mi_sem_b mi_in131 (decide (((a1 - a1 / 10 * 10)) < 0)) true (mi_ltT (0) (by decide) (by omega)) 14 5 ([(0, .int ((a1 - a1 / 10 * 10))), (1, .int 0), (2, .int 5)], [], (0, 0), mi_G) (by rfl) ?_
          refine mi_sem_steps mi_in131 (mi_calok_none _ _) 1 _ (15, [(0, .int ((a1 - a1 / 10 * 10))), (1, .int 0), (2, .int 5)], [.int 0], (0, 0), mi_G) (by rfl) ?_
          exact mi_sem_ret (cal := fun _ _ _ => none) mi_in131 (by rfl)
        refine mi_sem_call mi_in133 (i := (.invokestatic 119, 3, 131, 0, 9, 0, 379)) (by rfl) (by rfl) hM1117 (by decide) ⟨Nat.le_of_ble_eq_true rfl, Nat.le_of_ble_eq_true rfl⟩ ?_
        exact mi_sem_ret (cal := fun _ _ _ => none) mi_in133 (by rfl)
      refine mi_sem_call mi_in190 (i := (.invokestatic 127, 3, 133, 0, 9, 0, 382)) (by rfl) (by rfl) hM1118 (by decide) ⟨Nat.le_of_ble_eq_true rfl, Nat.le_of_ble_eq_true rfl⟩ ?_
      refine mi_sem_steps mi_in190 (mi_calok_none _ _) 2 _ (29, [(0, .ref 116), (1, .int a1)], [.int 0], (0, 0), mi_G) (by rfl) ?_
      exact mi_sem_ret (cal := fun _ _ _ => none) mi_in190 (by rfl)
    refine mi_sem_call mi_in197 (i := (.invokevirtual 314, 3, 190, 0, 9, 0, 442)) (by rfl) (by rfl) hM1119 (by decide) ⟨Nat.le_of_ble_eq_true rfl, Nat.le_of_ble_eq_true rfl⟩ ?_
    refine mi_sem_steps mi_in197 (mi_calok_none _ _) 2 _ (43, [(0, .ref 116), (1, .int a1), (2, .int a2), (3, .int a3)], [.int (-1)], (0, 0), mi_G) (by rfl) ?_
    exact mi_sem_ret (cal := fun _ _ _ => none) mi_in197 (by rfl)

set_option maxRecDepth 100000 in
set_option maxHeartbeats 4000000 in
theorem mp_fits_3 (a1 : Int32) (a2 : Int32) (a3 : Int32) (r0 : 0 ≤ (a1).toInt ∧ (a1).toInt ≤ 2147483647) (r1 : 0 ≤ ((a1 / 10)).toInt ∧ ((a1 / 10)).toInt ≤ 5) (r2 : 0 ≤ ((a1 - a1 / 10 * 10)).toInt ∧ ((a1 - a1 / 10 * 10)).toInt ≤ 5) (r3 : (-2147483648) ≤ (a3).toInt ∧ (a3).toInt ≤ (-1)) : mi_P 98 197 [.int a1, .int a2, .int a3] := by
  refine ⟨.int (-1), mi_G, mi_G, (mi_h98, mi_c98), (mi_h197, mi_c197), 4, 4, rfl, rfl, rfl, by decide, by decide, ?_, ?_⟩
  · refine mi_met_of (y := 98) (q := (mi_h98, mi_c98)) rfl (by decide) (Nat.le_of_ble_eq_true rfl) ?_
    refine mi_sem_steps mi_in98 (mi_calok_none _ _) 1 _ (1, [(0, .ref 0), (1, .int a1), (2, .int a2), (3, .int a3)], [.int a1], (0, 0), mi_G) (by rfl) ?_
    have hM1131 : mi_Met mi_N0 3 mi_h122 [.int a1] mi_G (some (.int 1)) mi_G := by
      refine mi_met_of (y := 122) (q := (mi_h122, mi_c122)) rfl (by decide) (Nat.le_of_ble_eq_true rfl) ?_
      refine mi_sem_steps mi_in122 (mi_calok_none _ _) 1 _ (1, [(0, .int a1)], [.int a1], (0, 0), mi_G) (by rfl) ?_
      refine mi_sem_b mi_in122 (decide (a1 < 0)) false (mi_ltF (0) (by decide) (by omega)) 28 4 ([(0, .int a1)], [], (0, 0), mi_G) (by rfl) ?_
      refine mi_sem_steps mi_in122 (mi_calok_none _ _) 3 _ (8, [(0, .int a1)], [.int ((a1 / 10))], (0, 0), mi_G) (by rfl) ?_
      have hM1128 : mi_Met mi_N0 2 mi_h121 [.int ((a1 / 10))] mi_G (some (.int 1)) mi_G := by
        refine mi_met_of (y := 121) (q := (mi_h121, mi_c121)) rfl (by decide) (Nat.le_of_ble_eq_true rfl) ?_
        refine mi_sem_steps mi_in121 (mi_calok_none _ _) 3 _ (3, [(0, .int ((a1 / 10)))], [.int 5, .int 0, .int ((a1 / 10))], (0, 0), mi_G) (by rfl) ?_
        have hM1127 : mi_Met mi_N0 1 mi_h120 [.int ((a1 / 10)), .int 0, .int 5] mi_G (some (.int 1)) mi_G := by
          refine mi_met_of (y := 120) (q := (mi_h120, mi_c120)) rfl (by decide) (Nat.le_of_ble_eq_true rfl) ?_
          refine mi_sem_steps mi_in120 (mi_calok_none _ _) 2 _ (2, [(0, .int ((a1 / 10))), (1, .int 0), (2, .int 5)], [.int 0, .int ((a1 / 10))], (0, 0), mi_G) (by rfl) ?_
          refine mi_sem_b mi_in120 (decide (((a1 / 10)) < 0)) false (mi_ltF (0) (by decide) (by omega)) 14 5 ([(0, .int ((a1 / 10))), (1, .int 0), (2, .int 5)], [], (0, 0), mi_G) (by rfl) ?_
          refine mi_sem_steps mi_in120 (mi_calok_none _ _) 2 _ (7, [(0, .int ((a1 / 10))), (1, .int 0), (2, .int 5)], [.int 5, .int ((a1 / 10))], (0, 0), mi_G) (by rfl) ?_
          refine mi_sem_b mi_in120 (decide (5 < ((a1 / 10)))) false (mi_ltF2 (5) (by decide) (by omega)) 14 10 ([(0, .int ((a1 / 10))), (1, .int 0), (2, .int 5)], [], (0, 0), mi_G) (by rfl) ?_
          refine mi_sem_steps mi_in120 (mi_calok_none _ _) 2 _ (15, [(0, .int ((a1 / 10))), (1, .int 0), (2, .int 5)], [.int 1], (0, 0), mi_G) (by rfl) ?_
          exact mi_sem_ret (cal := fun _ _ _ => none) mi_in120 (by rfl)
        refine mi_sem_call mi_in121 (i := (.invokestatic 74, 3, 120, 0, 9, 0, 152)) (by rfl) (by rfl) hM1127 (by decide) ⟨Nat.le_of_ble_eq_true rfl, Nat.le_of_ble_eq_true rfl⟩ ?_
        exact mi_sem_ret (cal := fun _ _ _ => none) mi_in121 (by rfl)
      refine mi_sem_call mi_in122 (i := (.invokestatic 70, 3, 121, 0, 9, 0, 157)) (by rfl) (by rfl) hM1128 (by decide) ⟨Nat.le_of_ble_eq_true rfl, Nat.le_of_ble_eq_true rfl⟩ ?_
      refine mi_sem_steps mi_in122 (mi_calok_none _ _) 4 _ (18, [(0, .int a1)], [.int ((a1 - a1 / 10 * 10))], (0, 0), mi_G) (by rfl) ?_
      have hM1130 : mi_Met mi_N0 2 mi_h121 [.int ((a1 - a1 / 10 * 10))] mi_G (some (.int 1)) mi_G := by
        refine mi_met_of (y := 121) (q := (mi_h121, mi_c121)) rfl (by decide) (Nat.le_of_ble_eq_true rfl) ?_
        refine mi_sem_steps mi_in121 (mi_calok_none _ _) 3 _ (3, [(0, .int ((a1 - a1 / 10 * 10)))], [.int 5, .int 0, .int ((a1 - a1 / 10 * 10))], (0, 0), mi_G) (by rfl) ?_
        have hM1129 : mi_Met mi_N0 1 mi_h120 [.int ((a1 - a1 / 10 * 10)), .int 0, .int 5] mi_G (some (.int 1)) mi_G := by
          refine mi_met_of (y := 120) (q := (mi_h120, mi_c120)) rfl (by decide) (Nat.le_of_ble_eq_true rfl) ?_
          refine mi_sem_steps mi_in120 (mi_calok_none _ _) 2 _ (2, [(0, .int ((a1 - a1 / 10 * 10))), (1, .int 0), (2, .int 5)], [.int 0, .int ((a1 - a1 / 10 * 10))], (0, 0), mi_G) (by rfl) ?_
          refine mi_sem_b mi_in120 (decide (((a1 - a1 / 10 * 10)) < 0)) false (mi_ltF (0) (by decide) (by omega)) 14 5 ([(0, .int ((a1 - a1 / 10 * 10))), (1, .int 0), (2, .int 5)], [], (0, 0), mi_G) (by rfl) ?_
          refine mi_sem_steps mi_in120 (mi_calok_none _ _) 2 _ (7, [(0, .int ((a1 - a1 / 10 * 10))), (1, .int 0), (2, .int 5)], [.int 5, .int ((a1 - a1 / 10 * 10))], (0, 0), mi_G) (by rfl) ?_
          refine mi_sem_b mi_in120 (decide (5 < ((a1 - a1 / 10 * 10)))) false (mi_ltF2 (5) (by decide) (by omega)) 14 10 ([(0, .int ((a1 - a1 / 10 * 10))), (1, .int 0), (2, .int 5)], [], (0, 0), mi_G) (by rfl) ?_
          refine mi_sem_steps mi_in120 (mi_calok_none _ _) 2 _ (15, [(0, .int ((a1 - a1 / 10 * 10))), (1, .int 0), (2, .int 5)], [.int 1], (0, 0), mi_G) (by rfl) ?_
          exact mi_sem_ret (cal := fun _ _ _ => none) mi_in120 (by rfl)
        refine mi_sem_call mi_in121 (i := (.invokestatic 74, 3, 120, 0, 9, 0, 152)) (by rfl) (by rfl) hM1129 (by decide) ⟨Nat.le_of_ble_eq_true rfl, Nat.le_of_ble_eq_true rfl⟩ ?_
        exact mi_sem_ret (cal := fun _ _ _ => none) mi_in121 (by rfl)
      refine mi_sem_call mi_in122 (i := (.invokestatic 70, 3, 121, 0, 9, 0, 157)) (by rfl) (by rfl) hM1130 (by decide) ⟨Nat.le_of_ble_eq_true rfl, Nat.le_of_ble_eq_true rfl⟩ ?_
      refine mi_sem_steps mi_in122 (mi_calok_none _ _) 3 _ (29, [(0, .int a1)], [.int 1], (0, 0), mi_G) (by rfl) ?_
      exact mi_sem_ret (cal := fun _ _ _ => none) mi_in122 (by rfl)
    refine mi_sem_call mi_in98 (i := (.invokestatic 214, 3, 122, 0, 9, 0, 260)) (by rfl) (by rfl) hM1131 (by decide) ⟨Nat.le_of_ble_eq_true rfl, Nat.le_of_ble_eq_true rfl⟩ ?_
    refine mi_sem_steps mi_in98 (mi_calok_none _ _) 4 _ (10, [(0, .ref 0), (1, .int a1), (2, .int a2), (3, .int a3)], [.int 3, .int 0, .int a3], (0, 0), mi_G) (by rfl) ?_
    have hM1132 : mi_Met mi_N0 1 mi_h120 [.int a3, .int 0, .int 3] mi_G (some (.int 0)) mi_G := by
      refine mi_met_of (y := 120) (q := (mi_h120, mi_c120)) rfl (by decide) (Nat.le_of_ble_eq_true rfl) ?_
      refine mi_sem_steps mi_in120 (mi_calok_none _ _) 2 _ (2, [(0, .int a3), (1, .int 0), (2, .int 3)], [.int 0, .int a3], (0, 0), mi_G) (by rfl) ?_
      refine mi_sem_b mi_in120 (decide (a3 < 0)) true (mi_ltT (0) (by decide) (by omega)) 14 5 ([(0, .int a3), (1, .int 0), (2, .int 3)], [], (0, 0), mi_G) (by rfl) ?_
      refine mi_sem_steps mi_in120 (mi_calok_none _ _) 1 _ (15, [(0, .int a3), (1, .int 0), (2, .int 3)], [.int 0], (0, 0), mi_G) (by rfl) ?_
      exact mi_sem_ret (cal := fun _ _ _ => none) mi_in120 (by rfl)
    refine mi_sem_call mi_in98 (i := (.invokestatic 74, 3, 120, 0, 9, 0, 152)) (by rfl) (by rfl) hM1132 (by decide) ⟨Nat.le_of_ble_eq_true rfl, Nat.le_of_ble_eq_true rfl⟩ ?_
    refine mi_sem_steps mi_in98 (mi_calok_none _ _) 2 _ (21, [(0, .ref 0), (1, .int a1), (2, .int a2), (3, .int a3)], [.int (-1)], (0, 0), mi_G) (by rfl) ?_
    exact mi_sem_ret (cal := fun _ _ _ => none) mi_in98 (by rfl)
  · refine mi_met_of (y := 197) (q := (mi_h197, mi_c197)) rfl (by decide) (Nat.le_of_ble_eq_true rfl) ?_
    refine mi_sem_steps mi_in197 (mi_calok_none _ _) 2 _ (2, [(0, .ref 116), (1, .int a1), (2, .int a2), (3, .int a3)], [.int a1, .ref 116], (0, 0), mi_G) (by rfl) ?_
    have hM1137 : mi_Met mi_N0 3 mi_h190 [.ref 116, .int a1] mi_G (some (.int 1)) mi_G := by
      refine mi_met_of (y := 190) (q := (mi_h190, mi_c190)) rfl (by decide) (Nat.le_of_ble_eq_true rfl) ?_
      refine mi_sem_steps mi_in190 (mi_calok_none _ _) 1 _ (1, [(0, .ref 116), (1, .int a1)], [.int a1], (0, 0), mi_G) (by rfl) ?_
      refine mi_sem_b mi_in190 (decide (a1 < 0)) false (mi_ltF (0) (by decide) (by omega)) 28 4 ([(0, .ref 116), (1, .int a1)], [], (0, 0), mi_G) (by rfl) ?_
      refine mi_sem_steps mi_in190 (mi_calok_none _ _) 3 _ (8, [(0, .ref 116), (1, .int a1)], [.int ((a1 / 10))], (0, 0), mi_G) (by rfl) ?_
      have hM1134 : mi_Met mi_N0 2 mi_h133 [.int ((a1 / 10))] mi_G (some (.int 1)) mi_G := by
        refine mi_met_of (y := 133) (q := (mi_h133, mi_c133)) rfl (by decide) (Nat.le_of_ble_eq_true rfl) ?_
        refine mi_sem_steps mi_in133 (mi_calok_none _ _) 3 _ (3, [(0, .int ((a1 / 10)))], [.int 5, .int 0, .int ((a1 / 10))], (0, 0), mi_G) (by rfl) ?_
        have hM1133 : mi_Met mi_N0 1 mi_h131 [.int ((a1 / 10)), .int 0, .int 5] mi_G (some (.int 1)) mi_G := by
          refine mi_met_of (y := 131) (q := (mi_h131, mi_c131)) rfl (by decide) (Nat.le_of_ble_eq_true rfl) ?_
          refine mi_sem_steps mi_in131 (mi_calok_none _ _) 2 _ (2, [(0, .int ((a1 / 10))), (1, .int 0), (2, .int 5)], [.int 0, .int ((a1 / 10))], (0, 0), mi_G) (by rfl) ?_
          refine mi_sem_b mi_in131 (decide (((a1 / 10)) < 0)) false (mi_ltF (0) (by decide) (by omega)) 14 5 ([(0, .int ((a1 / 10))), (1, .int 0), (2, .int 5)], [], (0, 0), mi_G) (by rfl) ?_
          refine mi_sem_steps mi_in131 (mi_calok_none _ _) 2 _ (7, [(0, .int ((a1 / 10))), (1, .int 0), (2, .int 5)], [.int 5, .int ((a1 / 10))], (0, 0), mi_G) (by rfl) ?_
          refine mi_sem_b mi_in131 (decide (5 < ((a1 / 10)))) false (mi_ltF2 (5) (by decide) (by omega)) 14 10 ([(0, .int ((a1 / 10))), (1, .int 0), (2, .int 5)], [], (0, 0), mi_G) (by rfl) ?_
          refine mi_sem_steps mi_in131 (mi_calok_none _ _) 2 _ (15, [(0, .int ((a1 / 10))), (1, .int 0), (2, .int 5)], [.int 1], (0, 0), mi_G) (by rfl) ?_
          exact mi_sem_ret (cal := fun _ _ _ => none) mi_in131 (by rfl)
        refine mi_sem_call mi_in133 (i := (.invokestatic 119, 3, 131, 0, 9, 0, 379)) (by rfl) (by rfl) hM1133 (by decide) ⟨Nat.le_of_ble_eq_true rfl, Nat.le_of_ble_eq_true rfl⟩ ?_
        exact mi_sem_ret (cal := fun _ _ _ => none) mi_in133 (by rfl)
      refine mi_sem_call mi_in190 (i := (.invokestatic 127, 3, 133, 0, 9, 0, 382)) (by rfl) (by rfl) hM1134 (by decide) ⟨Nat.le_of_ble_eq_true rfl, Nat.le_of_ble_eq_true rfl⟩ ?_
      refine mi_sem_steps mi_in190 (mi_calok_none _ _) 4 _ (18, [(0, .ref 116), (1, .int a1)], [.int ((a1 - a1 / 10 * 10))], (0, 0), mi_G) (by rfl) ?_
      have hM1136 : mi_Met mi_N0 2 mi_h133 [.int ((a1 - a1 / 10 * 10))] mi_G (some (.int 1)) mi_G := by
        refine mi_met_of (y := 133) (q := (mi_h133, mi_c133)) rfl (by decide) (Nat.le_of_ble_eq_true rfl) ?_
        refine mi_sem_steps mi_in133 (mi_calok_none _ _) 3 _ (3, [(0, .int ((a1 - a1 / 10 * 10)))], [.int 5, .int 0, .int ((a1 - a1 / 10 * 10))], (0, 0), mi_G) (by rfl) ?_
        have hM1135 : mi_Met mi_N0 1 mi_h131 [.int ((a1 - a1 / 10 * 10)), .int 0, .int 5] mi_G (some (.int 1)) mi_G := by
          refine mi_met_of (y := 131) (q := (mi_h131, mi_c131)) rfl (by decide) (Nat.le_of_ble_eq_true rfl) ?_
          refine mi_sem_steps mi_in131 (mi_calok_none _ _) 2 _ (2, [(0, .int ((a1 - a1 / 10 * 10))), (1, .int 0), (2, .int 5)], [.int 0, .int ((a1 - a1 / 10 * 10))], (0, 0), mi_G) (by rfl) ?_
          refine mi_sem_b mi_in131 (decide (((a1 - a1 / 10 * 10)) < 0)) false (mi_ltF (0) (by decide) (by omega)) 14 5 ([(0, .int ((a1 - a1 / 10 * 10))), (1, .int 0), (2, .int 5)], [], (0, 0), mi_G) (by rfl) ?_
          refine mi_sem_steps mi_in131 (mi_calok_none _ _) 2 _ (7, [(0, .int ((a1 - a1 / 10 * 10))), (1, .int 0), (2, .int 5)], [.int 5, .int ((a1 - a1 / 10 * 10))], (0, 0), mi_G) (by rfl) ?_
          refine mi_sem_b mi_in131 (decide (5 < ((a1 - a1 / 10 * 10)))) false (mi_ltF2 (5) (by decide) (by omega)) 14 10 ([(0, .int ((a1 - a1 / 10 * 10))), (1, .int 0), (2, .int 5)], [], (0, 0), mi_G) (by rfl) ?_
          refine mi_sem_steps mi_in131 (mi_calok_none _ _) 2 _ (15, [(0, .int ((a1 - a1 / 10 * 10))), (1, .int 0), (2, .int 5)], [.int 1], (0, 0), mi_G) (by rfl) ?_
          exact mi_sem_ret (cal := fun _ _ _ => none) mi_in131 (by rfl)
        refine mi_sem_call mi_in133 (i := (.invokestatic 119, 3, 131, 0, 9, 0, 379)) (by rfl) (by rfl) hM1135 (by decide) ⟨Nat.le_of_ble_eq_true rfl, Nat.le_of_ble_eq_true rfl⟩ ?_
        exact mi_sem_ret (cal := fun _ _ _ => none) mi_in133 (by rfl)
      refine mi_sem_call mi_in190 (i := (.invokestatic 127, 3, 133, 0, 9, 0, 382)) (by rfl) (by rfl) hM1136 (by decide) ⟨Nat.le_of_ble_eq_true rfl, Nat.le_of_ble_eq_true rfl⟩ ?_
      refine mi_sem_steps mi_in190 (mi_calok_none _ _) 3 _ (29, [(0, .ref 116), (1, .int a1)], [.int 1], (0, 0), mi_G) (by rfl) ?_
      exact mi_sem_ret (cal := fun _ _ _ => none) mi_in190 (by rfl)
    refine mi_sem_call mi_in197 (i := (.invokevirtual 314, 3, 190, 0, 9, 0, 442)) (by rfl) (by rfl) hM1137 (by decide) ⟨Nat.le_of_ble_eq_true rfl, Nat.le_of_ble_eq_true rfl⟩ ?_
    refine mi_sem_steps mi_in197 (mi_calok_none _ _) 4 _ (11, [(0, .ref 116), (1, .int a1), (2, .int a2), (3, .int a3)], [.int 3, .int 0, .int a3], (0, 0), mi_G) (by rfl) ?_
    have hM1138 : mi_Met mi_N0 1 mi_h131 [.int a3, .int 0, .int 3] mi_G (some (.int 0)) mi_G := by
      refine mi_met_of (y := 131) (q := (mi_h131, mi_c131)) rfl (by decide) (Nat.le_of_ble_eq_true rfl) ?_
      refine mi_sem_steps mi_in131 (mi_calok_none _ _) 2 _ (2, [(0, .int a3), (1, .int 0), (2, .int 3)], [.int 0, .int a3], (0, 0), mi_G) (by rfl) ?_
      refine mi_sem_b mi_in131 (decide (a3 < 0)) true (mi_ltT (0) (by decide) (by omega)) 14 5 ([(0, .int a3), (1, .int 0), (2, .int 3)], [], (0, 0), mi_G) (by rfl) ?_
      refine mi_sem_steps mi_in131 (mi_calok_none _ _) 1 _ (15, [(0, .int a3), (1, .int 0), (2, .int 3)], [.int 0], (0, 0), mi_G) (by rfl) ?_
      exact mi_sem_ret (cal := fun _ _ _ => none) mi_in131 (by rfl)
    refine mi_sem_call mi_in197 (i := (.invokestatic 119, 3, 131, 0, 9, 0, 379)) (by rfl) (by rfl) hM1138 (by decide) ⟨Nat.le_of_ble_eq_true rfl, Nat.le_of_ble_eq_true rfl⟩ ?_
    refine mi_sem_steps mi_in197 (mi_calok_none _ _) 2 _ (43, [(0, .ref 116), (1, .int a1), (2, .int a2), (3, .int a3)], [.int (-1)], (0, 0), mi_G) (by rfl) ?_
    exact mi_sem_ret (cal := fun _ _ _ => none) mi_in197 (by rfl)

set_option maxRecDepth 100000 in
set_option maxHeartbeats 4000000 in
theorem mp_fits_4 (a1 : Int32) (a2 : Int32) (a3 : Int32) (r0 : 0 ≤ (a1).toInt ∧ (a1).toInt ≤ 2147483647) (r1 : 0 ≤ ((a1 / 10)).toInt ∧ ((a1 / 10)).toInt ≤ 5) (r2 : 0 ≤ ((a1 - a1 / 10 * 10)).toInt ∧ ((a1 - a1 / 10 * 10)).toInt ≤ 5) (r3 : 0 ≤ (a3).toInt ∧ (a3).toInt ≤ 3) (r4 : (-2147483648) ≤ (a2).toInt ∧ (a2).toInt ≤ (-1)) : mi_P 98 197 [.int a1, .int a2, .int a3] := by
  refine ⟨.int (-1), mi_G, mi_G, (mi_h98, mi_c98), (mi_h197, mi_c197), 4, 4, rfl, rfl, rfl, by decide, by decide, ?_, ?_⟩
  · refine mi_met_of (y := 98) (q := (mi_h98, mi_c98)) rfl (by decide) (Nat.le_of_ble_eq_true rfl) ?_
    refine mi_sem_steps mi_in98 (mi_calok_none _ _) 1 _ (1, [(0, .ref 0), (1, .int a1), (2, .int a2), (3, .int a3)], [.int a1], (0, 0), mi_G) (by rfl) ?_
    have hM1154 : mi_Met mi_N0 3 mi_h122 [.int a1] mi_G (some (.int 1)) mi_G := by
      refine mi_met_of (y := 122) (q := (mi_h122, mi_c122)) rfl (by decide) (Nat.le_of_ble_eq_true rfl) ?_
      refine mi_sem_steps mi_in122 (mi_calok_none _ _) 1 _ (1, [(0, .int a1)], [.int a1], (0, 0), mi_G) (by rfl) ?_
      refine mi_sem_b mi_in122 (decide (a1 < 0)) false (mi_ltF (0) (by decide) (by omega)) 28 4 ([(0, .int a1)], [], (0, 0), mi_G) (by rfl) ?_
      refine mi_sem_steps mi_in122 (mi_calok_none _ _) 3 _ (8, [(0, .int a1)], [.int ((a1 / 10))], (0, 0), mi_G) (by rfl) ?_
      have hM1151 : mi_Met mi_N0 2 mi_h121 [.int ((a1 / 10))] mi_G (some (.int 1)) mi_G := by
        refine mi_met_of (y := 121) (q := (mi_h121, mi_c121)) rfl (by decide) (Nat.le_of_ble_eq_true rfl) ?_
        refine mi_sem_steps mi_in121 (mi_calok_none _ _) 3 _ (3, [(0, .int ((a1 / 10)))], [.int 5, .int 0, .int ((a1 / 10))], (0, 0), mi_G) (by rfl) ?_
        have hM1150 : mi_Met mi_N0 1 mi_h120 [.int ((a1 / 10)), .int 0, .int 5] mi_G (some (.int 1)) mi_G := by
          refine mi_met_of (y := 120) (q := (mi_h120, mi_c120)) rfl (by decide) (Nat.le_of_ble_eq_true rfl) ?_
          refine mi_sem_steps mi_in120 (mi_calok_none _ _) 2 _ (2, [(0, .int ((a1 / 10))), (1, .int 0), (2, .int 5)], [.int 0, .int ((a1 / 10))], (0, 0), mi_G) (by rfl) ?_
          refine mi_sem_b mi_in120 (decide (((a1 / 10)) < 0)) false (mi_ltF (0) (by decide) (by omega)) 14 5 ([(0, .int ((a1 / 10))), (1, .int 0), (2, .int 5)], [], (0, 0), mi_G) (by rfl) ?_
          refine mi_sem_steps mi_in120 (mi_calok_none _ _) 2 _ (7, [(0, .int ((a1 / 10))), (1, .int 0), (2, .int 5)], [.int 5, .int ((a1 / 10))], (0, 0), mi_G) (by rfl) ?_
          refine mi_sem_b mi_in120 (decide (5 < ((a1 / 10)))) false (mi_ltF2 (5) (by decide) (by omega)) 14 10 ([(0, .int ((a1 / 10))), (1, .int 0), (2, .int 5)], [], (0, 0), mi_G) (by rfl) ?_
          refine mi_sem_steps mi_in120 (mi_calok_none _ _) 2 _ (15, [(0, .int ((a1 / 10))), (1, .int 0), (2, .int 5)], [.int 1], (0, 0), mi_G) (by rfl) ?_
          exact mi_sem_ret (cal := fun _ _ _ => none) mi_in120 (by rfl)
        refine mi_sem_call mi_in121 (i := (.invokestatic 74, 3, 120, 0, 9, 0, 152)) (by rfl) (by rfl) hM1150 (by decide) ⟨Nat.le_of_ble_eq_true rfl, Nat.le_of_ble_eq_true rfl⟩ ?_
        exact mi_sem_ret (cal := fun _ _ _ => none) mi_in121 (by rfl)
      refine mi_sem_call mi_in122 (i := (.invokestatic 70, 3, 121, 0, 9, 0, 157)) (by rfl) (by rfl) hM1151 (by decide) ⟨Nat.le_of_ble_eq_true rfl, Nat.le_of_ble_eq_true rfl⟩ ?_
      refine mi_sem_steps mi_in122 (mi_calok_none _ _) 4 _ (18, [(0, .int a1)], [.int ((a1 - a1 / 10 * 10))], (0, 0), mi_G) (by rfl) ?_
      have hM1153 : mi_Met mi_N0 2 mi_h121 [.int ((a1 - a1 / 10 * 10))] mi_G (some (.int 1)) mi_G := by
        refine mi_met_of (y := 121) (q := (mi_h121, mi_c121)) rfl (by decide) (Nat.le_of_ble_eq_true rfl) ?_
        refine mi_sem_steps mi_in121 (mi_calok_none _ _) 3 _ (3, [(0, .int ((a1 - a1 / 10 * 10)))], [.int 5, .int 0, .int ((a1 - a1 / 10 * 10))], (0, 0), mi_G) (by rfl) ?_
        have hM1152 : mi_Met mi_N0 1 mi_h120 [.int ((a1 - a1 / 10 * 10)), .int 0, .int 5] mi_G (some (.int 1)) mi_G := by
          refine mi_met_of (y := 120) (q := (mi_h120, mi_c120)) rfl (by decide) (Nat.le_of_ble_eq_true rfl) ?_
          refine mi_sem_steps mi_in120 (mi_calok_none _ _) 2 _ (2, [(0, .int ((a1 - a1 / 10 * 10))), (1, .int 0), (2, .int 5)], [.int 0, .int ((a1 - a1 / 10 * 10))], (0, 0), mi_G) (by rfl) ?_
          refine mi_sem_b mi_in120 (decide (((a1 - a1 / 10 * 10)) < 0)) false (mi_ltF (0) (by decide) (by omega)) 14 5 ([(0, .int ((a1 - a1 / 10 * 10))), (1, .int 0), (2, .int 5)], [], (0, 0), mi_G) (by rfl) ?_
          refine mi_sem_steps mi_in120 (mi_calok_none _ _) 2 _ (7, [(0, .int ((a1 - a1 / 10 * 10))), (1, .int 0), (2, .int 5)], [.int 5, .int ((a1 - a1 / 10 * 10))], (0, 0), mi_G) (by rfl) ?_
          refine mi_sem_b mi_in120 (decide (5 < ((a1 - a1 / 10 * 10)))) false (mi_ltF2 (5) (by decide) (by omega)) 14 10 ([(0, .int ((a1 - a1 / 10 * 10))), (1, .int 0), (2, .int 5)], [], (0, 0), mi_G) (by rfl) ?_
          refine mi_sem_steps mi_in120 (mi_calok_none _ _) 2 _ (15, [(0, .int ((a1 - a1 / 10 * 10))), (1, .int 0), (2, .int 5)], [.int 1], (0, 0), mi_G) (by rfl) ?_
          exact mi_sem_ret (cal := fun _ _ _ => none) mi_in120 (by rfl)
        refine mi_sem_call mi_in121 (i := (.invokestatic 74, 3, 120, 0, 9, 0, 152)) (by rfl) (by rfl) hM1152 (by decide) ⟨Nat.le_of_ble_eq_true rfl, Nat.le_of_ble_eq_true rfl⟩ ?_
        exact mi_sem_ret (cal := fun _ _ _ => none) mi_in121 (by rfl)
      refine mi_sem_call mi_in122 (i := (.invokestatic 70, 3, 121, 0, 9, 0, 157)) (by rfl) (by rfl) hM1153 (by decide) ⟨Nat.le_of_ble_eq_true rfl, Nat.le_of_ble_eq_true rfl⟩ ?_
      refine mi_sem_steps mi_in122 (mi_calok_none _ _) 3 _ (29, [(0, .int a1)], [.int 1], (0, 0), mi_G) (by rfl) ?_
      exact mi_sem_ret (cal := fun _ _ _ => none) mi_in122 (by rfl)
    refine mi_sem_call mi_in98 (i := (.invokestatic 214, 3, 122, 0, 9, 0, 260)) (by rfl) (by rfl) hM1154 (by decide) ⟨Nat.le_of_ble_eq_true rfl, Nat.le_of_ble_eq_true rfl⟩ ?_
    refine mi_sem_steps mi_in98 (mi_calok_none _ _) 4 _ (10, [(0, .ref 0), (1, .int a1), (2, .int a2), (3, .int a3)], [.int 3, .int 0, .int a3], (0, 0), mi_G) (by rfl) ?_
    have hM1155 : mi_Met mi_N0 1 mi_h120 [.int a3, .int 0, .int 3] mi_G (some (.int 1)) mi_G := by
      refine mi_met_of (y := 120) (q := (mi_h120, mi_c120)) rfl (by decide) (Nat.le_of_ble_eq_true rfl) ?_
      refine mi_sem_steps mi_in120 (mi_calok_none _ _) 2 _ (2, [(0, .int a3), (1, .int 0), (2, .int 3)], [.int 0, .int a3], (0, 0), mi_G) (by rfl) ?_
      refine mi_sem_b mi_in120 (decide (a3 < 0)) false (mi_ltF (0) (by decide) (by omega)) 14 5 ([(0, .int a3), (1, .int 0), (2, .int 3)], [], (0, 0), mi_G) (by rfl) ?_
      refine mi_sem_steps mi_in120 (mi_calok_none _ _) 2 _ (7, [(0, .int a3), (1, .int 0), (2, .int 3)], [.int 3, .int a3], (0, 0), mi_G) (by rfl) ?_
      refine mi_sem_b mi_in120 (decide (3 < a3)) false (mi_ltF2 (3) (by decide) (by omega)) 14 10 ([(0, .int a3), (1, .int 0), (2, .int 3)], [], (0, 0), mi_G) (by rfl) ?_
      refine mi_sem_steps mi_in120 (mi_calok_none _ _) 2 _ (15, [(0, .int a3), (1, .int 0), (2, .int 3)], [.int 1], (0, 0), mi_G) (by rfl) ?_
      exact mi_sem_ret (cal := fun _ _ _ => none) mi_in120 (by rfl)
    refine mi_sem_call mi_in98 (i := (.invokestatic 74, 3, 120, 0, 9, 0, 152)) (by rfl) (by rfl) hM1155 (by decide) ⟨Nat.le_of_ble_eq_true rfl, Nat.le_of_ble_eq_true rfl⟩ ?_
    refine mi_sem_steps mi_in98 (mi_calok_none _ _) 2 _ (17, [(0, .ref 0), (1, .int a1), (2, .int a2), (3, .int a3)], [.int a2], (0, 0), mi_G) (by rfl) ?_
    refine mi_sem_b mi_in98 (decide (0 ≤ a2)) false (mi_leF2 (0) (by decide) (by omega)) 22 20 ([(0, .ref 0), (1, .int a1), (2, .int a2), (3, .int a3)], [], (0, 0), mi_G) (by rfl) ?_
    refine mi_sem_steps mi_in98 (mi_calok_none _ _) 1 _ (21, [(0, .ref 0), (1, .int a1), (2, .int a2), (3, .int a3)], [.int (-1)], (0, 0), mi_G) (by rfl) ?_
    exact mi_sem_ret (cal := fun _ _ _ => none) mi_in98 (by rfl)
  · refine mi_met_of (y := 197) (q := (mi_h197, mi_c197)) rfl (by decide) (Nat.le_of_ble_eq_true rfl) ?_
    refine mi_sem_steps mi_in197 (mi_calok_none _ _) 2 _ (2, [(0, .ref 116), (1, .int a1), (2, .int a2), (3, .int a3)], [.int a1, .ref 116], (0, 0), mi_G) (by rfl) ?_
    have hM1160 : mi_Met mi_N0 3 mi_h190 [.ref 116, .int a1] mi_G (some (.int 1)) mi_G := by
      refine mi_met_of (y := 190) (q := (mi_h190, mi_c190)) rfl (by decide) (Nat.le_of_ble_eq_true rfl) ?_
      refine mi_sem_steps mi_in190 (mi_calok_none _ _) 1 _ (1, [(0, .ref 116), (1, .int a1)], [.int a1], (0, 0), mi_G) (by rfl) ?_
      refine mi_sem_b mi_in190 (decide (a1 < 0)) false (mi_ltF (0) (by decide) (by omega)) 28 4 ([(0, .ref 116), (1, .int a1)], [], (0, 0), mi_G) (by rfl) ?_
      refine mi_sem_steps mi_in190 (mi_calok_none _ _) 3 _ (8, [(0, .ref 116), (1, .int a1)], [.int ((a1 / 10))], (0, 0), mi_G) (by rfl) ?_
      have hM1157 : mi_Met mi_N0 2 mi_h133 [.int ((a1 / 10))] mi_G (some (.int 1)) mi_G := by
        refine mi_met_of (y := 133) (q := (mi_h133, mi_c133)) rfl (by decide) (Nat.le_of_ble_eq_true rfl) ?_
        refine mi_sem_steps mi_in133 (mi_calok_none _ _) 3 _ (3, [(0, .int ((a1 / 10)))], [.int 5, .int 0, .int ((a1 / 10))], (0, 0), mi_G) (by rfl) ?_
        have hM1156 : mi_Met mi_N0 1 mi_h131 [.int ((a1 / 10)), .int 0, .int 5] mi_G (some (.int 1)) mi_G := by
          refine mi_met_of (y := 131) (q := (mi_h131, mi_c131)) rfl (by decide) (Nat.le_of_ble_eq_true rfl) ?_
          refine mi_sem_steps mi_in131 (mi_calok_none _ _) 2 _ (2, [(0, .int ((a1 / 10))), (1, .int 0), (2, .int 5)], [.int 0, .int ((a1 / 10))], (0, 0), mi_G) (by rfl) ?_
          refine mi_sem_b mi_in131 (decide (((a1 / 10)) < 0)) false (mi_ltF (0) (by decide) (by omega)) 14 5 ([(0, .int ((a1 / 10))), (1, .int 0), (2, .int 5)], [], (0, 0), mi_G) (by rfl) ?_
          refine mi_sem_steps mi_in131 (mi_calok_none _ _) 2 _ (7, [(0, .int ((a1 / 10))), (1, .int 0), (2, .int 5)], [.int 5, .int ((a1 / 10))], (0, 0), mi_G) (by rfl) ?_
          refine mi_sem_b mi_in131 (decide (5 < ((a1 / 10)))) false (mi_ltF2 (5) (by decide) (by omega)) 14 10 ([(0, .int ((a1 / 10))), (1, .int 0), (2, .int 5)], [], (0, 0), mi_G) (by rfl) ?_
          refine mi_sem_steps mi_in131 (mi_calok_none _ _) 2 _ (15, [(0, .int ((a1 / 10))), (1, .int 0), (2, .int 5)], [.int 1], (0, 0), mi_G) (by rfl) ?_
          exact mi_sem_ret (cal := fun _ _ _ => none) mi_in131 (by rfl)
        refine mi_sem_call mi_in133 (i := (.invokestatic 119, 3, 131, 0, 9, 0, 379)) (by rfl) (by rfl) hM1156 (by decide) ⟨Nat.le_of_ble_eq_true rfl, Nat.le_of_ble_eq_true rfl⟩ ?_
        exact mi_sem_ret (cal := fun _ _ _ => none) mi_in133 (by rfl)
      refine mi_sem_call mi_in190 (i := (.invokestatic 127, 3, 133, 0, 9, 0, 382)) (by rfl) (by rfl) hM1157 (by decide) ⟨Nat.le_of_ble_eq_true rfl, Nat.le_of_ble_eq_true rfl⟩ ?_
      refine mi_sem_steps mi_in190 (mi_calok_none _ _) 4 _ (18, [(0, .ref 116), (1, .int a1)], [.int ((a1 - a1 / 10 * 10))], (0, 0), mi_G) (by rfl) ?_
      have hM1159 : mi_Met mi_N0 2 mi_h133 [.int ((a1 - a1 / 10 * 10))] mi_G (some (.int 1)) mi_G := by
        refine mi_met_of (y := 133) (q := (mi_h133, mi_c133)) rfl (by decide) (Nat.le_of_ble_eq_true rfl) ?_
        refine mi_sem_steps mi_in133 (mi_calok_none _ _) 3 _ (3, [(0, .int ((a1 - a1 / 10 * 10)))], [.int 5, .int 0, .int ((a1 - a1 / 10 * 10))], (0, 0), mi_G) (by rfl) ?_
        have hM1158 : mi_Met mi_N0 1 mi_h131 [.int ((a1 - a1 / 10 * 10)), .int 0, .int 5] mi_G (some (.int 1)) mi_G := by
          refine mi_met_of (y := 131) (q := (mi_h131, mi_c131)) rfl (by decide) (Nat.le_of_ble_eq_true rfl) ?_
          refine mi_sem_steps mi_in131 (mi_calok_none _ _) 2 _ (2, [(0, .int ((a1 - a1 / 10 * 10))), (1, .int 0), (2, .int 5)], [.int 0, .int ((a1 - a1 / 10 * 10))], (0, 0), mi_G) (by rfl) ?_
          refine mi_sem_b mi_in131 (decide (((a1 - a1 / 10 * 10)) < 0)) false (mi_ltF (0) (by decide) (by omega)) 14 5 ([(0, .int ((a1 - a1 / 10 * 10))), (1, .int 0), (2, .int 5)], [], (0, 0), mi_G) (by rfl) ?_
          refine mi_sem_steps mi_in131 (mi_calok_none _ _) 2 _ (7, [(0, .int ((a1 - a1 / 10 * 10))), (1, .int 0), (2, .int 5)], [.int 5, .int ((a1 - a1 / 10 * 10))], (0, 0), mi_G) (by rfl) ?_
          refine mi_sem_b mi_in131 (decide (5 < ((a1 - a1 / 10 * 10)))) false (mi_ltF2 (5) (by decide) (by omega)) 14 10 ([(0, .int ((a1 - a1 / 10 * 10))), (1, .int 0), (2, .int 5)], [], (0, 0), mi_G) (by rfl) ?_
          refine mi_sem_steps mi_in131 (mi_calok_none _ _) 2 _ (15, [(0, .int ((a1 - a1 / 10 * 10))), (1, .int 0), (2, .int 5)], [.int 1], (0, 0), mi_G) (by rfl) ?_
          exact mi_sem_ret (cal := fun _ _ _ => none) mi_in131 (by rfl)
        refine mi_sem_call mi_in133 (i := (.invokestatic 119, 3, 131, 0, 9, 0, 379)) (by rfl) (by rfl) hM1158 (by decide) ⟨Nat.le_of_ble_eq_true rfl, Nat.le_of_ble_eq_true rfl⟩ ?_
        exact mi_sem_ret (cal := fun _ _ _ => none) mi_in133 (by rfl)
      refine mi_sem_call mi_in190 (i := (.invokestatic 127, 3, 133, 0, 9, 0, 382)) (by rfl) (by rfl) hM1159 (by decide) ⟨Nat.le_of_ble_eq_true rfl, Nat.le_of_ble_eq_true rfl⟩ ?_
      refine mi_sem_steps mi_in190 (mi_calok_none _ _) 3 _ (29, [(0, .ref 116), (1, .int a1)], [.int 1], (0, 0), mi_G) (by rfl) ?_
      exact mi_sem_ret (cal := fun _ _ _ => none) mi_in190 (by rfl)
    refine mi_sem_call mi_in197 (i := (.invokevirtual 314, 3, 190, 0, 9, 0, 442)) (by rfl) (by rfl) hM1160 (by decide) ⟨Nat.le_of_ble_eq_true rfl, Nat.le_of_ble_eq_true rfl⟩ ?_
    refine mi_sem_steps mi_in197 (mi_calok_none _ _) 4 _ (11, [(0, .ref 116), (1, .int a1), (2, .int a2), (3, .int a3)], [.int 3, .int 0, .int a3], (0, 0), mi_G) (by rfl) ?_
    have hM1161 : mi_Met mi_N0 1 mi_h131 [.int a3, .int 0, .int 3] mi_G (some (.int 1)) mi_G := by
      refine mi_met_of (y := 131) (q := (mi_h131, mi_c131)) rfl (by decide) (Nat.le_of_ble_eq_true rfl) ?_
      refine mi_sem_steps mi_in131 (mi_calok_none _ _) 2 _ (2, [(0, .int a3), (1, .int 0), (2, .int 3)], [.int 0, .int a3], (0, 0), mi_G) (by rfl) ?_
      refine mi_sem_b mi_in131 (decide (a3 < 0)) false (mi_ltF (0) (by decide) (by omega)) 14 5 ([(0, .int a3), (1, .int 0), (2, .int 3)], [], (0, 0), mi_G) (by rfl) ?_
      refine mi_sem_steps mi_in131 (mi_calok_none _ _) 2 _ (7, [(0, .int a3), (1, .int 0), (2, .int 3)], [.int 3, .int a3], (0, 0), mi_G) (by rfl) ?_
      refine mi_sem_b mi_in131 (decide (3 < a3)) false (mi_ltF2 (3) (by decide) (by omega)) 14 10 ([(0, .int a3), (1, .int 0), (2, .int 3)], [], (0, 0), mi_G) (by rfl) ?_
      refine mi_sem_steps mi_in131 (mi_calok_none _ _) 2 _ (15, [(0, .int a3), (1, .int 0), (2, .int 3)], [.int 1], (0, 0), mi_G) (by rfl) ?_
      exact mi_sem_ret (cal := fun _ _ _ => none) mi_in131 (by rfl)
    refine mi_sem_call mi_in197 (i := (.invokestatic 119, 3, 131, 0, 9, 0, 379)) (by rfl) (by rfl) hM1161 (by decide) ⟨Nat.le_of_ble_eq_true rfl, Nat.le_of_ble_eq_true rfl⟩ ?_
    refine mi_sem_steps mi_in197 (mi_calok_none _ _) 2 _ (18, [(0, .ref 116), (1, .int a1), (2, .int a2), (3, .int a3)], [.int a2], (0, 0), mi_G) (by rfl) ?_
    refine mi_sem_b mi_in197 (decide (a2 < 0)) true (mi_ltT (0) (by decide) (by omega)) 42 21 ([(0, .ref 116), (1, .int a1), (2, .int a2), (3, .int a3)], [], (0, 0), mi_G) (by rfl) ?_
    refine mi_sem_steps mi_in197 (mi_calok_none _ _) 1 _ (43, [(0, .ref 116), (1, .int a1), (2, .int a2), (3, .int a3)], [.int (-1)], (0, 0), mi_G) (by rfl) ?_
    exact mi_sem_ret (cal := fun _ _ _ => none) mi_in197 (by rfl)

set_option maxRecDepth 100000 in
set_option maxHeartbeats 4000000 in
theorem mp_fits_5 (a1 : Int32) (r0 : 0 ≤ (a1).toInt ∧ (a1).toInt ≤ 2147483647) (q1 : (a1 / 10) = 0) (r2 : 0 ≤ ((a1 - a1 / 10 * 10)).toInt ∧ ((a1 - a1 / 10 * 10)).toInt ≤ 5) : mi_P 98 197 [.int a1, .int 0, .int 0] := by
  refine ⟨.int (-11), mi_G, mi_G, (mi_h98, mi_c98), (mi_h197, mi_c197), 5, 4, rfl, rfl, rfl, by decide, by decide, ?_, ?_⟩
  · refine mi_met_of (y := 98) (q := (mi_h98, mi_c98)) rfl (by decide) (Nat.le_of_ble_eq_true rfl) ?_
    refine mi_sem_steps mi_in98 (mi_calok_none _ _) 1 _ (1, [(0, .ref 0), (1, .int a1), (2, .int 0), (3, .int 0)], [.int a1], (0, 0), mi_G) (by rfl) ?_
    have hM1185 : mi_Met mi_N0 3 mi_h122 [.int a1] mi_G (some (.int 1)) mi_G := by
      refine mi_met_of (y := 122) (q := (mi_h122, mi_c122)) rfl (by decide) (Nat.le_of_ble_eq_true rfl) ?_
      refine mi_sem_steps mi_in122 (mi_calok_none _ _) 1 _ (1, [(0, .int a1)], [.int a1], (0, 0), mi_G) (by rfl) ?_
      refine mi_sem_b mi_in122 (decide (a1 < 0)) false (mi_ltF (0) (by decide) (by omega)) 28 4 ([(0, .int a1)], [], (0, 0), mi_G) (by rfl) ?_
      refine mi_sem_steps mi_in122 (mi_calok_none _ _) 3 _ (8, [(0, .int a1)], [.int ((a1 / 10))], (0, 0), mi_G) (by rfl) ?_
      refine mi_sem_eq (x1 := (8, [(0, .int a1)], [.int 0], (0, 0), mi_G)) (by rw [q1]) ?_
      have hM1182 : mi_Met mi_N0 2 mi_h121 [.int 0] mi_G (some (.int 1)) mi_G := mi_fun_ok mi_N0 2 121 (mi_h121, mi_c121) _ _ _ _ rfl (mi_eR_ok (by decide +kernel))
      refine mi_sem_call mi_in122 (i := (.invokestatic 70, 3, 121, 0, 9, 0, 157)) (by rfl) (by rfl) hM1182 (by decide) ⟨Nat.le_of_ble_eq_true rfl, Nat.le_of_ble_eq_true rfl⟩ ?_
      refine mi_sem_steps mi_in122 (mi_calok_none _ _) 4 _ (18, [(0, .int a1)], [.int ((a1 - a1 / 10 * 10))], (0, 0), mi_G) (by rfl) ?_
      have hM1184 : mi_Met mi_N0 2 mi_h121 [.int ((a1 - a1 / 10 * 10))] mi_G (some (.int 1)) mi_G := by
        refine mi_met_of (y := 121) (q := (mi_h121, mi_c121)) rfl (by decide) (Nat.le_of_ble_eq_true rfl) ?_
        refine mi_sem_steps mi_in121 (mi_calok_none _ _) 3 _ (3, [(0, .int ((a1 - a1 / 10 * 10)))], [.int 5, .int 0, .int ((a1 - a1 / 10 * 10))], (0, 0), mi_G) (by rfl) ?_
        have hM1183 : mi_Met mi_N0 1 mi_h120 [.int ((a1 - a1 / 10 * 10)), .int 0, .int 5] mi_G (some (.int 1)) mi_G := by
          refine mi_met_of (y := 120) (q := (mi_h120, mi_c120)) rfl (by decide) (Nat.le_of_ble_eq_true rfl) ?_
          refine mi_sem_steps mi_in120 (mi_calok_none _ _) 2 _ (2, [(0, .int ((a1 - a1 / 10 * 10))), (1, .int 0), (2, .int 5)], [.int 0, .int ((a1 - a1 / 10 * 10))], (0, 0), mi_G) (by rfl) ?_
          refine mi_sem_b mi_in120 (decide (((a1 - a1 / 10 * 10)) < 0)) false (mi_ltF (0) (by decide) (by omega)) 14 5 ([(0, .int ((a1 - a1 / 10 * 10))), (1, .int 0), (2, .int 5)], [], (0, 0), mi_G) (by rfl) ?_
          refine mi_sem_steps mi_in120 (mi_calok_none _ _) 2 _ (7, [(0, .int ((a1 - a1 / 10 * 10))), (1, .int 0), (2, .int 5)], [.int 5, .int ((a1 - a1 / 10 * 10))], (0, 0), mi_G) (by rfl) ?_
          refine mi_sem_b mi_in120 (decide (5 < ((a1 - a1 / 10 * 10)))) false (mi_ltF2 (5) (by decide) (by omega)) 14 10 ([(0, .int ((a1 - a1 / 10 * 10))), (1, .int 0), (2, .int 5)], [], (0, 0), mi_G) (by rfl) ?_
          refine mi_sem_steps mi_in120 (mi_calok_none _ _) 2 _ (15, [(0, .int ((a1 - a1 / 10 * 10))), (1, .int 0), (2, .int 5)], [.int 1], (0, 0), mi_G) (by rfl) ?_
          exact mi_sem_ret (cal := fun _ _ _ => none) mi_in120 (by rfl)
        refine mi_sem_call mi_in121 (i := (.invokestatic 74, 3, 120, 0, 9, 0, 152)) (by rfl) (by rfl) hM1183 (by decide) ⟨Nat.le_of_ble_eq_true rfl, Nat.le_of_ble_eq_true rfl⟩ ?_
        exact mi_sem_ret (cal := fun _ _ _ => none) mi_in121 (by rfl)
      refine mi_sem_call mi_in122 (i := (.invokestatic 70, 3, 121, 0, 9, 0, 157)) (by rfl) (by rfl) hM1184 (by decide) ⟨Nat.le_of_ble_eq_true rfl, Nat.le_of_ble_eq_true rfl⟩ ?_
      refine mi_sem_steps mi_in122 (mi_calok_none _ _) 3 _ (29, [(0, .int a1)], [.int 1], (0, 0), mi_G) (by rfl) ?_
      exact mi_sem_ret (cal := fun _ _ _ => none) mi_in122 (by rfl)
    refine mi_sem_call mi_in98 (i := (.invokestatic 214, 3, 122, 0, 9, 0, 260)) (by rfl) (by rfl) hM1185 (by decide) ⟨Nat.le_of_ble_eq_true rfl, Nat.le_of_ble_eq_true rfl⟩ ?_
    refine mi_sem_steps mi_in98 (mi_calok_none _ _) 4 _ (10, [(0, .ref 0), (1, .int a1), (2, .int 0), (3, .int 0)], [.int 3, .int 0, .int 0], (0, 0), mi_G) (by rfl) ?_
    have hM1186 : mi_Met mi_N0 1 mi_h120 [.int 0, .int 0, .int 3] mi_G (some (.int 1)) mi_G := mi_fun_ok mi_N0 1 120 (mi_h120, mi_c120) _ _ _ _ rfl (mi_eR_ok (by decide +kernel))
    refine mi_sem_call mi_in98 (i := (.invokestatic 74, 3, 120, 0, 9, 0, 152)) (by rfl) (by rfl) hM1186 (by decide) ⟨Nat.le_of_ble_eq_true rfl, Nat.le_of_ble_eq_true rfl⟩ ?_
    refine mi_sem_steps mi_in98 (mi_calok_none _ _) 14 _ (50, [(0, .ref 0), (1, .int a1), (2, .int 0), (3, .int 0)], [.int ((a1 / 10)), .ref 0], (0, 0), mi_G) (by rfl) ?_
    refine mi_sem_eq (x1 := (50, [(0, .ref 0), (1, .int a1), (2, .int 0), (3, .int 0)], [.int 0, .ref 0], (0, 0), mi_G)) (by rw [q1]) ?_
    have hM1187 : mi_Met mi_N0 4 mi_h129 [.ref 0, .int 0] mi_G (some (.int (-11))) mi_G := mi_fun_ok mi_N0 4 129 (mi_h129, mi_c129) _ _ _ _ rfl (mi_eR_ok (by decide +kernel))
    refine mi_sem_call mi_in98 (i := (.invokevirtual 144, 3, 129, 0, 9, 0, 208)) (by rfl) (by rfl) hM1187 (by decide) ⟨Nat.le_of_ble_eq_true rfl, Nat.le_of_ble_eq_true rfl⟩ ?_
    refine mi_sem_steps mi_in98 (mi_calok_none _ _) 4 _ (62, [(4, .int (-11)), (0, .ref 0), (1, .int a1), (2, .int 0), (3, .int 0)], [.int (-11)], (0, 0), mi_G) (by rfl) ?_
    exact mi_sem_ret (cal := fun _ _ _ => none) mi_in98 (by rfl)
  · refine mi_met_of (y := 197) (q := (mi_h197, mi_c197)) rfl (by decide) (Nat.le_of_ble_eq_true rfl) ?_
    refine mi_sem_steps mi_in197 (mi_calok_none _ _) 2 _ (2, [(0, .ref 116), (1, .int a1), (2, .int 0), (3, .int 0)], [.int a1, .ref 116], (0, 0), mi_G) (by rfl) ?_
    have hM1191 : mi_Met mi_N0 3 mi_h190 [.ref 116, .int a1] mi_G (some (.int 1)) mi_G := by
      refine mi_met_of (y := 190) (q := (mi_h190, mi_c190)) rfl (by decide) (Nat.le_of_ble_eq_true rfl) ?_
      refine mi_sem_steps mi_in190 (mi_calok_none _ _) 1 _ (1, [(0, .ref 116), (1, .int a1)], [.int a1], (0, 0), mi_G) (by rfl) ?_
      refine mi_sem_b mi_in190 (decide (a1 < 0)) false (mi_ltF (0) (by decide) (by omega)) 28 4 ([(0, .ref 116), (1, .int a1)], [], (0, 0), mi_G) (by rfl) ?_
      refine mi_sem_steps mi_in190 (mi_calok_none _ _) 3 _ (8, [(0, .ref 116), (1, .int a1)], [.int ((a1 / 10))], (0, 0), mi_G) (by rfl) ?_
      refine mi_sem_eq (x1 := (8, [(0, .ref 116), (1, .int a1)], [.int 0], (0, 0), mi_G)) (by rw [q1]) ?_
      have hM1188 : mi_Met mi_N0 2 mi_h133 [.int 0] mi_G (some (.int 1)) mi_G := mi_fun_ok mi_N0 2 133 (mi_h133, mi_c133) _ _ _ _ rfl (mi_eR_ok (by decide +kernel))
      refine mi_sem_call mi_in190 (i := (.invokestatic 127, 3, 133, 0, 9, 0, 382)) (by rfl) (by rfl) hM1188 (by decide) ⟨Nat.le_of_ble_eq_true rfl, Nat.le_of_ble_eq_true rfl⟩ ?_
      refine mi_sem_steps mi_in190 (mi_calok_none _ _) 4 _ (18, [(0, .ref 116), (1, .int a1)], [.int ((a1 - a1 / 10 * 10))], (0, 0), mi_G) (by rfl) ?_
      have hM1190 : mi_Met mi_N0 2 mi_h133 [.int ((a1 - a1 / 10 * 10))] mi_G (some (.int 1)) mi_G := by
        refine mi_met_of (y := 133) (q := (mi_h133, mi_c133)) rfl (by decide) (Nat.le_of_ble_eq_true rfl) ?_
        refine mi_sem_steps mi_in133 (mi_calok_none _ _) 3 _ (3, [(0, .int ((a1 - a1 / 10 * 10)))], [.int 5, .int 0, .int ((a1 - a1 / 10 * 10))], (0, 0), mi_G) (by rfl) ?_
        have hM1189 : mi_Met mi_N0 1 mi_h131 [.int ((a1 - a1 / 10 * 10)), .int 0, .int 5] mi_G (some (.int 1)) mi_G := by
          refine mi_met_of (y := 131) (q := (mi_h131, mi_c131)) rfl (by decide) (Nat.le_of_ble_eq_true rfl) ?_
          refine mi_sem_steps mi_in131 (mi_calok_none _ _) 2 _ (2, [(0, .int ((a1 - a1 / 10 * 10))), (1, .int 0), (2, .int 5)], [.int 0, .int ((a1 - a1 / 10 * 10))], (0, 0), mi_G) (by rfl) ?_
          refine mi_sem_b mi_in131 (decide (((a1 - a1 / 10 * 10)) < 0)) false (mi_ltF (0) (by decide) (by omega)) 14 5 ([(0, .int ((a1 - a1 / 10 * 10))), (1, .int 0), (2, .int 5)], [], (0, 0), mi_G) (by rfl) ?_
          refine mi_sem_steps mi_in131 (mi_calok_none _ _) 2 _ (7, [(0, .int ((a1 - a1 / 10 * 10))), (1, .int 0), (2, .int 5)], [.int 5, .int ((a1 - a1 / 10 * 10))], (0, 0), mi_G) (by rfl) ?_
          refine mi_sem_b mi_in131 (decide (5 < ((a1 - a1 / 10 * 10)))) false (mi_ltF2 (5) (by decide) (by omega)) 14 10 ([(0, .int ((a1 - a1 / 10 * 10))), (1, .int 0), (2, .int 5)], [], (0, 0), mi_G) (by rfl) ?_
          refine mi_sem_steps mi_in131 (mi_calok_none _ _) 2 _ (15, [(0, .int ((a1 - a1 / 10 * 10))), (1, .int 0), (2, .int 5)], [.int 1], (0, 0), mi_G) (by rfl) ?_
          exact mi_sem_ret (cal := fun _ _ _ => none) mi_in131 (by rfl)
        refine mi_sem_call mi_in133 (i := (.invokestatic 119, 3, 131, 0, 9, 0, 379)) (by rfl) (by rfl) hM1189 (by decide) ⟨Nat.le_of_ble_eq_true rfl, Nat.le_of_ble_eq_true rfl⟩ ?_
        exact mi_sem_ret (cal := fun _ _ _ => none) mi_in133 (by rfl)
      refine mi_sem_call mi_in190 (i := (.invokestatic 127, 3, 133, 0, 9, 0, 382)) (by rfl) (by rfl) hM1190 (by decide) ⟨Nat.le_of_ble_eq_true rfl, Nat.le_of_ble_eq_true rfl⟩ ?_
      refine mi_sem_steps mi_in190 (mi_calok_none _ _) 3 _ (29, [(0, .ref 116), (1, .int a1)], [.int 1], (0, 0), mi_G) (by rfl) ?_
      exact mi_sem_ret (cal := fun _ _ _ => none) mi_in190 (by rfl)
    refine mi_sem_call mi_in197 (i := (.invokevirtual 314, 3, 190, 0, 9, 0, 442)) (by rfl) (by rfl) hM1191 (by decide) ⟨Nat.le_of_ble_eq_true rfl, Nat.le_of_ble_eq_true rfl⟩ ?_
    refine mi_sem_steps mi_in197 (mi_calok_none _ _) 4 _ (11, [(0, .ref 116), (1, .int a1), (2, .int 0), (3, .int 0)], [.int 3, .int 0, .int 0], (0, 0), mi_G) (by rfl) ?_
    have hM1192 : mi_Met mi_N0 1 mi_h131 [.int 0, .int 0, .int 3] mi_G (some (.int 1)) mi_G := mi_fun_ok mi_N0 1 131 (mi_h131, mi_c131) _ _ _ _ rfl (mi_eR_ok (by decide +kernel))
    refine mi_sem_call mi_in197 (i := (.invokestatic 119, 3, 131, 0, 9, 0, 379)) (by rfl) (by rfl) hM1192 (by decide) ⟨Nat.le_of_ble_eq_true rfl, Nat.le_of_ble_eq_true rfl⟩ ?_
    refine mi_sem_steps mi_in197 (mi_calok_none _ _) 12 _ (46, [(0, .ref 116), (1, .int a1), (2, .int 0), (3, .int 0)], [.int a1, .ref 116], (0, 0), mi_G) (by rfl) ?_
    have hM1194 : mi_Met mi_N0 2 mi_h191 [.ref 116, .int a1] mi_G (some (.int (-11))) mi_G := by
      refine mi_met_of (y := 191) (q := (mi_h191, mi_c191)) rfl (by decide) (Nat.le_of_ble_eq_true rfl) ?_
      refine mi_sem_steps mi_in191 (mi_calok_none _ _) 4 _ (5, [(0, .ref 116), (1, .int a1)], [.int ((a1 / 10)), .ref 116], (0, 0), mi_G) (by rfl) ?_
      refine mi_sem_eq (x1 := (5, [(0, .ref 116), (1, .int a1)], [.int 0, .ref 116], (0, 0), mi_G)) (by rw [q1]) ?_
      have hM1193 : mi_Met mi_N0 1 mi_h173 [.ref 116, .int 0] mi_G (some (.int (-11))) mi_G := mi_fun_ok mi_N0 1 173 (mi_h173, mi_c173) _ _ _ _ rfl (mi_eR_ok (by decide +kernel))
      refine mi_sem_call mi_in191 (i := (.invokevirtual 276, 3, 173, 0, 9, 0, 410)) (by rfl) (by rfl) hM1193 (by decide) ⟨Nat.le_of_ble_eq_true rfl, Nat.le_of_ble_eq_true rfl⟩ ?_
      refine mi_sem_steps mi_in191 (mi_calok_none _ _) 5 _ (25, [(2, .int (-11)), (0, .ref 116), (1, .int a1)], [.int (-11)], (0, 0), mi_G) (by rfl) ?_
      exact mi_sem_ret (cal := fun _ _ _ => none) mi_in191 (by rfl)
    refine mi_sem_call mi_in197 (i := (.invokevirtual 317, 3, 191, 0, 9, 0, 443)) (by rfl) (by rfl) hM1194 (by decide) ⟨Nat.le_of_ble_eq_true rfl, Nat.le_of_ble_eq_true rfl⟩ ?_
    refine mi_sem_steps mi_in197 (mi_calok_none _ _) 4 _ (58, [(4, .int (-11)), (0, .ref 116), (1, .int a1), (2, .int 0), (3, .int 0)], [.int (-11)], (0, 0), mi_G) (by rfl) ?_
    exact mi_sem_ret (cal := fun _ _ _ => none) mi_in197 (by rfl)

set_option maxRecDepth 100000 in
set_option maxHeartbeats 4000000 in
theorem mp_fits_6 (a1 : Int32) (r0 : 0 ≤ (a1).toInt ∧ (a1).toInt ≤ 2147483647) (q1 : (a1 / 10) = 1) (r2 : 0 ≤ ((a1 - a1 / 10 * 10)).toInt ∧ ((a1 - a1 / 10 * 10)).toInt ≤ 5) : mi_P 98 197 [.int a1, .int 0, .int 0] := by
  refine ⟨.int (-11), mi_G, mi_G, (mi_h98, mi_c98), (mi_h197, mi_c197), 5, 4, rfl, rfl, rfl, by decide, by decide, ?_, ?_⟩
  · refine mi_met_of (y := 98) (q := (mi_h98, mi_c98)) rfl (by decide) (Nat.le_of_ble_eq_true rfl) ?_
    refine mi_sem_steps mi_in98 (mi_calok_none _ _) 1 _ (1, [(0, .ref 0), (1, .int a1), (2, .int 0), (3, .int 0)], [.int a1], (0, 0), mi_G) (by rfl) ?_
    have hM1206 : mi_Met mi_N0 3 mi_h122 [.int a1] mi_G (some (.int 1)) mi_G := by
      refine mi_met_of (y := 122) (q := (mi_h122, mi_c122)) rfl (by decide) (Nat.le_of_ble_eq_true rfl) ?_
      refine mi_sem_steps mi_in122 (mi_calok_none _ _) 1 _ (1, [(0, .int a1)], [.int a1], (0, 0), mi_G) (by rfl) ?_
      refine mi_sem_b mi_in122 (decide (a1 < 0)) false (mi_ltF (0) (by decide) (by omega)) 28 4 ([(0, .int a1)], [], (0, 0), mi_G) (by rfl) ?_
      refine mi_sem_steps mi_in122 (mi_calok_none _ _) 3 _ (8, [(0, .int a1)], [.int ((a1 / 10))], (0, 0), mi_G) (by rfl) ?_
      refine mi_sem_eq (x1 := (8, [(0, .int a1)], [.int 1], (0, 0), mi_G)) (by rw [q1]) ?_
      have hM1203 : mi_Met mi_N0 2 mi_h121 [.int 1] mi_G (some (.int 1)) mi_G := mi_fun_ok mi_N0 2 121 (mi_h121, mi_c121) _ _ _ _ rfl (mi_eR_ok (by decide +kernel))
      refine mi_sem_call mi_in122 (i := (.invokestatic 70, 3, 121, 0, 9, 0, 157)) (by rfl) (by rfl) hM1203 (by decide) ⟨Nat.le_of_ble_eq_true rfl, Nat.le_of_ble_eq_true rfl⟩ ?_
      refine mi_sem_steps mi_in122 (mi_calok_none _ _) 4 _ (18, [(0, .int a1)], [.int ((a1 - a1 / 10 * 10))], (0, 0), mi_G) (by rfl) ?_
      have hM1205 : mi_Met mi_N0 2 mi_h121 [.int ((a1 - a1 / 10 * 10))] mi_G (some (.int 1)) mi_G := by
        refine mi_met_of (y := 121) (q := (mi_h121, mi_c121)) rfl (by decide) (Nat.le_of_ble_eq_true rfl) ?_
        refine mi_sem_steps mi_in121 (mi_calok_none _ _) 3 _ (3, [(0, .int ((a1 - a1 / 10 * 10)))], [.int 5, .int 0, .int ((a1 - a1 / 10 * 10))], (0, 0), mi_G) (by rfl) ?_
        have hM1204 : mi_Met mi_N0 1 mi_h120 [.int ((a1 - a1 / 10 * 10)), .int 0, .int 5] mi_G (some (.int 1)) mi_G := by
          refine mi_met_of (y := 120) (q := (mi_h120, mi_c120)) rfl (by decide) (Nat.le_of_ble_eq_true rfl) ?_
          refine mi_sem_steps mi_in120 (mi_calok_none _ _) 2 _ (2, [(0, .int ((a1 - a1 / 10 * 10))), (1, .int 0), (2, .int 5)], [.int 0, .int ((a1 - a1 / 10 * 10))], (0, 0), mi_G) (by rfl) ?_
          refine mi_sem_b mi_in120 (decide (((a1 - a1 / 10 * 10)) < 0)) false (mi_ltF (0) (by decide) (by omega)) 14 5 ([(0, .int ((a1 - a1 / 10 * 10))), (1, .int 0), (2, .int 5)], [], (0, 0), mi_G) (by rfl) ?_
          refine mi_sem_steps mi_in120 (mi_calok_none _ _) 2 _ (7, [(0, .int ((a1 - a1 / 10 * 10))), (1, .int 0), (2, .int 5)], [.int 5, .int ((a1 - a1 / 10 * 10))], (0, 0), mi_G) (by rfl) ?_
          refine mi_sem_b mi_in120 (decide (5 < ((a1 - a1 / 10 * 10)))) false (mi_ltF2 (5) (by decide) (by omega)) 14 10 ([(0, .int ((a1 - a1 / 10 * 10))), (1, .int 0), (2, .int 5)], [], (0, 0), mi_G) (by rfl) ?_
          refine mi_sem_steps mi_in120 (mi_calok_none _ _) 2 _ (15, [(0, .int ((a1 - a1 / 10 * 10))), (1, .int 0), (2, .int 5)], [.int 1], (0, 0), mi_G) (by rfl) ?_
          exact mi_sem_ret (cal := fun _ _ _ => none) mi_in120 (by rfl)
        refine mi_sem_call mi_in121 (i := (.invokestatic 74, 3, 120, 0, 9, 0, 152)) (by rfl) (by rfl) hM1204 (by decide) ⟨Nat.le_of_ble_eq_true rfl, Nat.le_of_ble_eq_true rfl⟩ ?_
        exact mi_sem_ret (cal := fun _ _ _ => none) mi_in121 (by rfl)
      refine mi_sem_call mi_in122 (i := (.invokestatic 70, 3, 121, 0, 9, 0, 157)) (by rfl) (by rfl) hM1205 (by decide) ⟨Nat.le_of_ble_eq_true rfl, Nat.le_of_ble_eq_true rfl⟩ ?_
      refine mi_sem_steps mi_in122 (mi_calok_none _ _) 3 _ (29, [(0, .int a1)], [.int 1], (0, 0), mi_G) (by rfl) ?_
      exact mi_sem_ret (cal := fun _ _ _ => none) mi_in122 (by rfl)
    refine mi_sem_call mi_in98 (i := (.invokestatic 214, 3, 122, 0, 9, 0, 260)) (by rfl) (by rfl) hM1206 (by decide) ⟨Nat.le_of_ble_eq_true rfl, Nat.le_of_ble_eq_true rfl⟩ ?_
    refine mi_sem_steps mi_in98 (mi_calok_none _ _) 4 _ (10, [(0, .ref 0), (1, .int a1), (2, .int 0), (3, .int 0)], [.int 3, .int 0, .int 0], (0, 0), mi_G) (by rfl) ?_
    have hM1207 : mi_Met mi_N0 1 mi_h120 [.int 0, .int 0, .int 3] mi_G (some (.int 1)) mi_G := mi_fun_ok mi_N0 1 120 (mi_h120, mi_c120) _ _ _ _ rfl (mi_eR_ok (by decide +kernel))
    refine mi_sem_call mi_in98 (i := (.invokestatic 74, 3, 120, 0, 9, 0, 152)) (by rfl) (by rfl) hM1207 (by decide) ⟨Nat.le_of_ble_eq_true rfl, Nat.le_of_ble_eq_true rfl⟩ ?_
    refine mi_sem_steps mi_in98 (mi_calok_none _ _) 14 _ (50, [(0, .ref 0), (1, .int a1), (2, .int 0), (3, .int 0)], [.int ((a1 / 10)), .ref 0], (0, 0), mi_G) (by rfl) ?_
    refine mi_sem_eq (x1 := (50, [(0, .ref 0), (1, .int a1), (2, .int 0), (3, .int 0)], [.int 1, .ref 0], (0, 0), mi_G)) (by rw [q1]) ?_
    have hM1208 : mi_Met mi_N0 4 mi_h129 [.ref 0, .int 1] mi_G (some (.int (-11))) mi_G := mi_fun_ok mi_N0 4 129 (mi_h129, mi_c129) _ _ _ _ rfl (mi_eR_ok (by decide +kernel))
    refine mi_sem_call mi_in98 (i := (.invokevirtual 144, 3, 129, 0, 9, 0, 208)) (by rfl) (by rfl) hM1208 (by decide) ⟨Nat.le_of_ble_eq_true rfl, Nat.le_of_ble_eq_true rfl⟩ ?_
    refine mi_sem_steps mi_in98 (mi_calok_none _ _) 4 _ (62, [(4, .int (-11)), (0, .ref 0), (1, .int a1), (2, .int 0), (3, .int 0)], [.int (-11)], (0, 0), mi_G) (by rfl) ?_
    exact mi_sem_ret (cal := fun _ _ _ => none) mi_in98 (by rfl)
  · refine mi_met_of (y := 197) (q := (mi_h197, mi_c197)) rfl (by decide) (Nat.le_of_ble_eq_true rfl) ?_
    refine mi_sem_steps mi_in197 (mi_calok_none _ _) 2 _ (2, [(0, .ref 116), (1, .int a1), (2, .int 0), (3, .int 0)], [.int a1, .ref 116], (0, 0), mi_G) (by rfl) ?_
    have hM1212 : mi_Met mi_N0 3 mi_h190 [.ref 116, .int a1] mi_G (some (.int 1)) mi_G := by
      refine mi_met_of (y := 190) (q := (mi_h190, mi_c190)) rfl (by decide) (Nat.le_of_ble_eq_true rfl) ?_
      refine mi_sem_steps mi_in190 (mi_calok_none _ _) 1 _ (1, [(0, .ref 116), (1, .int a1)], [.int a1], (0, 0), mi_G) (by rfl) ?_
      refine mi_sem_b mi_in190 (decide (a1 < 0)) false (mi_ltF (0) (by decide) (by omega)) 28 4 ([(0, .ref 116), (1, .int a1)], [], (0, 0), mi_G) (by rfl) ?_
      refine mi_sem_steps mi_in190 (mi_calok_none _ _) 3 _ (8, [(0, .ref 116), (1, .int a1)], [.int ((a1 / 10))], (0, 0), mi_G) (by rfl) ?_
      refine mi_sem_eq (x1 := (8, [(0, .ref 116), (1, .int a1)], [.int 1], (0, 0), mi_G)) (by rw [q1]) ?_
      have hM1209 : mi_Met mi_N0 2 mi_h133 [.int 1] mi_G (some (.int 1)) mi_G := mi_fun_ok mi_N0 2 133 (mi_h133, mi_c133) _ _ _ _ rfl (mi_eR_ok (by decide +kernel))
      refine mi_sem_call mi_in190 (i := (.invokestatic 127, 3, 133, 0, 9, 0, 382)) (by rfl) (by rfl) hM1209 (by decide) ⟨Nat.le_of_ble_eq_true rfl, Nat.le_of_ble_eq_true rfl⟩ ?_
      refine mi_sem_steps mi_in190 (mi_calok_none _ _) 4 _ (18, [(0, .ref 116), (1, .int a1)], [.int ((a1 - a1 / 10 * 10))], (0, 0), mi_G) (by rfl) ?_
      have hM1211 : mi_Met mi_N0 2 mi_h133 [.int ((a1 - a1 / 10 * 10))] mi_G (some (.int 1)) mi_G := by
        refine mi_met_of (y := 133) (q := (mi_h133, mi_c133)) rfl (by decide) (Nat.le_of_ble_eq_true rfl) ?_
        refine mi_sem_steps mi_in133 (mi_calok_none _ _) 3 _ (3, [(0, .int ((a1 - a1 / 10 * 10)))], [.int 5, .int 0, .int ((a1 - a1 / 10 * 10))], (0, 0), mi_G) (by rfl) ?_
        have hM1210 : mi_Met mi_N0 1 mi_h131 [.int ((a1 - a1 / 10 * 10)), .int 0, .int 5] mi_G (some (.int 1)) mi_G := by
          refine mi_met_of (y := 131) (q := (mi_h131, mi_c131)) rfl (by decide) (Nat.le_of_ble_eq_true rfl) ?_
          refine mi_sem_steps mi_in131 (mi_calok_none _ _) 2 _ (2, [(0, .int ((a1 - a1 / 10 * 10))), (1, .int 0), (2, .int 5)], [.int 0, .int ((a1 - a1 / 10 * 10))], (0, 0), mi_G) (by rfl) ?_
          refine mi_sem_b mi_in131 (decide (((a1 - a1 / 10 * 10)) < 0)) false (mi_ltF (0) (by decide) (by omega)) 14 5 ([(0, .int ((a1 - a1 / 10 * 10))), (1, .int 0), (2, .int 5)], [], (0, 0), mi_G) (by rfl) ?_
          refine mi_sem_steps mi_in131 (mi_calok_none _ _) 2 _ (7, [(0, .int ((a1 - a1 / 10 * 10))), (1, .int 0), (2, .int 5)], [.int 5, .int ((a1 - a1 / 10 * 10))], (0, 0), mi_G) (by rfl) ?_
          refine mi_sem_b mi_in131 (decide (5 < ((a1 - a1 / 10 * 10)))) false (mi_ltF2 (5) (by decide) (by omega)) 14 10 ([(0, .int ((a1 - a1 / 10 * 10))), (1, .int 0), (2, .int 5)], [], (0, 0), mi_G) (by rfl) ?_
          refine mi_sem_steps mi_in131 (mi_calok_none _ _) 2 _ (15, [(0, .int ((a1 - a1 / 10 * 10))), (1, .int 0), (2, .int 5)], [.int 1], (0, 0), mi_G) (by rfl) ?_
          exact mi_sem_ret (cal := fun _ _ _ => none) mi_in131 (by rfl)
        refine mi_sem_call mi_in133 (i := (.invokestatic 119, 3, 131, 0, 9, 0, 379)) (by rfl) (by rfl) hM1210 (by decide) ⟨Nat.le_of_ble_eq_true rfl, Nat.le_of_ble_eq_true rfl⟩ ?_
        exact mi_sem_ret (cal := fun _ _ _ => none) mi_in133 (by rfl)
      refine mi_sem_call mi_in190 (i := (.invokestatic 127, 3, 133, 0, 9, 0, 382)) (by rfl) (by rfl) hM1211 (by decide) ⟨Nat.le_of_ble_eq_true rfl, Nat.le_of_ble_eq_true rfl⟩ ?_
      refine mi_sem_steps mi_in190 (mi_calok_none _ _) 3 _ (29, [(0, .ref 116), (1, .int a1)], [.int 1], (0, 0), mi_G) (by rfl) ?_
      exact mi_sem_ret (cal := fun _ _ _ => none) mi_in190 (by rfl)
    refine mi_sem_call mi_in197 (i := (.invokevirtual 314, 3, 190, 0, 9, 0, 442)) (by rfl) (by rfl) hM1212 (by decide) ⟨Nat.le_of_ble_eq_true rfl, Nat.le_of_ble_eq_true rfl⟩ ?_
    refine mi_sem_steps mi_in197 (mi_calok_none _ _) 4 _ (11, [(0, .ref 116), (1, .int a1), (2, .int 0), (3, .int 0)], [.int 3, .int 0, .int 0], (0, 0), mi_G) (by rfl) ?_
    have hM1213 : mi_Met mi_N0 1 mi_h131 [.int 0, .int 0, .int 3] mi_G (some (.int 1)) mi_G := mi_fun_ok mi_N0 1 131 (mi_h131, mi_c131) _ _ _ _ rfl (mi_eR_ok (by decide +kernel))
    refine mi_sem_call mi_in197 (i := (.invokestatic 119, 3, 131, 0, 9, 0, 379)) (by rfl) (by rfl) hM1213 (by decide) ⟨Nat.le_of_ble_eq_true rfl, Nat.le_of_ble_eq_true rfl⟩ ?_
    refine mi_sem_steps mi_in197 (mi_calok_none _ _) 12 _ (46, [(0, .ref 116), (1, .int a1), (2, .int 0), (3, .int 0)], [.int a1, .ref 116], (0, 0), mi_G) (by rfl) ?_
    have hM1215 : mi_Met mi_N0 2 mi_h191 [.ref 116, .int a1] mi_G (some (.int (-11))) mi_G := by
      refine mi_met_of (y := 191) (q := (mi_h191, mi_c191)) rfl (by decide) (Nat.le_of_ble_eq_true rfl) ?_
      refine mi_sem_steps mi_in191 (mi_calok_none _ _) 4 _ (5, [(0, .ref 116), (1, .int a1)], [.int ((a1 / 10)), .ref 116], (0, 0), mi_G) (by rfl) ?_
      refine mi_sem_eq (x1 := (5, [(0, .ref 116), (1, .int a1)], [.int 1, .ref 116], (0, 0), mi_G)) (by rw [q1]) ?_
      have hM1214 : mi_Met mi_N0 1 mi_h173 [.ref 116, .int 1] mi_G (some (.int (-11))) mi_G := mi_fun_ok mi_N0 1 173 (mi_h173, mi_c173) _ _ _ _ rfl (mi_eR_ok (by decide +kernel))
      refine mi_sem_call mi_in191 (i := (.invokevirtual 276, 3, 173, 0, 9, 0, 410)) (by rfl) (by rfl) hM1214 (by decide) ⟨Nat.le_of_ble_eq_true rfl, Nat.le_of_ble_eq_true rfl⟩ ?_
      refine mi_sem_steps mi_in191 (mi_calok_none _ _) 5 _ (25, [(2, .int (-11)), (0, .ref 116), (1, .int a1)], [.int (-11)], (0, 0), mi_G) (by rfl) ?_
      exact mi_sem_ret (cal := fun _ _ _ => none) mi_in191 (by rfl)
    refine mi_sem_call mi_in197 (i := (.invokevirtual 317, 3, 191, 0, 9, 0, 443)) (by rfl) (by rfl) hM1215 (by decide) ⟨Nat.le_of_ble_eq_true rfl, Nat.le_of_ble_eq_true rfl⟩ ?_
    refine mi_sem_steps mi_in197 (mi_calok_none _ _) 4 _ (58, [(4, .int (-11)), (0, .ref 116), (1, .int a1), (2, .int 0), (3, .int 0)], [.int (-11)], (0, 0), mi_G) (by rfl) ?_
    exact mi_sem_ret (cal := fun _ _ _ => none) mi_in197 (by rfl)

set_option maxRecDepth 100000 in
set_option maxHeartbeats 4000000 in
theorem mp_fits_7 (a1 : Int32) (r0 : 0 ≤ (a1).toInt ∧ (a1).toInt ≤ 2147483647) (q1 : (a1 / 10) = 2) (r2 : 0 ≤ ((a1 - a1 / 10 * 10)).toInt ∧ ((a1 - a1 / 10 * 10)).toInt ≤ 5) : mi_P 98 197 [.int a1, .int 0, .int 0] := by
  refine ⟨.int (-11), mi_G, mi_G, (mi_h98, mi_c98), (mi_h197, mi_c197), 5, 4, rfl, rfl, rfl, by decide, by decide, ?_, ?_⟩
  · refine mi_met_of (y := 98) (q := (mi_h98, mi_c98)) rfl (by decide) (Nat.le_of_ble_eq_true rfl) ?_
    refine mi_sem_steps mi_in98 (mi_calok_none _ _) 1 _ (1, [(0, .ref 0), (1, .int a1), (2, .int 0), (3, .int 0)], [.int a1], (0, 0), mi_G) (by rfl) ?_
    have hM1227 : mi_Met mi_N0 3 mi_h122 [.int a1] mi_G (some (.int 1)) mi_G := by
      refine mi_met_of (y := 122) (q := (mi_h122, mi_c122)) rfl (by decide) (Nat.le_of_ble_eq_true rfl) ?_
      refine mi_sem_steps mi_in122 (mi_calok_none _ _) 1 _ (1, [(0, .int a1)], [.int a1], (0, 0), mi_G) (by rfl) ?_
      refine mi_sem_b mi_in122 (decide (a1 < 0)) false (mi_ltF (0) (by decide) (by omega)) 28 4 ([(0, .int a1)], [], (0, 0), mi_G) (by rfl) ?_
      refine mi_sem_steps mi_in122 (mi_calok_none _ _) 3 _ (8, [(0, .int a1)], [.int ((a1 / 10))], (0, 0), mi_G) (by rfl) ?_
      refine mi_sem_eq (x1 := (8, [(0, .int a1)], [.int 2], (0, 0), mi_G)) (by rw [q1]) ?_
      have hM1224 : mi_Met mi_N0 2 mi_h121 [.int 2] mi_G (some (.int 1)) mi_G := mi_fun_ok mi_N0 2 121 (mi_h121, mi_c121) _ _ _ _ rfl (mi_eR_ok (by decide +kernel))
      refine mi_sem_call mi_in122 (i := (.invokestatic 70, 3, 121, 0, 9, 0, 157)) (by rfl) (by rfl) hM1224 (by decide) ⟨Nat.le_of_ble_eq_true rfl, Nat.le_of_ble_eq_true rfl⟩ ?_
      refine mi_sem_steps mi_in122 (mi_calok_none _ _) 4 _ (18, [(0, .int a1)], [.int ((a1 - a1 / 10 * 10))], (0, 0), mi_G) (by rfl) ?_
      have hM1226 : mi_Met mi_N0 2 mi_h121 [.int ((a1 - a1 / 10 * 10))] mi_G (some (.int 1)) mi_G := by
        refine mi_met_of (y := 121) (q := (mi_h121, mi_c121)) rfl (by decide) (Nat.le_of_ble_eq_true rfl) ?_
        refine mi_sem_steps mi_in121 (mi_calok_none _ _) 3 _ (3, [(0, .int ((a1 - a1 / 10 * 10)))], [.int 5, .int 0, .int ((a1 - a1 / 10 * 10))], (0, 0), mi_G) (by rfl) ?_
        have hM1225 : mi_Met mi_N0 1 mi_h120 [.int ((a1 - a1 / 10 * 10)), .int 0, .int 5] mi_G (some (.int 1)) mi_G := by
          refine mi_met_of (y := 120) (q := (mi_h120, mi_c120)) rfl (by decide) (Nat.le_of_ble_eq_true rfl) ?_
          refine mi_sem_steps mi_in120 (mi_calok_none _ _) 2 _ (2, [(0, .int ((a1 - a1 / 10 * 10))), (1, .int 0), (2, .int 5)], [.int 0, .int ((a1 - a1 / 10 * 10))], (0, 0), mi_G) (by rfl) ?_
          refine mi_sem_b mi_in120 (decide (((a1 - a1 / 10 * 10)) < 0)) false (mi_ltF (0) (by decide) (by omega)) 14 5 ([(0, .int ((a1 - a1 / 10 * 10))), (1, .int 0), (2, .int 5)], [], (0, 0), mi_G) (by rfl) ?_
          refine mi_sem_steps mi_in120 (mi_calok_none _ _) 2 _ (7, [(0, .int ((a1 - a1 / 10 * 10))), (1, .int 0), (2, .int 5)], [.int 5, .int ((a1 - a1 / 10 * 10))], (0, 0), mi_G) (by rfl) ?_
          refine mi_sem_b mi_in120 (decide (5 < ((a1 - a1 / 10 * 10)))) false (mi_ltF2 (5) (by decide) (by omega)) 14 10 ([(0, .int ((a1 - a1 / 10 * 10))), (1, .int 0), (2, .int 5)], [], (0, 0), mi_G) (by rfl) ?_
          refine mi_sem_steps mi_in120 (mi_calok_none _ _) 2 _ (15, [(0, .int ((a1 - a1 / 10 * 10))), (1, .int 0), (2, .int 5)], [.int 1], (0, 0), mi_G) (by rfl) ?_
          exact mi_sem_ret (cal := fun _ _ _ => none) mi_in120 (by rfl)
        refine mi_sem_call mi_in121 (i := (.invokestatic 74, 3, 120, 0, 9, 0, 152)) (by rfl) (by rfl) hM1225 (by decide) ⟨Nat.le_of_ble_eq_true rfl, Nat.le_of_ble_eq_true rfl⟩ ?_
        exact mi_sem_ret (cal := fun _ _ _ => none) mi_in121 (by rfl)
      refine mi_sem_call mi_in122 (i := (.invokestatic 70, 3, 121, 0, 9, 0, 157)) (by rfl) (by rfl) hM1226 (by decide) ⟨Nat.le_of_ble_eq_true rfl, Nat.le_of_ble_eq_true rfl⟩ ?_
      refine mi_sem_steps mi_in122 (mi_calok_none _ _) 3 _ (29, [(0, .int a1)], [.int 1], (0, 0), mi_G) (by rfl) ?_
      exact mi_sem_ret (cal := fun _ _ _ => none) mi_in122 (by rfl)
    refine mi_sem_call mi_in98 (i := (.invokestatic 214, 3, 122, 0, 9, 0, 260)) (by rfl) (by rfl) hM1227 (by decide) ⟨Nat.le_of_ble_eq_true rfl, Nat.le_of_ble_eq_true rfl⟩ ?_
    refine mi_sem_steps mi_in98 (mi_calok_none _ _) 4 _ (10, [(0, .ref 0), (1, .int a1), (2, .int 0), (3, .int 0)], [.int 3, .int 0, .int 0], (0, 0), mi_G) (by rfl) ?_
    have hM1228 : mi_Met mi_N0 1 mi_h120 [.int 0, .int 0, .int 3] mi_G (some (.int 1)) mi_G := mi_fun_ok mi_N0 1 120 (mi_h120, mi_c120) _ _ _ _ rfl (mi_eR_ok (by decide +kernel))
    refine mi_sem_call mi_in98 (i := (.invokestatic 74, 3, 120, 0, 9, 0, 152)) (by rfl) (by rfl) hM1228 (by decide) ⟨Nat.le_of_ble_eq_true rfl, Nat.le_of_ble_eq_true rfl⟩ ?_
    refine mi_sem_steps mi_in98 (mi_calok_none _ _) 14 _ (50, [(0, .ref 0), (1, .int a1), (2, .int 0), (3, .int 0)], [.int ((a1 / 10)), .ref 0], (0, 0), mi_G) (by rfl) ?_
    refine mi_sem_eq (x1 := (50, [(0, .ref 0), (1, .int a1), (2, .int 0), (3, .int 0)], [.int 2, .ref 0], (0, 0), mi_G)) (by rw [q1]) ?_
    have hM1229 : mi_Met mi_N0 4 mi_h129 [.ref 0, .int 2] mi_G (some (.int (-11))) mi_G := mi_fun_ok mi_N0 4 129 (mi_h129, mi_c129) _ _ _ _ rfl (mi_eR_ok (by decide +kernel))
    refine mi_sem_call mi_in98 (i := (.invokevirtual 144, 3, 129, 0, 9, 0, 208)) (by rfl) (by rfl) hM1229 (by decide) ⟨Nat.le_of_ble_eq_true rfl, Nat.le_of_ble_eq_true rfl⟩ ?_
    refine mi_sem_steps mi_in98 (mi_calok_none _ _) 4 _ (62, [(4, .int (-11)), (0, .ref 0), (1, .int a1), (2, .int 0), (3, .int 0)], [.int (-11)], (0, 0), mi_G) (by rfl) ?_
    exact mi_sem_ret (cal := fun _ _ _ => none) mi_in98 (by rfl)
  · refine mi_met_of (y := 197) (q := (mi_h197, mi_c197)) rfl (by decide) (Nat.le_of_ble_eq_true rfl) ?_
    refine mi_sem_steps mi_in197 (mi_calok_none _ _) 2 _ (2, [(0, .ref 116), (1, .int a1), (2, .int 0), (3, .int 0)], [.int a1, .ref 116], (0, 0), mi_G) (by rfl) ?_
    have hM1233 : mi_Met mi_N0 3 mi_h190 [.ref 116, .int a1] mi_G (some (.int 1)) mi_G := by
      refine mi_met_of (y := 190) (q := (mi_h190, mi_c190)) rfl (by decide) (Nat.le_of_ble_eq_true rfl) ?_
      refine mi_sem_steps mi_in190 (mi_calok_none _ _) 1 _ (1, [(0, .ref 116), (1, .int a1)], [.int a1], (0, 0), mi_G) (by rfl) ?_
      refine mi_sem_b mi_in190 (decide (a1 < 0)) false (mi_ltF (0) (by decide) (by omega)) 28 4 ([(0, .ref 116), (1, .int a1)], [], (0, 0), mi_G) (by rfl) ?_
      refine mi_sem_steps mi_in190 (mi_calok_none _ _) 3 _ (8, [(0, .ref 116), (1, .int a1)], [.int ((a1 / 10))], (0, 0), mi_G) (by rfl) ?_
      refine mi_sem_eq (x1 := (8, [(0, .ref 116), (1, .int a1)], [.int 2], (0, 0), mi_G)) (by rw [q1]) ?_
      have hM1230 : mi_Met mi_N0 2 mi_h133 [.int 2] mi_G (some (.int 1)) mi_G := mi_fun_ok mi_N0 2 133 (mi_h133, mi_c133) _ _ _ _ rfl (mi_eR_ok (by decide +kernel))
      refine mi_sem_call mi_in190 (i := (.invokestatic 127, 3, 133, 0, 9, 0, 382)) (by rfl) (by rfl) hM1230 (by decide) ⟨Nat.le_of_ble_eq_true rfl, Nat.le_of_ble_eq_true rfl⟩ ?_
      refine mi_sem_steps mi_in190 (mi_calok_none _ _) 4 _ (18, [(0, .ref 116), (1, .int a1)], [.int ((a1 - a1 / 10 * 10))], (0, 0), mi_G) (by rfl) ?_
      have hM1232 : mi_Met mi_N0 2 mi_h133 [.int ((a1 - a1 / 10 * 10))] mi_G (some (.int 1)) mi_G := by
        refine mi_met_of (y := 133) (q := (mi_h133, mi_c133)) rfl (by decide) (Nat.le_of_ble_eq_true rfl) ?_
        refine mi_sem_steps mi_in133 (mi_calok_none _ _) 3 _ (3, [(0, .int ((a1 - a1 / 10 * 10)))], [.int 5, .int 0, .int ((a1 - a1 / 10 * 10))], (0, 0), mi_G) (by rfl) ?_
        have hM1231 : mi_Met mi_N0 1 mi_h131 [.int ((a1 - a1 / 10 * 10)), .int 0, .int 5] mi_G (some (.int 1)) mi_G := by
          refine mi_met_of (y := 131) (q := (mi_h131, mi_c131)) rfl (by decide) (Nat.le_of_ble_eq_true rfl) ?_
          refine mi_sem_steps mi_in131 (mi_calok_none _ _) 2 _ (2, [(0, .int ((a1 - a1 / 10 * 10))), (1, .int 0), (2, .int 5)], [.int 0, .int ((a1 - a1 / 10 * 10))], (0, 0), mi_G) (by rfl) ?_
          refine mi_sem_b mi_in131 (decide (((a1 - a1 / 10 * 10)) < 0)) false (mi_ltF (0) (by decide) (by omega)) 14 5 ([(0, .int ((a1 - a1 / 10 * 10))), (1, .int 0), (2, .int 5)], [], (0, 0), mi_G) (by rfl) ?_
          refine mi_sem_steps mi_in131 (mi_calok_none _ _) 2 _ (7, [(0, .int ((a1 - a1 / 10 * 10))), (1, .int 0), (2, .int 5)], [.int 5, .int ((a1 - a1 / 10 * 10))], (0, 0), mi_G) (by rfl) ?_
          refine mi_sem_b mi_in131 (decide (5 < ((a1 - a1 / 10 * 10)))) false (mi_ltF2 (5) (by decide) (by omega)) 14 10 ([(0, .int ((a1 - a1 / 10 * 10))), (1, .int 0), (2, .int 5)], [], (0, 0), mi_G) (by rfl) ?_
          refine mi_sem_steps mi_in131 (mi_calok_none _ _) 2 _ (15, [(0, .int ((a1 - a1 / 10 * 10))), (1, .int 0), (2, .int 5)], [.int 1], (0, 0), mi_G) (by rfl) ?_
          exact mi_sem_ret (cal := fun _ _ _ => none) mi_in131 (by rfl)
        refine mi_sem_call mi_in133 (i := (.invokestatic 119, 3, 131, 0, 9, 0, 379)) (by rfl) (by rfl) hM1231 (by decide) ⟨Nat.le_of_ble_eq_true rfl, Nat.le_of_ble_eq_true rfl⟩ ?_
        exact mi_sem_ret (cal := fun _ _ _ => none) mi_in133 (by rfl)
      refine mi_sem_call mi_in190 (i := (.invokestatic 127, 3, 133, 0, 9, 0, 382)) (by rfl) (by rfl) hM1232 (by decide) ⟨Nat.le_of_ble_eq_true rfl, Nat.le_of_ble_eq_true rfl⟩ ?_
      refine mi_sem_steps mi_in190 (mi_calok_none _ _) 3 _ (29, [(0, .ref 116), (1, .int a1)], [.int 1], (0, 0), mi_G) (by rfl) ?_
      exact mi_sem_ret (cal := fun _ _ _ => none) mi_in190 (by rfl)
    refine mi_sem_call mi_in197 (i := (.invokevirtual 314, 3, 190, 0, 9, 0, 442)) (by rfl) (by rfl) hM1233 (by decide) ⟨Nat.le_of_ble_eq_true rfl, Nat.le_of_ble_eq_true rfl⟩ ?_
    refine mi_sem_steps mi_in197 (mi_calok_none _ _) 4 _ (11, [(0, .ref 116), (1, .int a1), (2, .int 0), (3, .int 0)], [.int 3, .int 0, .int 0], (0, 0), mi_G) (by rfl) ?_
    have hM1234 : mi_Met mi_N0 1 mi_h131 [.int 0, .int 0, .int 3] mi_G (some (.int 1)) mi_G := mi_fun_ok mi_N0 1 131 (mi_h131, mi_c131) _ _ _ _ rfl (mi_eR_ok (by decide +kernel))
    refine mi_sem_call mi_in197 (i := (.invokestatic 119, 3, 131, 0, 9, 0, 379)) (by rfl) (by rfl) hM1234 (by decide) ⟨Nat.le_of_ble_eq_true rfl, Nat.le_of_ble_eq_true rfl⟩ ?_
    refine mi_sem_steps mi_in197 (mi_calok_none _ _) 12 _ (46, [(0, .ref 116), (1, .int a1), (2, .int 0), (3, .int 0)], [.int a1, .ref 116], (0, 0), mi_G) (by rfl) ?_
    have hM1236 : mi_Met mi_N0 2 mi_h191 [.ref 116, .int a1] mi_G (some (.int (-11))) mi_G := by
      refine mi_met_of (y := 191) (q := (mi_h191, mi_c191)) rfl (by decide) (Nat.le_of_ble_eq_true rfl) ?_
      refine mi_sem_steps mi_in191 (mi_calok_none _ _) 4 _ (5, [(0, .ref 116), (1, .int a1)], [.int ((a1 / 10)), .ref 116], (0, 0), mi_G) (by rfl) ?_
      refine mi_sem_eq (x1 := (5, [(0, .ref 116), (1, .int a1)], [.int 2, .ref 116], (0, 0), mi_G)) (by rw [q1]) ?_
      have hM1235 : mi_Met mi_N0 1 mi_h173 [.ref 116, .int 2] mi_G (some (.int (-11))) mi_G := mi_fun_ok mi_N0 1 173 (mi_h173, mi_c173) _ _ _ _ rfl (mi_eR_ok (by decide +kernel))
      refine mi_sem_call mi_in191 (i := (.invokevirtual 276, 3, 173, 0, 9, 0, 410)) (by rfl) (by rfl) hM1235 (by decide) ⟨Nat.le_of_ble_eq_true rfl, Nat.le_of_ble_eq_true rfl⟩ ?_
      refine mi_sem_steps mi_in191 (mi_calok_none _ _) 5 _ (25, [(2, .int (-11)), (0, .ref 116), (1, .int a1)], [.int (-11)], (0, 0), mi_G) (by rfl) ?_
      exact mi_sem_ret (cal := fun _ _ _ => none) mi_in191 (by rfl)
    refine mi_sem_call mi_in197 (i := (.invokevirtual 317, 3, 191, 0, 9, 0, 443)) (by rfl) (by rfl) hM1236 (by decide) ⟨Nat.le_of_ble_eq_true rfl, Nat.le_of_ble_eq_true rfl⟩ ?_
    refine mi_sem_steps mi_in197 (mi_calok_none _ _) 4 _ (58, [(4, .int (-11)), (0, .ref 116), (1, .int a1), (2, .int 0), (3, .int 0)], [.int (-11)], (0, 0), mi_G) (by rfl) ?_
    exact mi_sem_ret (cal := fun _ _ _ => none) mi_in197 (by rfl)

set_option maxRecDepth 100000 in
set_option maxHeartbeats 4000000 in
theorem mp_fits_8 (a1 : Int32) (r0 : 0 ≤ (a1).toInt ∧ (a1).toInt ≤ 2147483647) (q1 : (a1 / 10) = 3) (r2 : 0 ≤ ((a1 - a1 / 10 * 10)).toInt ∧ ((a1 - a1 / 10 * 10)).toInt ≤ 5) : mi_P 98 197 [.int a1, .int 0, .int 0] := by
  refine ⟨.int (-11), mi_G, mi_G, (mi_h98, mi_c98), (mi_h197, mi_c197), 5, 4, rfl, rfl, rfl, by decide, by decide, ?_, ?_⟩
  · refine mi_met_of (y := 98) (q := (mi_h98, mi_c98)) rfl (by decide) (Nat.le_of_ble_eq_true rfl) ?_
    refine mi_sem_steps mi_in98 (mi_calok_none _ _) 1 _ (1, [(0, .ref 0), (1, .int a1), (2, .int 0), (3, .int 0)], [.int a1], (0, 0), mi_G) (by rfl) ?_
    have hM1248 : mi_Met mi_N0 3 mi_h122 [.int a1] mi_G (some (.int 1)) mi_G := by
      refine mi_met_of (y := 122) (q := (mi_h122, mi_c122)) rfl (by decide) (Nat.le_of_ble_eq_true rfl) ?_
      refine mi_sem_steps mi_in122 (mi_calok_none _ _) 1 _ (1, [(0, .int a1)], [.int a1], (0, 0), mi_G) (by rfl) ?_
      refine mi_sem_b mi_in122 (decide (a1 < 0)) false (mi_ltF (0) (by decide) (by omega)) 28 4 ([(0, .int a1)], [], (0, 0), mi_G) (by rfl) ?_
      refine mi_sem_steps mi_in122 (mi_calok_none _ _) 3 _ (8, [(0, .int a1)], [.int ((a1 / 10))], (0, 0), mi_G) (by rfl) ?_
      refine mi_sem_eq (x1 := (8, [(0, .int a1)], [.int 3], (0, 0), mi_G)) (by rw [q1]) ?_
      have hM1245 : mi_Met mi_N0 2 mi_h121 [.int 3] mi_G (some (.int 1)) mi_G := mi_fun_ok mi_N0 2 121 (mi_h121, mi_c121) _ _ _ _ rfl (mi_eR_ok (by decide +kernel))
      refine mi_sem_call mi_in122 (i := (.invokestatic 70, 3, 121, 0, 9, 0, 157)) (by rfl) (by rfl) hM1245 (by decide) ⟨Nat.le_of_ble_eq_true rfl, Nat.le_of_ble_eq_true rfl⟩ ?_
      refine mi_sem_steps mi_in122 (mi_calok_none _ _) 4 _ (18, [(0, .int a1)], [.int ((a1 - a1 / 10 * 10))], (0, 0), mi_G) (by rfl) ?_
      have hM1247 : mi_Met mi_N0 2 mi_h121 [.int ((a1 - a1 / 10 * 10))] mi_G (some (.int 1)) mi_G := by
        refine mi_met_of (y := 121) (q := (mi_h121, mi_c121)) rfl (by decide) (Nat.le_of_ble_eq_true rfl) ?_
        refine mi_sem_steps mi_in121 (mi_calok_none _ _) 3 _ (3, [(0, .int ((a1 - a1 / 10 * 10)))], [.int 5, .int 0, .int ((a1 - a1 / 10 * 10))], (0, 0), mi_G) (by rfl) ?_
        have hM1246 : mi_Met mi_N0 1 mi_h120 [.int ((a1 - a1 / 10 * 10)), .int 0, .int 5] mi_G (some (.int 1)) mi_G := by
          refine mi_met_of (y := 120) (q := (mi_h120, mi_c120)) rfl (by decide) (Nat.le_of_ble_eq_true rfl) ?_
          refine mi_sem_steps mi_in120 (mi_calok_none _ _) 2 _ (2, [(0, .int ((a1 - a1 / 10 * 10))), (1, .int 0), (2, .int 5)], [.int 0, .int ((a1 - a1 / 10 * 10))], (0, 0), mi_G) (by rfl) ?_
          refine mi_sem_b mi_in120 (decide (((a1 - a1 / 10 * 10)) < 0)) false (mi_ltF (0) (by decide) (by omega)) 14 5 ([(0, .int ((a1 - a1 / 10 * 10))), (1, .int 0), (2, .int 5)], [], (0, 0), mi_G) (by rfl) ?_
          refine mi_sem_steps mi_in120 (mi_calok_none _ _) 2 _ (7, [(0, .int ((a1 - a1 / 10 * 10))), (1, .int 0), (2, .int 5)], [.int 5, .int ((a1 - a1 / 10 * 10))], (0, 0), mi_G) (by rfl) ?_
          refine mi_sem_b mi_in120 (decide (5 < ((a1 - a1 / 10 * 10)))) false (mi_ltF2 (5) (by decide) (by omega)) 14 10 ([(0, .int ((a1 - a1 / 10 * 10))), (1, .int 0), (2, .int 5)], [], (0, 0), mi_G) (by rfl) ?_
          refine mi_sem_steps mi_in120 (mi_calok_none _ _) 2 _ (15, [(0, .int ((a1 - a1 / 10 * 10))), (1, .int 0), (2, .int 5)], [.int 1], (0, 0), mi_G) (by rfl) ?_
          exact mi_sem_ret (cal := fun _ _ _ => none) mi_in120 (by rfl)
        refine mi_sem_call mi_in121 (i := (.invokestatic 74, 3, 120, 0, 9, 0, 152)) (by rfl) (by rfl) hM1246 (by decide) ⟨Nat.le_of_ble_eq_true rfl, Nat.le_of_ble_eq_true rfl⟩ ?_
        exact mi_sem_ret (cal := fun _ _ _ => none) mi_in121 (by rfl)
      refine mi_sem_call mi_in122 (i := (.invokestatic 70, 3, 121, 0, 9, 0, 157)) (by rfl) (by rfl) hM1247 (by decide) ⟨Nat.le_of_ble_eq_true rfl, Nat.le_of_ble_eq_true rfl⟩ ?_
      refine mi_sem_steps mi_in122 (mi_calok_none _ _) 3 _ (29, [(0, .int a1)], [.int 1], (0, 0), mi_G) (by rfl) ?_
      exact mi_sem_ret (cal := fun _ _ _ => none) mi_in122 (by rfl)
    refine mi_sem_call mi_in98 (i := (.invokestatic 214, 3, 122, 0, 9, 0, 260)) (by rfl) (by rfl) hM1248 (by decide) ⟨Nat.le_of_ble_eq_true rfl, Nat.le_of_ble_eq_true rfl⟩ ?_
    refine mi_sem_steps mi_in98 (mi_calok_none _ _) 4 _ (10, [(0, .ref 0), (1, .int a1), (2, .int 0), (3, .int 0)], [.int 3, .int 0, .int 0], (0, 0), mi_G) (by rfl) ?_
    have hM1249 : mi_Met mi_N0 1 mi_h120 [.int 0, .int 0, .int 3] mi_G (some (.int 1)) mi_G := mi_fun_ok mi_N0 1 120 (mi_h120, mi_c120) _ _ _ _ rfl (mi_eR_ok (by decide +kernel))
    refine mi_sem_call mi_in98 (i := (.invokestatic 74, 3, 120, 0, 9, 0, 152)) (by rfl) (by rfl) hM1249 (by decide) ⟨Nat.le_of_ble_eq_true rfl, Nat.le_of_ble_eq_true rfl⟩ ?_
    refine mi_sem_steps mi_in98 (mi_calok_none _ _) 14 _ (50, [(0, .ref 0), (1, .int a1), (2, .int 0), (3, .int 0)], [.int ((a1 / 10)), .ref 0], (0, 0), mi_G) (by rfl) ?_
    refine mi_sem_eq (x1 := (50, [(0, .ref 0), (1, .int a1), (2, .int 0), (3, .int 0)], [.int 3, .ref 0], (0, 0), mi_G)) (by rw [q1]) ?_
    have hM1250 : mi_Met mi_N0 4 mi_h129 [.ref 0, .int 3] mi_G (some (.int (-11))) mi_G := mi_fun_ok mi_N0 4 129 (mi_h129, mi_c129) _ _ _ _ rfl (mi_eR_ok (by decide +kernel))
    refine mi_sem_call mi_in98 (i := (.invokevirtual 144, 3, 129, 0, 9, 0, 208)) (by rfl) (by rfl) hM1250 (by decide) ⟨Nat.le_of_ble_eq_true rfl, Nat.le_of_ble_eq_true rfl⟩ ?_
    refine mi_sem_steps mi_in98 (mi_calok_none _ _) 4 _ (62, [(4, .int (-11)), (0, .ref 0), (1, .int a1), (2, .int 0), (3, .int 0)], [.int (-11)], (0, 0), mi_G) (by rfl) ?_
    exact mi_sem_ret (cal := fun _ _ _ => none) mi_in98 (by rfl)
  · refine mi_met_of (y := 197) (q := (mi_h197, mi_c197)) rfl (by decide) (Nat.le_of_ble_eq_true rfl) ?_
    refine mi_sem_steps mi_in197 (mi_calok_none _ _) 2 _ (2, [(0, .ref 116), (1, .int a1), (2, .int 0), (3, .int 0)], [.int a1, .ref 116], (0, 0), mi_G) (by rfl) ?_
    have hM1254 : mi_Met mi_N0 3 mi_h190 [.ref 116, .int a1] mi_G (some (.int 1)) mi_G := by
      refine mi_met_of (y := 190) (q := (mi_h190, mi_c190)) rfl (by decide) (Nat.le_of_ble_eq_true rfl) ?_
      refine mi_sem_steps mi_in190 (mi_calok_none _ _) 1 _ (1, [(0, .ref 116), (1, .int a1)], [.int a1], (0, 0), mi_G) (by rfl) ?_
      refine mi_sem_b mi_in190 (decide (a1 < 0)) false (mi_ltF (0) (by decide) (by omega)) 28 4 ([(0, .ref 116), (1, .int a1)], [], (0, 0), mi_G) (by rfl) ?_
      refine mi_sem_steps mi_in190 (mi_calok_none _ _) 3 _ (8, [(0, .ref 116), (1, .int a1)], [.int ((a1 / 10))], (0, 0), mi_G) (by rfl) ?_
      refine mi_sem_eq (x1 := (8, [(0, .ref 116), (1, .int a1)], [.int 3], (0, 0), mi_G)) (by rw [q1]) ?_
      have hM1251 : mi_Met mi_N0 2 mi_h133 [.int 3] mi_G (some (.int 1)) mi_G := mi_fun_ok mi_N0 2 133 (mi_h133, mi_c133) _ _ _ _ rfl (mi_eR_ok (by decide +kernel))
      refine mi_sem_call mi_in190 (i := (.invokestatic 127, 3, 133, 0, 9, 0, 382)) (by rfl) (by rfl) hM1251 (by decide) ⟨Nat.le_of_ble_eq_true rfl, Nat.le_of_ble_eq_true rfl⟩ ?_
      refine mi_sem_steps mi_in190 (mi_calok_none _ _) 4 _ (18, [(0, .ref 116), (1, .int a1)], [.int ((a1 - a1 / 10 * 10))], (0, 0), mi_G) (by rfl) ?_
      have hM1253 : mi_Met mi_N0 2 mi_h133 [.int ((a1 - a1 / 10 * 10))] mi_G (some (.int 1)) mi_G := by
        refine mi_met_of (y := 133) (q := (mi_h133, mi_c133)) rfl (by decide) (Nat.le_of_ble_eq_true rfl) ?_
        refine mi_sem_steps mi_in133 (mi_calok_none _ _) 3 _ (3, [(0, .int ((a1 - a1 / 10 * 10)))], [.int 5, .int 0, .int ((a1 - a1 / 10 * 10))], (0, 0), mi_G) (by rfl) ?_
        have hM1252 : mi_Met mi_N0 1 mi_h131 [.int ((a1 - a1 / 10 * 10)), .int 0, .int 5] mi_G (some (.int 1)) mi_G := by
          refine mi_met_of (y := 131) (q := (mi_h131, mi_c131)) rfl (by decide) (Nat.le_of_ble_eq_true rfl) ?_
          refine mi_sem_steps mi_in131 (mi_calok_none _ _) 2 _ (2, [(0, .int ((a1 - a1 / 10 * 10))), (1, .int 0), (2, .int 5)], [.int 0, .int ((a1 - a1 / 10 * 10))], (0, 0), mi_G) (by rfl) ?_
          refine mi_sem_b mi_in131 (decide (((a1 - a1 / 10 * 10)) < 0)) false (mi_ltF (0) (by decide) (by omega)) 14 5 ([(0, .int ((a1 - a1 / 10 * 10))), (1, .int 0), (2, .int 5)], [], (0, 0), mi_G) (by rfl) ?_
          refine mi_sem_steps mi_in131 (mi_calok_none _ _) 2 _ (7, [(0, .int ((a1 - a1 / 10 * 10))), (1, .int 0), (2, .int 5)], [.int 5, .int ((a1 - a1 / 10 * 10))], (0, 0), mi_G) (by rfl) ?_
          refine mi_sem_b mi_in131 (decide (5 < ((a1 - a1 / 10 * 10)))) false (mi_ltF2 (5) (by decide) (by omega)) 14 10 ([(0, .int ((a1 - a1 / 10 * 10))), (1, .int 0), (2, .int 5)], [], (0, 0), mi_G) (by rfl) ?_
          refine mi_sem_steps mi_in131 (mi_calok_none _ _) 2 _ (15, [(0, .int ((a1 - a1 / 10 * 10))), (1, .int 0), (2, .int 5)], [.int 1], (0, 0), mi_G) (by rfl) ?_
          exact mi_sem_ret (cal := fun _ _ _ => none) mi_in131 (by rfl)
        refine mi_sem_call mi_in133 (i := (.invokestatic 119, 3, 131, 0, 9, 0, 379)) (by rfl) (by rfl) hM1252 (by decide) ⟨Nat.le_of_ble_eq_true rfl, Nat.le_of_ble_eq_true rfl⟩ ?_
        exact mi_sem_ret (cal := fun _ _ _ => none) mi_in133 (by rfl)
      refine mi_sem_call mi_in190 (i := (.invokestatic 127, 3, 133, 0, 9, 0, 382)) (by rfl) (by rfl) hM1253 (by decide) ⟨Nat.le_of_ble_eq_true rfl, Nat.le_of_ble_eq_true rfl⟩ ?_
      refine mi_sem_steps mi_in190 (mi_calok_none _ _) 3 _ (29, [(0, .ref 116), (1, .int a1)], [.int 1], (0, 0), mi_G) (by rfl) ?_
      exact mi_sem_ret (cal := fun _ _ _ => none) mi_in190 (by rfl)
    refine mi_sem_call mi_in197 (i := (.invokevirtual 314, 3, 190, 0, 9, 0, 442)) (by rfl) (by rfl) hM1254 (by decide) ⟨Nat.le_of_ble_eq_true rfl, Nat.le_of_ble_eq_true rfl⟩ ?_
    refine mi_sem_steps mi_in197 (mi_calok_none _ _) 4 _ (11, [(0, .ref 116), (1, .int a1), (2, .int 0), (3, .int 0)], [.int 3, .int 0, .int 0], (0, 0), mi_G) (by rfl) ?_
    have hM1255 : mi_Met mi_N0 1 mi_h131 [.int 0, .int 0, .int 3] mi_G (some (.int 1)) mi_G := mi_fun_ok mi_N0 1 131 (mi_h131, mi_c131) _ _ _ _ rfl (mi_eR_ok (by decide +kernel))
    refine mi_sem_call mi_in197 (i := (.invokestatic 119, 3, 131, 0, 9, 0, 379)) (by rfl) (by rfl) hM1255 (by decide) ⟨Nat.le_of_ble_eq_true rfl, Nat.le_of_ble_eq_true rfl⟩ ?_
    refine mi_sem_steps mi_in197 (mi_calok_none _ _) 12 _ (46, [(0, .ref 116), (1, .int a1), (2, .int 0), (3, .int 0)], [.int a1, .ref 116], (0, 0), mi_G) (by rfl) ?_
    have hM1257 : mi_Met mi_N0 2 mi_h191 [.ref 116, .int a1] mi_G (some (.int (-11))) mi_G := by
      refine mi_met_of (y := 191) (q := (mi_h191, mi_c191)) rfl (by decide) (Nat.le_of_ble_eq_true rfl) ?_
      refine mi_sem_steps mi_in191 (mi_calok_none _ _) 4 _ (5, [(0, .ref 116), (1, .int a1)], [.int ((a1 / 10)), .ref 116], (0, 0), mi_G) (by rfl) ?_
      refine mi_sem_eq (x1 := (5, [(0, .ref 116), (1, .int a1)], [.int 3, .ref 116], (0, 0), mi_G)) (by rw [q1]) ?_
      have hM1256 : mi_Met mi_N0 1 mi_h173 [.ref 116, .int 3] mi_G (some (.int (-11))) mi_G := mi_fun_ok mi_N0 1 173 (mi_h173, mi_c173) _ _ _ _ rfl (mi_eR_ok (by decide +kernel))
      refine mi_sem_call mi_in191 (i := (.invokevirtual 276, 3, 173, 0, 9, 0, 410)) (by rfl) (by rfl) hM1256 (by decide) ⟨Nat.le_of_ble_eq_true rfl, Nat.le_of_ble_eq_true rfl⟩ ?_
      refine mi_sem_steps mi_in191 (mi_calok_none _ _) 5 _ (25, [(2, .int (-11)), (0, .ref 116), (1, .int a1)], [.int (-11)], (0, 0), mi_G) (by rfl) ?_
      exact mi_sem_ret (cal := fun _ _ _ => none) mi_in191 (by rfl)
    refine mi_sem_call mi_in197 (i := (.invokevirtual 317, 3, 191, 0, 9, 0, 443)) (by rfl) (by rfl) hM1257 (by decide) ⟨Nat.le_of_ble_eq_true rfl, Nat.le_of_ble_eq_true rfl⟩ ?_
    refine mi_sem_steps mi_in197 (mi_calok_none _ _) 4 _ (58, [(4, .int (-11)), (0, .ref 116), (1, .int a1), (2, .int 0), (3, .int 0)], [.int (-11)], (0, 0), mi_G) (by rfl) ?_
    exact mi_sem_ret (cal := fun _ _ _ => none) mi_in197 (by rfl)

set_option maxRecDepth 100000 in
set_option maxHeartbeats 4000000 in
theorem mp_fits_9 (a1 : Int32) (r0 : 0 ≤ (a1).toInt ∧ (a1).toInt ≤ 2147483647) (q1 : (a1 / 10) = 4) (r2 : 0 ≤ ((a1 - a1 / 10 * 10)).toInt ∧ ((a1 - a1 / 10 * 10)).toInt ≤ 5) : mi_P 98 197 [.int a1, .int 0, .int 0] := by
  refine ⟨.int (-11), mi_G, mi_G, (mi_h98, mi_c98), (mi_h197, mi_c197), 5, 4, rfl, rfl, rfl, by decide, by decide, ?_, ?_⟩
  · refine mi_met_of (y := 98) (q := (mi_h98, mi_c98)) rfl (by decide) (Nat.le_of_ble_eq_true rfl) ?_
    refine mi_sem_steps mi_in98 (mi_calok_none _ _) 1 _ (1, [(0, .ref 0), (1, .int a1), (2, .int 0), (3, .int 0)], [.int a1], (0, 0), mi_G) (by rfl) ?_
    have hM1269 : mi_Met mi_N0 3 mi_h122 [.int a1] mi_G (some (.int 1)) mi_G := by
      refine mi_met_of (y := 122) (q := (mi_h122, mi_c122)) rfl (by decide) (Nat.le_of_ble_eq_true rfl) ?_
      refine mi_sem_steps mi_in122 (mi_calok_none _ _) 1 _ (1, [(0, .int a1)], [.int a1], (0, 0), mi_G) (by rfl) ?_
      refine mi_sem_b mi_in122 (decide (a1 < 0)) false (mi_ltF (0) (by decide) (by omega)) 28 4 ([(0, .int a1)], [], (0, 0), mi_G) (by rfl) ?_
      refine mi_sem_steps mi_in122 (mi_calok_none _ _) 3 _ (8, [(0, .int a1)], [.int ((a1 / 10))], (0, 0), mi_G) (by rfl) ?_
      refine mi_sem_eq (x1 := (8, [(0, .int a1)], [.int 4], (0, 0), mi_G)) (by rw [q1]) ?_
      have hM1266 : mi_Met mi_N0 2 mi_h121 [.int 4] mi_G (some (.int 1)) mi_G := mi_fun_ok mi_N0 2 121 (mi_h121, mi_c121) _ _ _ _ rfl (mi_eR_ok (by decide +kernel))
      refine mi_sem_call mi_in122 (i := (.invokestatic 70, 3, 121, 0, 9, 0, 157)) (by rfl) (by rfl) hM1266 (by decide) ⟨Nat.le_of_ble_eq_true rfl, Nat.le_of_ble_eq_true rfl⟩ ?_
      refine mi_sem_steps mi_in122 (mi_calok_none _ _) 4 _ (18, [(0, .int a1)], [.int ((a1 - a1 / 10 * 10))], (0, 0), mi_G) (by rfl) ?_
      have hM1268 : mi_Met mi_N0 2 mi_h121 [.int ((a1 - a1 / 10 * 10))] mi_G (some (.int 1)) mi_G := by
        refine mi_met_of (y := 121) (q := (mi_h121, mi_c121)) rfl (by decide) (Nat.le_of_ble_eq_true rfl) ?_
        refine mi_sem_steps mi_in121 (mi_calok_none _ _) 3 _ (3, [(0, .int ((a1 - a1 / 10 * 10)))], [.int 5, .int 0, .int ((a1 - a1 / 10 * 10))], (0, 0), mi_G) (by rfl) ?_
        have hM1267 : mi_Met mi_N0 1 mi_h120 [.int ((a1 - a1 / 10 * 10)), .int 0, .int 5] mi_G (some (.int 1)) mi_G := by
          refine mi_met_of (y := 120) (q := (mi_h120, mi_c120)) rfl (by decide) (Nat.le_of_ble_eq_true rfl) ?_
          refine mi_sem_steps mi_in120 (mi_calok_none _ _) 2 _ (2, [(0, .int ((a1 - a1 / 10 * 10))), (1, .int 0), (2, .int 5)], [.int 0, .int ((a1 - a1 / 10 * 10))], (0, 0), mi_G) (by rfl) ?_
          refine mi_sem_b mi_in120 (decide (((a1 - a1 / 10 * 10)) < 0)) false (mi_ltF (0) (by decide) (by omega)) 14 5 ([(0, .int ((a1 - a1 / 10 * 10))), (1, .int 0), (2, .int 5)], [], (0, 0), mi_G) (by rfl) ?_
          refine mi_sem_steps mi_in120 (mi_calok_none _ _) 2 _ (7, [(0, .int ((a1 - a1 / 10 * 10))), (1, .int 0), (2, .int 5)], [.int 5, .int ((a1 - a1 / 10 * 10))], (0, 0), mi_G) (by rfl) ?_
          refine mi_sem_b mi_in120 (decide (5 < ((a1 - a1 / 10 * 10)))) false (mi_ltF2 (5) (by decide) (by omega)) 14 10 ([(0, .int ((a1 - a1 / 10 * 10))), (1, .int 0), (2, .int 5)], [], (0, 0), mi_G) (by rfl) ?_
          refine mi_sem_steps mi_in120 (mi_calok_none _ _) 2 _ (15, [(0, .int ((a1 - a1 / 10 * 10))), (1, .int 0), (2, .int 5)], [.int 1], (0, 0), mi_G) (by rfl) ?_
          exact mi_sem_ret (cal := fun _ _ _ => none) mi_in120 (by rfl)
        refine mi_sem_call mi_in121 (i := (.invokestatic 74, 3, 120, 0, 9, 0, 152)) (by rfl) (by rfl) hM1267 (by decide) ⟨Nat.le_of_ble_eq_true rfl, Nat.le_of_ble_eq_true rfl⟩ ?_
        exact mi_sem_ret (cal := fun _ _ _ => none) mi_in121 (by rfl)
      refine mi_sem_call mi_in122 (i := (.invokestatic 70, 3, 121, 0, 9, 0, 157)) (by rfl) (by rfl) hM1268 (by decide) ⟨Nat.le_of_ble_eq_true rfl, Nat.le_of_ble_eq_true rfl⟩ ?_
      refine mi_sem_steps mi_in122 (mi_calok_none _ _) 3 _ (29, [(0, .int a1)], [.int 1], (0, 0), mi_G) (by rfl) ?_
      exact mi_sem_ret (cal := fun _ _ _ => none) mi_in122 (by rfl)
    refine mi_sem_call mi_in98 (i := (.invokestatic 214, 3, 122, 0, 9, 0, 260)) (by rfl) (by rfl) hM1269 (by decide) ⟨Nat.le_of_ble_eq_true rfl, Nat.le_of_ble_eq_true rfl⟩ ?_
    refine mi_sem_steps mi_in98 (mi_calok_none _ _) 4 _ (10, [(0, .ref 0), (1, .int a1), (2, .int 0), (3, .int 0)], [.int 3, .int 0, .int 0], (0, 0), mi_G) (by rfl) ?_
    have hM1270 : mi_Met mi_N0 1 mi_h120 [.int 0, .int 0, .int 3] mi_G (some (.int 1)) mi_G := mi_fun_ok mi_N0 1 120 (mi_h120, mi_c120) _ _ _ _ rfl (mi_eR_ok (by decide +kernel))
    refine mi_sem_call mi_in98 (i := (.invokestatic 74, 3, 120, 0, 9, 0, 152)) (by rfl) (by rfl) hM1270 (by decide) ⟨Nat.le_of_ble_eq_true rfl, Nat.le_of_ble_eq_true rfl⟩ ?_
    refine mi_sem_steps mi_in98 (mi_calok_none _ _) 14 _ (50, [(0, .ref 0), (1, .int a1), (2, .int 0), (3, .int 0)], [.int ((a1 / 10)), .ref 0], (0, 0), mi_G) (by rfl) ?_
    refine mi_sem_eq (x1 := (50, [(0, .ref 0), (1, .int a1), (2, .int 0), (3, .int 0)], [.int 4, .ref 0], (0, 0), mi_G)) (by rw [q1]) ?_
    have hM1271 : mi_Met mi_N0 4 mi_h129 [.ref 0, .int 4] mi_G (some (.int (-11))) mi_G := mi_fun_ok mi_N0 4 129 (mi_h129, mi_c129) _ _ _ _ rfl (mi_eR_ok (by decide +kernel))
    refine mi_sem_call mi_in98 (i := (.invokevirtual 144, 3, 129, 0, 9, 0, 208)) (by rfl) (by rfl) hM1271 (by decide) ⟨Nat.le_of_ble_eq_true rfl, Nat.le_of_ble_eq_true rfl⟩ ?_
    refine mi_sem_steps mi_in98 (mi_calok_none _ _) 4 _ (62, [(4, .int (-11)), (0, .ref 0), (1, .int a1), (2, .int 0), (3, .int 0)], [.int (-11)], (0, 0), mi_G) (by rfl) ?_
    exact mi_sem_ret (cal := fun _ _ _ => none) mi_in98 (by rfl)
  · refine mi_met_of (y := 197) (q := (mi_h197, mi_c197)) rfl (by decide) (Nat.le_of_ble_eq_true rfl) ?_
    refine mi_sem_steps mi_in197 (mi_calok_none _ _) 2 _ (2, [(0, .ref 116), (1, .int a1), (2, .int 0), (3, .int 0)], [.int a1, .ref 116], (0, 0), mi_G) (by rfl) ?_
    have hM1275 : mi_Met mi_N0 3 mi_h190 [.ref 116, .int a1] mi_G (some (.int 1)) mi_G := by
      refine mi_met_of (y := 190) (q := (mi_h190, mi_c190)) rfl (by decide) (Nat.le_of_ble_eq_true rfl) ?_
      refine mi_sem_steps mi_in190 (mi_calok_none _ _) 1 _ (1, [(0, .ref 116), (1, .int a1)], [.int a1], (0, 0), mi_G) (by rfl) ?_
      refine mi_sem_b mi_in190 (decide (a1 < 0)) false (mi_ltF (0) (by decide) (by omega)) 28 4 ([(0, .ref 116), (1, .int a1)], [], (0, 0), mi_G) (by rfl) ?_
      refine mi_sem_steps mi_in190 (mi_calok_none _ _) 3 _ (8, [(0, .ref 116), (1, .int a1)], [.int ((a1 / 10))], (0, 0), mi_G) (by rfl) ?_
      refine mi_sem_eq (x1 := (8, [(0, .ref 116), (1, .int a1)], [.int 4], (0, 0), mi_G)) (by rw [q1]) ?_
      have hM1272 : mi_Met mi_N0 2 mi_h133 [.int 4] mi_G (some (.int 1)) mi_G := mi_fun_ok mi_N0 2 133 (mi_h133, mi_c133) _ _ _ _ rfl (mi_eR_ok (by decide +kernel))
      refine mi_sem_call mi_in190 (i := (.invokestatic 127, 3, 133, 0, 9, 0, 382)) (by rfl) (by rfl) hM1272 (by decide) ⟨Nat.le_of_ble_eq_true rfl, Nat.le_of_ble_eq_true rfl⟩ ?_
      refine mi_sem_steps mi_in190 (mi_calok_none _ _) 4 _ (18, [(0, .ref 116), (1, .int a1)], [.int ((a1 - a1 / 10 * 10))], (0, 0), mi_G) (by rfl) ?_
      have hM1274 : mi_Met mi_N0 2 mi_h133 [.int ((a1 - a1 / 10 * 10))] mi_G (some (.int 1)) mi_G := by
        refine mi_met_of (y := 133) (q := (mi_h133, mi_c133)) rfl (by decide) (Nat.le_of_ble_eq_true rfl) ?_
        refine mi_sem_steps mi_in133 (mi_calok_none _ _) 3 _ (3, [(0, .int ((a1 - a1 / 10 * 10)))], [.int 5, .int 0, .int ((a1 - a1 / 10 * 10))], (0, 0), mi_G) (by rfl) ?_
        have hM1273 : mi_Met mi_N0 1 mi_h131 [.int ((a1 - a1 / 10 * 10)), .int 0, .int 5] mi_G (some (.int 1)) mi_G := by
          refine mi_met_of (y := 131) (q := (mi_h131, mi_c131)) rfl (by decide) (Nat.le_of_ble_eq_true rfl) ?_
          refine mi_sem_steps mi_in131 (mi_calok_none _ _) 2 _ (2, [(0, .int ((a1 - a1 / 10 * 10))), (1, .int 0), (2, .int 5)], [.int 0, .int ((a1 - a1 / 10 * 10))], (0, 0), mi_G) (by rfl) ?_
          refine mi_sem_b mi_in131 (decide (((a1 - a1 / 10 * 10)) < 0)) false (mi_ltF (0) (by decide) (by omega)) 14 5 ([(0, .int ((a1 - a1 / 10 * 10))), (1, .int 0), (2, .int 5)], [], (0, 0), mi_G) (by rfl) ?_
          refine mi_sem_steps mi_in131 (mi_calok_none _ _) 2 _ (7, [(0, .int ((a1 - a1 / 10 * 10))), (1, .int 0), (2, .int 5)], [.int 5, .int ((a1 - a1 / 10 * 10))], (0, 0), mi_G) (by rfl) ?_
          refine mi_sem_b mi_in131 (decide (5 < ((a1 - a1 / 10 * 10)))) false (mi_ltF2 (5) (by decide) (by omega)) 14 10 ([(0, .int ((a1 - a1 / 10 * 10))), (1, .int 0), (2, .int 5)], [], (0, 0), mi_G) (by rfl) ?_
          refine mi_sem_steps mi_in131 (mi_calok_none _ _) 2 _ (15, [(0, .int ((a1 - a1 / 10 * 10))), (1, .int 0), (2, .int 5)], [.int 1], (0, 0), mi_G) (by rfl) ?_
          exact mi_sem_ret (cal := fun _ _ _ => none) mi_in131 (by rfl)
        refine mi_sem_call mi_in133 (i := (.invokestatic 119, 3, 131, 0, 9, 0, 379)) (by rfl) (by rfl) hM1273 (by decide) ⟨Nat.le_of_ble_eq_true rfl, Nat.le_of_ble_eq_true rfl⟩ ?_
        exact mi_sem_ret (cal := fun _ _ _ => none) mi_in133 (by rfl)
      refine mi_sem_call mi_in190 (i := (.invokestatic 127, 3, 133, 0, 9, 0, 382)) (by rfl) (by rfl) hM1274 (by decide) ⟨Nat.le_of_ble_eq_true rfl, Nat.le_of_ble_eq_true rfl⟩ ?_
      refine mi_sem_steps mi_in190 (mi_calok_none _ _) 3 _ (29, [(0, .ref 116), (1, .int a1)], [.int 1], (0, 0), mi_G) (by rfl) ?_
      exact mi_sem_ret (cal := fun _ _ _ => none) mi_in190 (by rfl)
    refine mi_sem_call mi_in197 (i := (.invokevirtual 314, 3, 190, 0, 9, 0, 442)) (by rfl) (by rfl) hM1275 (by decide) ⟨Nat.le_of_ble_eq_true rfl, Nat.le_of_ble_eq_true rfl⟩ ?_
    refine mi_sem_steps mi_in197 (mi_calok_none _ _) 4 _ (11, [(0, .ref 116), (1, .int a1), (2, .int 0), (3, .int 0)], [.int 3, .int 0, .int 0], (0, 0), mi_G) (by rfl) ?_
    have hM1276 : mi_Met mi_N0 1 mi_h131 [.int 0, .int 0, .int 3] mi_G (some (.int 1)) mi_G := mi_fun_ok mi_N0 1 131 (mi_h131, mi_c131) _ _ _ _ rfl (mi_eR_ok (by decide +kernel))
    refine mi_sem_call mi_in197 (i := (.invokestatic 119, 3, 131, 0, 9, 0, 379)) (by rfl) (by rfl) hM1276 (by decide) ⟨Nat.le_of_ble_eq_true rfl, Nat.le_of_ble_eq_true rfl⟩ ?_
    refine mi_sem_steps mi_in197 (mi_calok_none _ _) 12 _ (46, [(0, .ref 116), (1, .int a1), (2, .int 0), (3, .int 0)], [.int a1, .ref 116], (0, 0), mi_G) (by rfl) ?_
    have hM1278 : mi_Met mi_N0 2 mi_h191 [.ref 116, .int a1] mi_G (some (.int (-11))) mi_G := by
      refine mi_met_of (y := 191) (q := (mi_h191, mi_c191)) rfl (by decide) (Nat.le_of_ble_eq_true rfl) ?_
      refine mi_sem_steps mi_in191 (mi_calok_none _ _) 4 _ (5, [(0, .ref 116), (1, .int a1)], [.int ((a1 / 10)), .ref 116], (0, 0), mi_G) (by rfl) ?_
      refine mi_sem_eq (x1 := (5, [(0, .ref 116), (1, .int a1)], [.int 4, .ref 116], (0, 0), mi_G)) (by rw [q1]) ?_
      have hM1277 : mi_Met mi_N0 1 mi_h173 [.ref 116, .int 4] mi_G (some (.int (-11))) mi_G := mi_fun_ok mi_N0 1 173 (mi_h173, mi_c173) _ _ _ _ rfl (mi_eR_ok (by decide +kernel))
      refine mi_sem_call mi_in191 (i := (.invokevirtual 276, 3, 173, 0, 9, 0, 410)) (by rfl) (by rfl) hM1277 (by decide) ⟨Nat.le_of_ble_eq_true rfl, Nat.le_of_ble_eq_true rfl⟩ ?_
      refine mi_sem_steps mi_in191 (mi_calok_none _ _) 5 _ (25, [(2, .int (-11)), (0, .ref 116), (1, .int a1)], [.int (-11)], (0, 0), mi_G) (by rfl) ?_
      exact mi_sem_ret (cal := fun _ _ _ => none) mi_in191 (by rfl)
    refine mi_sem_call mi_in197 (i := (.invokevirtual 317, 3, 191, 0, 9, 0, 443)) (by rfl) (by rfl) hM1278 (by decide) ⟨Nat.le_of_ble_eq_true rfl, Nat.le_of_ble_eq_true rfl⟩ ?_
    refine mi_sem_steps mi_in197 (mi_calok_none _ _) 4 _ (58, [(4, .int (-11)), (0, .ref 116), (1, .int a1), (2, .int 0), (3, .int 0)], [.int (-11)], (0, 0), mi_G) (by rfl) ?_
    exact mi_sem_ret (cal := fun _ _ _ => none) mi_in197 (by rfl)

set_option maxRecDepth 100000 in
set_option maxHeartbeats 4000000 in
theorem mp_fits_10 (a1 : Int32) (r0 : 0 ≤ (a1).toInt ∧ (a1).toInt ≤ 2147483647) (q1 : (a1 / 10) = 5) (r2 : 0 ≤ ((a1 - a1 / 10 * 10)).toInt ∧ ((a1 - a1 / 10 * 10)).toInt ≤ 5) : mi_P 98 197 [.int a1, .int 0, .int 0] := by
  refine ⟨.int (-11), mi_G, mi_G, (mi_h98, mi_c98), (mi_h197, mi_c197), 5, 4, rfl, rfl, rfl, by decide, by decide, ?_, ?_⟩
  · refine mi_met_of (y := 98) (q := (mi_h98, mi_c98)) rfl (by decide) (Nat.le_of_ble_eq_true rfl) ?_
    refine mi_sem_steps mi_in98 (mi_calok_none _ _) 1 _ (1, [(0, .ref 0), (1, .int a1), (2, .int 0), (3, .int 0)], [.int a1], (0, 0), mi_G) (by rfl) ?_
    have hM1282 : mi_Met mi_N0 3 mi_h122 [.int a1] mi_G (some (.int 1)) mi_G := by
      refine mi_met_of (y := 122) (q := (mi_h122, mi_c122)) rfl (by decide) (Nat.le_of_ble_eq_true rfl) ?_
      refine mi_sem_steps mi_in122 (mi_calok_none _ _) 1 _ (1, [(0, .int a1)], [.int a1], (0, 0), mi_G) (by rfl) ?_
      refine mi_sem_b mi_in122 (decide (a1 < 0)) false (mi_ltF (0) (by decide) (by omega)) 28 4 ([(0, .int a1)], [], (0, 0), mi_G) (by rfl) ?_
      refine mi_sem_steps mi_in122 (mi_calok_none _ _) 3 _ (8, [(0, .int a1)], [.int ((a1 / 10))], (0, 0), mi_G) (by rfl) ?_
      refine mi_sem_eq (x1 := (8, [(0, .int a1)], [.int 5], (0, 0), mi_G)) (by rw [q1]) ?_
      have hM1279 : mi_Met mi_N0 2 mi_h121 [.int 5] mi_G (some (.int 1)) mi_G := mi_fun_ok mi_N0 2 121 (mi_h121, mi_c121) _ _ _ _ rfl (mi_eR_ok (by decide +kernel))
      refine mi_sem_call mi_in122 (i := (.invokestatic 70, 3, 121, 0, 9, 0, 157)) (by rfl) (by rfl) hM1279 (by decide) ⟨Nat.le_of_ble_eq_true rfl, Nat.le_of_ble_eq_true rfl⟩ ?_
      refine mi_sem_steps mi_in122 (mi_calok_none _ _) 4 _ (18, [(0, .int a1)], [.int ((a1 - a1 / 10 * 10))], (0, 0), mi_G) (by rfl) ?_
      have hM1281 : mi_Met mi_N0 2 mi_h121 [.int ((a1 - a1 / 10 * 10))] mi_G (some (.int 1)) mi_G := by
        refine mi_met_of (y := 121) (q := (mi_h121, mi_c121)) rfl (by decide) (Nat.le_of_ble_eq_true rfl) ?_
        refine mi_sem_steps mi_in121 (mi_calok_none _ _) 3 _ (3, [(0, .int ((a1 - a1 / 10 * 10)))], [.int 5, .int 0, .int ((a1 - a1 / 10 * 10))], (0, 0), mi_G) (by rfl) ?_
        have hM1280 : mi_Met mi_N0 1 mi_h120 [.int ((a1 - a1 / 10 * 10)), .int 0, .int 5] mi_G (some (.int 1)) mi_G := by
          refine mi_met_of (y := 120) (q := (mi_h120, mi_c120)) rfl (by decide) (Nat.le_of_ble_eq_true rfl) ?_
          refine mi_sem_steps mi_in120 (mi_calok_none _ _) 2 _ (2, [(0, .int ((a1 - a1 / 10 * 10))), (1, .int 0), (2, .int 5)], [.int 0, .int ((a1 - a1 / 10 * 10))], (0, 0), mi_G) (by rfl) ?_
          refine mi_sem_b mi_in120 (decide (((a1 - a1 / 10 * 10)) < 0)) false (mi_ltF (0) (by decide) (by omega)) 14 5 ([(0, .int ((a1 - a1 / 10 * 10))), (1, .int 0), (2, .int 5)], [], (0, 0), mi_G) (by rfl) ?_
          refine mi_sem_steps mi_in120 (mi_calok_none _ _) 2 _ (7, [(0, .int ((a1 - a1 / 10 * 10))), (1, .int 0), (2, .int 5)], [.int 5, .int ((a1 - a1 / 10 * 10))], (0, 0), mi_G) (by rfl) ?_
          refine mi_sem_b mi_in120 (decide (5 < ((a1 - a1 / 10 * 10)))) false (mi_ltF2 (5) (by decide) (by omega)) 14 10 ([(0, .int ((a1 - a1 / 10 * 10))), (1, .int 0), (2, .int 5)], [], (0, 0), mi_G) (by rfl) ?_
          refine mi_sem_steps mi_in120 (mi_calok_none _ _) 2 _ (15, [(0, .int ((a1 - a1 / 10 * 10))), (1, .int 0), (2, .int 5)], [.int 1], (0, 0), mi_G) (by rfl) ?_
          exact mi_sem_ret (cal := fun _ _ _ => none) mi_in120 (by rfl)
        refine mi_sem_call mi_in121 (i := (.invokestatic 74, 3, 120, 0, 9, 0, 152)) (by rfl) (by rfl) hM1280 (by decide) ⟨Nat.le_of_ble_eq_true rfl, Nat.le_of_ble_eq_true rfl⟩ ?_
        exact mi_sem_ret (cal := fun _ _ _ => none) mi_in121 (by rfl)
      refine mi_sem_call mi_in122 (i := (.invokestatic 70, 3, 121, 0, 9, 0, 157)) (by rfl) (by rfl) hM1281 (by decide) ⟨Nat.le_of_ble_eq_true rfl, Nat.le_of_ble_eq_true rfl⟩ ?_
      refine mi_sem_steps mi_in122 (mi_calok_none _ _) 3 _ (29, [(0, .int a1)], [.int 1], (0, 0), mi_G) (by rfl) ?_
      exact mi_sem_ret (cal := fun _ _ _ => none) mi_in122 (by rfl)
    refine mi_sem_call mi_in98 (i := (.invokestatic 214, 3, 122, 0, 9, 0, 260)) (by rfl) (by rfl) hM1282 (by decide) ⟨Nat.le_of_ble_eq_true rfl, Nat.le_of_ble_eq_true rfl⟩ ?_
    refine mi_sem_steps mi_in98 (mi_calok_none _ _) 4 _ (10, [(0, .ref 0), (1, .int a1), (2, .int 0), (3, .int 0)], [.int 3, .int 0, .int 0], (0, 0), mi_G) (by rfl) ?_
    have hM1283 : mi_Met mi_N0 1 mi_h120 [.int 0, .int 0, .int 3] mi_G (some (.int 1)) mi_G := mi_fun_ok mi_N0 1 120 (mi_h120, mi_c120) _ _ _ _ rfl (mi_eR_ok (by decide +kernel))
    refine mi_sem_call mi_in98 (i := (.invokestatic 74, 3, 120, 0, 9, 0, 152)) (by rfl) (by rfl) hM1283 (by decide) ⟨Nat.le_of_ble_eq_true rfl, Nat.le_of_ble_eq_true rfl⟩ ?_
    refine mi_sem_steps mi_in98 (mi_calok_none _ _) 14 _ (50, [(0, .ref 0), (1, .int a1), (2, .int 0), (3, .int 0)], [.int ((a1 / 10)), .ref 0], (0, 0), mi_G) (by rfl) ?_
    refine mi_sem_eq (x1 := (50, [(0, .ref 0), (1, .int a1), (2, .int 0), (3, .int 0)], [.int 5, .ref 0], (0, 0), mi_G)) (by rw [q1]) ?_
    have hM1284 : mi_Met mi_N0 4 mi_h129 [.ref 0, .int 5] mi_G (some (.int (-11))) mi_G := mi_fun_ok mi_N0 4 129 (mi_h129, mi_c129) _ _ _ _ rfl (mi_eR_ok (by decide +kernel))
    refine mi_sem_call mi_in98 (i := (.invokevirtual 144, 3, 129, 0, 9, 0, 208)) (by rfl) (by rfl) hM1284 (by decide) ⟨Nat.le_of_ble_eq_true rfl, Nat.le_of_ble_eq_true rfl⟩ ?_
    refine mi_sem_steps mi_in98 (mi_calok_none _ _) 4 _ (62, [(4, .int (-11)), (0, .ref 0), (1, .int a1), (2, .int 0), (3, .int 0)], [.int (-11)], (0, 0), mi_G) (by rfl) ?_
    exact mi_sem_ret (cal := fun _ _ _ => none) mi_in98 (by rfl)
  · refine mi_met_of (y := 197) (q := (mi_h197, mi_c197)) rfl (by decide) (Nat.le_of_ble_eq_true rfl) ?_
    refine mi_sem_steps mi_in197 (mi_calok_none _ _) 2 _ (2, [(0, .ref 116), (1, .int a1), (2, .int 0), (3, .int 0)], [.int a1, .ref 116], (0, 0), mi_G) (by rfl) ?_
    have hM1288 : mi_Met mi_N0 3 mi_h190 [.ref 116, .int a1] mi_G (some (.int 1)) mi_G := by
      refine mi_met_of (y := 190) (q := (mi_h190, mi_c190)) rfl (by decide) (Nat.le_of_ble_eq_true rfl) ?_
      refine mi_sem_steps mi_in190 (mi_calok_none _ _) 1 _ (1, [(0, .ref 116), (1, .int a1)], [.int a1], (0, 0), mi_G) (by rfl) ?_
      refine mi_sem_b mi_in190 (decide (a1 < 0)) false (mi_ltF (0) (by decide) (by omega)) 28 4 ([(0, .ref 116), (1, .int a1)], [], (0, 0), mi_G) (by rfl) ?_
      refine mi_sem_steps mi_in190 (mi_calok_none _ _) 3 _ (8, [(0, .ref 116), (1, .int a1)], [.int ((a1 / 10))], (0, 0), mi_G) (by rfl) ?_
      refine mi_sem_eq (x1 := (8, [(0, .ref 116), (1, .int a1)], [.int 5], (0, 0), mi_G)) (by rw [q1]) ?_
      have hM1285 : mi_Met mi_N0 2 mi_h133 [.int 5] mi_G (some (.int 1)) mi_G := mi_fun_ok mi_N0 2 133 (mi_h133, mi_c133) _ _ _ _ rfl (mi_eR_ok (by decide +kernel))
      refine mi_sem_call mi_in190 (i := (.invokestatic 127, 3, 133, 0, 9, 0, 382)) (by rfl) (by rfl) hM1285 (by decide) ⟨Nat.le_of_ble_eq_true rfl, Nat.le_of_ble_eq_true rfl⟩ ?_
      refine mi_sem_steps mi_in190 (mi_calok_none _ _) 4 _ (18, [(0, .ref 116), (1, .int a1)], [.int ((a1 - a1 / 10 * 10))], (0, 0), mi_G) (by rfl) ?_
      have hM1287 : mi_Met mi_N0 2 mi_h133 [.int ((a1 - a1 / 10 * 10))] mi_G (some (.int 1)) mi_G := by
        refine mi_met_of (y := 133) (q := (mi_h133, mi_c133)) rfl (by decide) (Nat.le_of_ble_eq_true rfl) ?_
        refine mi_sem_steps mi_in133 (mi_calok_none _ _) 3 _ (3, [(0, .int ((a1 - a1 / 10 * 10)))], [.int 5, .int 0, .int ((a1 - a1 / 10 * 10))], (0, 0), mi_G) (by rfl) ?_
        have hM1286 : mi_Met mi_N0 1 mi_h131 [.int ((a1 - a1 / 10 * 10)), .int 0, .int 5] mi_G (some (.int 1)) mi_G := by
          refine mi_met_of (y := 131) (q := (mi_h131, mi_c131)) rfl (by decide) (Nat.le_of_ble_eq_true rfl) ?_
          refine mi_sem_steps mi_in131 (mi_calok_none _ _) 2 _ (2, [(0, .int ((a1 - a1 / 10 * 10))), (1, .int 0), (2, .int 5)], [.int 0, .int ((a1 - a1 / 10 * 10))], (0, 0), mi_G) (by rfl) ?_
          refine mi_sem_b mi_in131 (decide (((a1 - a1 / 10 * 10)) < 0)) false (mi_ltF (0) (by decide) (by omega)) 14 5 ([(0, .int ((a1 - a1 / 10 * 10))), (1, .int 0), (2, .int 5)], [], (0, 0), mi_G) (by rfl) ?_
          refine mi_sem_steps mi_in131 (mi_calok_none _ _) 2 _ (7, [(0, .int ((a1 - a1 / 10 * 10))), (1, .int 0), (2, .int 5)], [.int 5, .int ((a1 - a1 / 10 * 10))], (0, 0), mi_G) (by rfl) ?_
          refine mi_sem_b mi_in131 (decide (5 < ((a1 - a1 / 10 * 10)))) false (mi_ltF2 (5) (by decide) (by omega)) 14 10 ([(0, .int ((a1 - a1 / 10 * 10))), (1, .int 0), (2, .int 5)], [], (0, 0), mi_G) (by rfl) ?_
          refine mi_sem_steps mi_in131 (mi_calok_none _ _) 2 _ (15, [(0, .int ((a1 - a1 / 10 * 10))), (1, .int 0), (2, .int 5)], [.int 1], (0, 0), mi_G) (by rfl) ?_
          exact mi_sem_ret (cal := fun _ _ _ => none) mi_in131 (by rfl)
        refine mi_sem_call mi_in133 (i := (.invokestatic 119, 3, 131, 0, 9, 0, 379)) (by rfl) (by rfl) hM1286 (by decide) ⟨Nat.le_of_ble_eq_true rfl, Nat.le_of_ble_eq_true rfl⟩ ?_
        exact mi_sem_ret (cal := fun _ _ _ => none) mi_in133 (by rfl)
      refine mi_sem_call mi_in190 (i := (.invokestatic 127, 3, 133, 0, 9, 0, 382)) (by rfl) (by rfl) hM1287 (by decide) ⟨Nat.le_of_ble_eq_true rfl, Nat.le_of_ble_eq_true rfl⟩ ?_
      refine mi_sem_steps mi_in190 (mi_calok_none _ _) 3 _ (29, [(0, .ref 116), (1, .int a1)], [.int 1], (0, 0), mi_G) (by rfl) ?_
      exact mi_sem_ret (cal := fun _ _ _ => none) mi_in190 (by rfl)
    refine mi_sem_call mi_in197 (i := (.invokevirtual 314, 3, 190, 0, 9, 0, 442)) (by rfl) (by rfl) hM1288 (by decide) ⟨Nat.le_of_ble_eq_true rfl, Nat.le_of_ble_eq_true rfl⟩ ?_
    refine mi_sem_steps mi_in197 (mi_calok_none _ _) 4 _ (11, [(0, .ref 116), (1, .int a1), (2, .int 0), (3, .int 0)], [.int 3, .int 0, .int 0], (0, 0), mi_G) (by rfl) ?_
    have hM1289 : mi_Met mi_N0 1 mi_h131 [.int 0, .int 0, .int 3] mi_G (some (.int 1)) mi_G := mi_fun_ok mi_N0 1 131 (mi_h131, mi_c131) _ _ _ _ rfl (mi_eR_ok (by decide +kernel))
    refine mi_sem_call mi_in197 (i := (.invokestatic 119, 3, 131, 0, 9, 0, 379)) (by rfl) (by rfl) hM1289 (by decide) ⟨Nat.le_of_ble_eq_true rfl, Nat.le_of_ble_eq_true rfl⟩ ?_
    refine mi_sem_steps mi_in197 (mi_calok_none _ _) 12 _ (46, [(0, .ref 116), (1, .int a1), (2, .int 0), (3, .int 0)], [.int a1, .ref 116], (0, 0), mi_G) (by rfl) ?_
    have hM1291 : mi_Met mi_N0 2 mi_h191 [.ref 116, .int a1] mi_G (some (.int (-11))) mi_G := by
      refine mi_met_of (y := 191) (q := (mi_h191, mi_c191)) rfl (by decide) (Nat.le_of_ble_eq_true rfl) ?_
      refine mi_sem_steps mi_in191 (mi_calok_none _ _) 4 _ (5, [(0, .ref 116), (1, .int a1)], [.int ((a1 / 10)), .ref 116], (0, 0), mi_G) (by rfl) ?_
      refine mi_sem_eq (x1 := (5, [(0, .ref 116), (1, .int a1)], [.int 5, .ref 116], (0, 0), mi_G)) (by rw [q1]) ?_
      have hM1290 : mi_Met mi_N0 1 mi_h173 [.ref 116, .int 5] mi_G (some (.int (-11))) mi_G := mi_fun_ok mi_N0 1 173 (mi_h173, mi_c173) _ _ _ _ rfl (mi_eR_ok (by decide +kernel))
      refine mi_sem_call mi_in191 (i := (.invokevirtual 276, 3, 173, 0, 9, 0, 410)) (by rfl) (by rfl) hM1290 (by decide) ⟨Nat.le_of_ble_eq_true rfl, Nat.le_of_ble_eq_true rfl⟩ ?_
      refine mi_sem_steps mi_in191 (mi_calok_none _ _) 5 _ (25, [(2, .int (-11)), (0, .ref 116), (1, .int a1)], [.int (-11)], (0, 0), mi_G) (by rfl) ?_
      exact mi_sem_ret (cal := fun _ _ _ => none) mi_in191 (by rfl)
    refine mi_sem_call mi_in197 (i := (.invokevirtual 317, 3, 191, 0, 9, 0, 443)) (by rfl) (by rfl) hM1291 (by decide) ⟨Nat.le_of_ble_eq_true rfl, Nat.le_of_ble_eq_true rfl⟩ ?_
    refine mi_sem_steps mi_in197 (mi_calok_none _ _) 4 _ (58, [(4, .int (-11)), (0, .ref 116), (1, .int a1), (2, .int 0), (3, .int 0)], [.int (-11)], (0, 0), mi_G) (by rfl) ?_
    exact mi_sem_ret (cal := fun _ _ _ => none) mi_in197 (by rfl)

set_option maxRecDepth 100000 in
set_option maxHeartbeats 4000000 in
theorem mp_fits_11 (a1 : Int32) (a2 : Int32) (r0 : 0 ≤ (a1).toInt ∧ (a1).toInt ≤ 2147483647) (r1 : 0 ≤ ((a1 / 10)).toInt ∧ ((a1 / 10)).toInt ≤ 5) (r2 : 0 ≤ ((a1 - a1 / 10 * 10)).toInt ∧ ((a1 - a1 / 10 * 10)).toInt ≤ 5) (r3 : 1 ≤ (a2).toInt ∧ (a2).toInt ≤ 2147483647) : mi_P 98 197 [.int a1, .int a2, .int 0] := by
  refine ⟨.int (-1), mi_G, mi_G, (mi_h98, mi_c98), (mi_h197, mi_c197), 4, 4, rfl, rfl, rfl, by decide, by decide, ?_, ?_⟩
  · refine mi_met_of (y := 98) (q := (mi_h98, mi_c98)) rfl (by decide) (Nat.le_of_ble_eq_true rfl) ?_
    refine mi_sem_steps mi_in98 (mi_calok_none _ _) 1 _ (1, [(0, .ref 0), (1, .int a1), (2, .int a2), (3, .int 0)], [.int a1], (0, 0), mi_G) (by rfl) ?_
    have hM1296 : mi_Met mi_N0 3 mi_h122 [.int a1] mi_G (some (.int 1)) mi_G := by
      refine mi_met_of (y := 122) (q := (mi_h122, mi_c122)) rfl (by decide) (Nat.le_of_ble_eq_true rfl) ?_
      refine mi_sem_steps mi_in122 (mi_calok_none _ _) 1 _ (1, [(0, .int a1)], [.int a1], (0, 0), mi_G) (by rfl) ?_
      refine mi_sem_b mi_in122 (decide (a1 < 0)) false (mi_ltF (0) (by decide) (by omega)) 28 4 ([(0, .int a1)], [], (0, 0), mi_G) (by rfl) ?_
      refine mi_sem_steps mi_in122 (mi_calok_none _ _) 3 _ (8, [(0, .int a1)], [.int ((a1 / 10))], (0, 0), mi_G) (by rfl) ?_
      have hM1293 : mi_Met mi_N0 2 mi_h121 [.int ((a1 / 10))] mi_G (some (.int 1)) mi_G := by
        refine mi_met_of (y := 121) (q := (mi_h121, mi_c121)) rfl (by decide) (Nat.le_of_ble_eq_true rfl) ?_
        refine mi_sem_steps mi_in121 (mi_calok_none _ _) 3 _ (3, [(0, .int ((a1 / 10)))], [.int 5, .int 0, .int ((a1 / 10))], (0, 0), mi_G) (by rfl) ?_
        have hM1292 : mi_Met mi_N0 1 mi_h120 [.int ((a1 / 10)), .int 0, .int 5] mi_G (some (.int 1)) mi_G := by
          refine mi_met_of (y := 120) (q := (mi_h120, mi_c120)) rfl (by decide) (Nat.le_of_ble_eq_true rfl) ?_
          refine mi_sem_steps mi_in120 (mi_calok_none _ _) 2 _ (2, [(0, .int ((a1 / 10))), (1, .int 0), (2, .int 5)], [.int 0, .int ((a1 / 10))], (0, 0), mi_G) (by rfl) ?_
          refine mi_sem_b mi_in120 (decide (((a1 / 10)) < 0)) false (mi_ltF (0) (by decide) (by omega)) 14 5 ([(0, .int ((a1 / 10))), (1, .int 0), (2, .int 5)], [], (0, 0), mi_G) (by rfl) ?_
          refine mi_sem_steps mi_in120 (mi_calok_none _ _) 2 _ (7, [(0, .int ((a1 / 10))), (1, .int 0), (2, .int 5)], [.int 5, .int ((a1 / 10))], (0, 0), mi_G) (by rfl) ?_
          refine mi_sem_b mi_in120 (decide (5 < ((a1 / 10)))) false (mi_ltF2 (5) (by decide) (by omega)) 14 10 ([(0, .int ((a1 / 10))), (1, .int 0), (2, .int 5)], [], (0, 0), mi_G) (by rfl) ?_
          refine mi_sem_steps mi_in120 (mi_calok_none _ _) 2 _ (15, [(0, .int ((a1 / 10))), (1, .int 0), (2, .int 5)], [.int 1], (0, 0), mi_G) (by rfl) ?_
          exact mi_sem_ret (cal := fun _ _ _ => none) mi_in120 (by rfl)
        refine mi_sem_call mi_in121 (i := (.invokestatic 74, 3, 120, 0, 9, 0, 152)) (by rfl) (by rfl) hM1292 (by decide) ⟨Nat.le_of_ble_eq_true rfl, Nat.le_of_ble_eq_true rfl⟩ ?_
        exact mi_sem_ret (cal := fun _ _ _ => none) mi_in121 (by rfl)
      refine mi_sem_call mi_in122 (i := (.invokestatic 70, 3, 121, 0, 9, 0, 157)) (by rfl) (by rfl) hM1293 (by decide) ⟨Nat.le_of_ble_eq_true rfl, Nat.le_of_ble_eq_true rfl⟩ ?_
      refine mi_sem_steps mi_in122 (mi_calok_none _ _) 4 _ (18, [(0, .int a1)], [.int ((a1 - a1 / 10 * 10))], (0, 0), mi_G) (by rfl) ?_
      have hM1295 : mi_Met mi_N0 2 mi_h121 [.int ((a1 - a1 / 10 * 10))] mi_G (some (.int 1)) mi_G := by
        refine mi_met_of (y := 121) (q := (mi_h121, mi_c121)) rfl (by decide) (Nat.le_of_ble_eq_true rfl) ?_
        refine mi_sem_steps mi_in121 (mi_calok_none _ _) 3 _ (3, [(0, .int ((a1 - a1 / 10 * 10)))], [.int 5, .int 0, .int ((a1 - a1 / 10 * 10))], (0, 0), mi_G) (by rfl) ?_
        have hM1294 : mi_Met mi_N0 1 mi_h120 [.int ((a1 - a1 / 10 * 10)), .int 0, .int 5] mi_G (some (.int 1)) mi_G := by
          refine mi_met_of (y := 120) (q := (mi_h120, mi_c120)) rfl (by decide) (Nat.le_of_ble_eq_true rfl) ?_
          refine mi_sem_steps mi_in120 (mi_calok_none _ _) 2 _ (2, [(0, .int ((a1 - a1 / 10 * 10))), (1, .int 0), (2, .int 5)], [.int 0, .int ((a1 - a1 / 10 * 10))], (0, 0), mi_G) (by rfl) ?_
          refine mi_sem_b mi_in120 (decide (((a1 - a1 / 10 * 10)) < 0)) false (mi_ltF (0) (by decide) (by omega)) 14 5 ([(0, .int ((a1 - a1 / 10 * 10))), (1, .int 0), (2, .int 5)], [], (0, 0), mi_G) (by rfl) ?_
          refine mi_sem_steps mi_in120 (mi_calok_none _ _) 2 _ (7, [(0, .int ((a1 - a1 / 10 * 10))), (1, .int 0), (2, .int 5)], [.int 5, .int ((a1 - a1 / 10 * 10))], (0, 0), mi_G) (by rfl) ?_
          refine mi_sem_b mi_in120 (decide (5 < ((a1 - a1 / 10 * 10)))) false (mi_ltF2 (5) (by decide) (by omega)) 14 10 ([(0, .int ((a1 - a1 / 10 * 10))), (1, .int 0), (2, .int 5)], [], (0, 0), mi_G) (by rfl) ?_
          refine mi_sem_steps mi_in120 (mi_calok_none _ _) 2 _ (15, [(0, .int ((a1 - a1 / 10 * 10))), (1, .int 0), (2, .int 5)], [.int 1], (0, 0), mi_G) (by rfl) ?_
          exact mi_sem_ret (cal := fun _ _ _ => none) mi_in120 (by rfl)
        refine mi_sem_call mi_in121 (i := (.invokestatic 74, 3, 120, 0, 9, 0, 152)) (by rfl) (by rfl) hM1294 (by decide) ⟨Nat.le_of_ble_eq_true rfl, Nat.le_of_ble_eq_true rfl⟩ ?_
        exact mi_sem_ret (cal := fun _ _ _ => none) mi_in121 (by rfl)
      refine mi_sem_call mi_in122 (i := (.invokestatic 70, 3, 121, 0, 9, 0, 157)) (by rfl) (by rfl) hM1295 (by decide) ⟨Nat.le_of_ble_eq_true rfl, Nat.le_of_ble_eq_true rfl⟩ ?_
      refine mi_sem_steps mi_in122 (mi_calok_none _ _) 3 _ (29, [(0, .int a1)], [.int 1], (0, 0), mi_G) (by rfl) ?_
      exact mi_sem_ret (cal := fun _ _ _ => none) mi_in122 (by rfl)
    refine mi_sem_call mi_in98 (i := (.invokestatic 214, 3, 122, 0, 9, 0, 260)) (by rfl) (by rfl) hM1296 (by decide) ⟨Nat.le_of_ble_eq_true rfl, Nat.le_of_ble_eq_true rfl⟩ ?_
    refine mi_sem_steps mi_in98 (mi_calok_none _ _) 4 _ (10, [(0, .ref 0), (1, .int a1), (2, .int a2), (3, .int 0)], [.int 3, .int 0, .int 0], (0, 0), mi_G) (by rfl) ?_
    have hM1297 : mi_Met mi_N0 1 mi_h120 [.int 0, .int 0, .int 3] mi_G (some (.int 1)) mi_G := mi_fun_ok mi_N0 1 120 (mi_h120, mi_c120) _ _ _ _ rfl (mi_eR_ok (by decide +kernel))
    refine mi_sem_call mi_in98 (i := (.invokestatic 74, 3, 120, 0, 9, 0, 152)) (by rfl) (by rfl) hM1297 (by decide) ⟨Nat.le_of_ble_eq_true rfl, Nat.le_of_ble_eq_true rfl⟩ ?_
    refine mi_sem_steps mi_in98 (mi_calok_none _ _) 2 _ (17, [(0, .ref 0), (1, .int a1), (2, .int a2), (3, .int 0)], [.int a2], (0, 0), mi_G) (by rfl) ?_
    refine mi_sem_b mi_in98 (decide (0 ≤ a2)) true (mi_leT2 (0) (by decide) (by omega)) 22 20 ([(0, .ref 0), (1, .int a1), (2, .int a2), (3, .int 0)], [], (0, 0), mi_G) (by rfl) ?_
    refine mi_sem_steps mi_in98 (mi_calok_none _ _) 3 _ (27, [(0, .ref 0), (1, .int a1), (2, .int a2), (3, .int 0)], [.int a2], (0, 0), mi_G) (by rfl) ?_
    refine mi_sem_b mi_in98 ((a2 != 0)) true (mi_neT (0) (by decide) (by omega)) 43 30 ([(0, .ref 0), (1, .int a1), (2, .int a2), (3, .int 0)], [], (0, 0), mi_G) (by rfl) ?_
    refine mi_sem_steps mi_in98 (mi_calok_none _ _) 1 _ (44, [(0, .ref 0), (1, .int a1), (2, .int a2), (3, .int 0)], [.int (-1)], (0, 0), mi_G) (by rfl) ?_
    exact mi_sem_ret (cal := fun _ _ _ => none) mi_in98 (by rfl)
  · refine mi_met_of (y := 197) (q := (mi_h197, mi_c197)) rfl (by decide) (Nat.le_of_ble_eq_true rfl) ?_
    refine mi_sem_steps mi_in197 (mi_calok_none _ _) 2 _ (2, [(0, .ref 116), (1, .int a1), (2, .int a2), (3, .int 0)], [.int a1, .ref 116], (0, 0), mi_G) (by rfl) ?_
    have hM1302 : mi_Met mi_N0 3 mi_h190 [.ref 116, .int a1] mi_G (some (.int 1)) mi_G := by
      refine mi_met_of (y := 190) (q := (mi_h190, mi_c190)) rfl (by decide) (Nat.le_of_ble_eq_true rfl) ?_
      refine mi_sem_steps mi_in190 (mi_calok_none _ _) 1 _ (1, [(0, .ref 116), (1, .int a1)], [.int a1], (0, 0), mi_G) (by rfl) ?_
      refine mi_sem_b mi_in190 (decide (a1 < 0)) false (mi_ltF (0) (by decide) (by omega)) 28 4 ([(0, .ref 116), (1, .int a1)], [], (0, 0), mi_G) (by rfl) ?_
      refine mi_sem_steps mi_in190 (mi_calok_none _ _) 3 _ (8, [(0, .ref 116), (1, .int a1)], [.int ((a1 / 10))], (0, 0), mi_G) (by rfl) ?_
      have hM1299 : mi_Met mi_N0 2 mi_h133 [.int ((a1 / 10))] mi_G (some (.int 1)) mi_G := by
        refine mi_met_of (y := 133) (q := (mi_h133, mi_c133)) rfl (by decide) (Nat.le_of_ble_eq_true rfl) ?_
        refine mi_sem_steps mi_in133 (mi_calok_none _ _) 3 _ (3, [(0, .int ((a1 / 10)))], [.int 5, .int 0, .int ((a1 / 10))], (0, 0), mi_G) (by rfl) ?_
        have hM1298 : mi_Met mi_N0 1 mi_h131 [.int ((a1 / 10)), .int 0, .int 5] mi_G (some (.int 1)) mi_G := by
          refine mi_met_of (y := 131) (q := (mi_h131, mi_c131)) rfl (by decide) (Nat.le_of_ble_eq_true rfl) ?_
          refine mi_sem_steps mi_in131 (mi_calok_none _ _) 2 _ (2, [(0, .int ((a1 / 10))), (1, .int 0), (2, .int 5)], [.int 0, .int ((a1 / 10))], (0, 0), mi_G) (by rfl) ?_
          refine mi_sem_b mi_in131 (decide (((a1 / 10)) < 0)) false (mi_ltF (0) (by decide) (by omega)) 14 5 ([(0, .int ((a1 / 10))), (1, .int 0), (2, .int 5)], [], (0, 0), mi_G) (by rfl) ?_
          refine mi_sem_steps mi_in131 (mi_calok_none _ _) 2 _ (7, [(0, .int ((a1 / 10))), (1, .int 0), (2, .int 5)], [.int 5, .int ((a1 / 10))], (0, 0), mi_G) (by rfl) ?_
          refine mi_sem_b mi_in131 (decide (5 < ((a1 / 10)))) false (mi_ltF2 (5) (by decide) (by omega)) 14 10 ([(0, .int ((a1 / 10))), (1, .int 0), (2, .int 5)], [], (0, 0), mi_G) (by rfl) ?_
          refine mi_sem_steps mi_in131 (mi_calok_none _ _) 2 _ (15, [(0, .int ((a1 / 10))), (1, .int 0), (2, .int 5)], [.int 1], (0, 0), mi_G) (by rfl) ?_
          exact mi_sem_ret (cal := fun _ _ _ => none) mi_in131 (by rfl)
        refine mi_sem_call mi_in133 (i := (.invokestatic 119, 3, 131, 0, 9, 0, 379)) (by rfl) (by rfl) hM1298 (by decide) ⟨Nat.le_of_ble_eq_true rfl, Nat.le_of_ble_eq_true rfl⟩ ?_
        exact mi_sem_ret (cal := fun _ _ _ => none) mi_in133 (by rfl)
      refine mi_sem_call mi_in190 (i := (.invokestatic 127, 3, 133, 0, 9, 0, 382)) (by rfl) (by rfl) hM1299 (by decide) ⟨Nat.le_of_ble_eq_true rfl, Nat.le_of_ble_eq_true rfl⟩ ?_
      refine mi_sem_steps mi_in190 (mi_calok_none _ _) 4 _ (18, [(0, .ref 116), (1, .int a1)], [.int ((a1 - a1 / 10 * 10))], (0, 0), mi_G) (by rfl) ?_
      have hM1301 : mi_Met mi_N0 2 mi_h133 [.int ((a1 - a1 / 10 * 10))] mi_G (some (.int 1)) mi_G := by
        refine mi_met_of (y := 133) (q := (mi_h133, mi_c133)) rfl (by decide) (Nat.le_of_ble_eq_true rfl) ?_
        refine mi_sem_steps mi_in133 (mi_calok_none _ _) 3 _ (3, [(0, .int ((a1 - a1 / 10 * 10)))], [.int 5, .int 0, .int ((a1 - a1 / 10 * 10))], (0, 0), mi_G) (by rfl) ?_
        have hM1300 : mi_Met mi_N0 1 mi_h131 [.int ((a1 - a1 / 10 * 10)), .int 0, .int 5] mi_G (some (.int 1)) mi_G := by
          refine mi_met_of (y := 131) (q := (mi_h131, mi_c131)) rfl (by decide) (Nat.le_of_ble_eq_true rfl) ?_
          refine mi_sem_steps mi_in131 (mi_calok_none _ _) 2 _ (2, [(0, .int ((a1 - a1 / 10 * 10))), (1, .int 0), (2, .int 5)], [.int 0, .int ((a1 - a1 / 10 * 10))], (0, 0), mi_G) (by rfl) ?_
          refine mi_sem_b mi_in131 (decide (((a1 - a1 / 10 * 10)) < 0)) false (mi_ltF (0) (by decide) (by omega)) 14 5 ([(0, .int ((a1 - a1 / 10 * 10))), (1, .int 0), (2, .int 5)], [], (0, 0), mi_G) (by rfl) ?_
          refine mi_sem_steps mi_in131 (mi_calok_none _ _) 2 _ (7, [(0, .int ((a1 - a1 / 10 * 10))), (1, .int 0), (2, .int 5)], [.int 5, .int ((a1 - a1 / 10 * 10))], (0, 0), mi_G) (by rfl) ?_
          refine mi_sem_b mi_in131 (decide (5 < ((a1 - a1 / 10 * 10)))) false (mi_ltF2 (5) (by decide) (by omega)) 14 10 ([(0, .int ((a1 - a1 / 10 * 10))), (1, .int 0), (2, .int 5)], [], (0, 0), mi_G) (by rfl) ?_
          refine mi_sem_steps mi_in131 (mi_calok_none _ _) 2 _ (15, [(0, .int ((a1 - a1 / 10 * 10))), (1, .int 0), (2, .int 5)], [.int 1], (0, 0), mi_G) (by rfl) ?_
          exact mi_sem_ret (cal := fun _ _ _ => none) mi_in131 (by rfl)
        refine mi_sem_call mi_in133 (i := (.invokestatic 119, 3, 131, 0, 9, 0, 379)) (by rfl) (by rfl) hM1300 (by decide) ⟨Nat.le_of_ble_eq_true rfl, Nat.le_of_ble_eq_true rfl⟩ ?_
        exact mi_sem_ret (cal := fun _ _ _ => none) mi_in133 (by rfl)
      refine mi_sem_call mi_in190 (i := (.invokestatic 127, 3, 133, 0, 9, 0, 382)) (by rfl) (by rfl) hM1301 (by decide) ⟨Nat.le_of_ble_eq_true rfl, Nat.le_of_ble_eq_true rfl⟩ ?_
      refine mi_sem_steps mi_in190 (mi_calok_none _ _) 3 _ (29, [(0, .ref 116), (1, .int a1)], [.int 1], (0, 0), mi_G) (by rfl) ?_
      exact mi_sem_ret (cal := fun _ _ _ => none) mi_in190 (by rfl)
    refine mi_sem_call mi_in197 (i := (.invokevirtual 314, 3, 190, 0, 9, 0, 442)) (by rfl) (by rfl) hM1302 (by decide) ⟨Nat.le_of_ble_eq_true rfl, Nat.le_of_ble_eq_true rfl⟩ ?_
    refine mi_sem_steps mi_in197 (mi_calok_none _ _) 4 _ (11, [(0, .ref 116), (1, .int a1), (2, .int a2), (3, .int 0)], [.int 3, .int 0, .int 0], (0, 0), mi_G) (by rfl) ?_
    have hM1303 : mi_Met mi_N0 1 mi_h131 [.int 0, .int 0, .int 3] mi_G (some (.int 1)) mi_G := mi_fun_ok mi_N0 1 131 (mi_h131, mi_c131) _ _ _ _ rfl (mi_eR_ok (by decide +kernel))
    refine mi_sem_call mi_in197 (i := (.invokestatic 119, 3, 131, 0, 9, 0, 379)) (by rfl) (by rfl) hM1303 (by decide) ⟨Nat.le_of_ble_eq_true rfl, Nat.le_of_ble_eq_true rfl⟩ ?_
    refine mi_sem_steps mi_in197 (mi_calok_none _ _) 2 _ (18, [(0, .ref 116), (1, .int a1), (2, .int a2), (3, .int 0)], [.int a2], (0, 0), mi_G) (by rfl) ?_
    refine mi_sem_b mi_in197 (decide (a2 < 0)) false (mi_ltF (0) (by decide) (by omega)) 42 21 ([(0, .ref 116), (1, .int a1), (2, .int a2), (3, .int 0)], [], (0, 0), mi_G) (by rfl) ?_
    refine mi_sem_steps mi_in197 (mi_calok_none _ _) 3 _ (26, [(0, .ref 116), (1, .int a1), (2, .int a2), (3, .int 0)], [.int a2], (0, 0), mi_G) (by rfl) ?_
    refine mi_sem_b mi_in197 ((a2 != 0)) true (mi_neT (0) (by decide) (by omega)) 42 29 ([(0, .ref 116), (1, .int a1), (2, .int a2), (3, .int 0)], [], (0, 0), mi_G) (by rfl) ?_
    refine mi_sem_steps mi_in197 (mi_calok_none _ _) 1 _ (43, [(0, .ref 116), (1, .int a1), (2, .int a2), (3, .int 0)], [.int (-1)], (0, 0), mi_G) (by rfl) ?_
    exact mi_sem_ret (cal := fun _ _ _ => none) mi_in197 (by rfl)

set_option maxRecDepth 100000 in
set_option maxHeartbeats 4000000 in
theorem mp_fits_12 (a1 : Int32) (a2 : Int32) (r0 : 0 ≤ (a1).toInt ∧ (a1).toInt ≤ 2147483647) (q1 : (a1 / 10) = 0) (r2 : 0 ≤ ((a1 - a1 / 10 * 10)).toInt ∧ ((a1 - a1 / 10 * 10)).toInt ≤ 5) (r3 : 0 ≤ (a2).toInt ∧ (a2).toInt ≤ 2147483647) : mi_P 98 197 [.int a1, .int a2, .int 1] := by
  refine ⟨.int (-11), mi_G, mi_G, (mi_h98, mi_c98), (mi_h197, mi_c197), 5, 4, rfl, rfl, rfl, by decide, by decide, ?_, ?_⟩
  · refine mi_met_of (y := 98) (q := (mi_h98, mi_c98)) rfl (by decide) (Nat.le_of_ble_eq_true rfl) ?_
    refine mi_sem_steps mi_in98 (mi_calok_none _ _) 1 _ (1, [(0, .ref 0), (1, .int a1), (2, .int a2), (3, .int 1)], [.int a1], (0, 0), mi_G) (by rfl) ?_
    have hM1321 : mi_Met mi_N0 3 mi_h122 [.int a1] mi_G (some (.int 1)) mi_G := by
      refine mi_met_of (y := 122) (q := (mi_h122, mi_c122)) rfl (by decide) (Nat.le_of_ble_eq_true rfl) ?_
      refine mi_sem_steps mi_in122 (mi_calok_none _ _) 1 _ (1, [(0, .int a1)], [.int a1], (0, 0), mi_G) (by rfl) ?_
      refine mi_sem_b mi_in122 (decide (a1 < 0)) false (mi_ltF (0) (by decide) (by omega)) 28 4 ([(0, .int a1)], [], (0, 0), mi_G) (by rfl) ?_
      refine mi_sem_steps mi_in122 (mi_calok_none _ _) 3 _ (8, [(0, .int a1)], [.int ((a1 / 10))], (0, 0), mi_G) (by rfl) ?_
      refine mi_sem_eq (x1 := (8, [(0, .int a1)], [.int 0], (0, 0), mi_G)) (by rw [q1]) ?_
      have hM1318 : mi_Met mi_N0 2 mi_h121 [.int 0] mi_G (some (.int 1)) mi_G := mi_fun_ok mi_N0 2 121 (mi_h121, mi_c121) _ _ _ _ rfl (mi_eR_ok (by decide +kernel))
      refine mi_sem_call mi_in122 (i := (.invokestatic 70, 3, 121, 0, 9, 0, 157)) (by rfl) (by rfl) hM1318 (by decide) ⟨Nat.le_of_ble_eq_true rfl, Nat.le_of_ble_eq_true rfl⟩ ?_
      refine mi_sem_steps mi_in122 (mi_calok_none _ _) 4 _ (18, [(0, .int a1)], [.int ((a1 - a1 / 10 * 10))], (0, 0), mi_G) (by rfl) ?_
      have hM1320 : mi_Met mi_N0 2 mi_h121 [.int ((a1 - a1 / 10 * 10))] mi_G (some (.int 1)) mi_G := by
        refine mi_met_of (y := 121) (q := (mi_h121, mi_c121)) rfl (by decide) (Nat.le_of_ble_eq_true rfl) ?_
        refine mi_sem_steps mi_in121 (mi_calok_none _ _) 3 _ (3, [(0, .int ((a1 - a1 / 10 * 10)))], [.int 5, .int 0, .int ((a1 - a1 / 10 * 10))], (0, 0), mi_G) (by rfl) ?_
        have hM1319 : mi_Met mi_N0 1 mi_h120 [.int ((a1 - a1 / 10 * 10)), .int 0, .int 5] mi_G (some (.int 1)) mi_G := by
          refine mi_met_of (y := 120) (q := (mi_h120, mi_c120)) rfl (by decide) (Nat.le_of_ble_eq_true rfl) ?_
          refine mi_sem_steps mi_in120 (mi_calok_none _ _) 2 _ (2, [(0, .int ((a1 - a1 / 10 * 10))), (1, .int 0), (2, .int 5)], [.int 0, .int ((a1 - a1 / 10 * 10))], (0, 0), mi_G) (by rfl) ?_
          refine mi_sem_b mi_in120 (decide (((a1 - a1 / 10 * 10)) < 0)) false (mi_ltF (0) (by decide) (by omega)) 14 5 ([(0, .int ((a1 - a1 / 10 * 10))), (1, .int 0), (2, .int 5)], [], (0, 0), mi_G) (by rfl) ?_
          refine mi_sem_steps mi_in120 (mi_calok_none _ _) 2 _ (7, [(0, .int ((a1 - a1 / 10 * 10))), (1, .int 0), (2, .int 5)], [.int 5, .int ((a1 - a1 / 10 * 10))], (0, 0), mi_G) (by rfl) ?_
          refine mi_sem_b mi_in120 (decide (5 < ((a1 - a1 / 10 * 10)))) false (mi_ltF2 (5) (by decide) (by omega)) 14 10 ([(0, .int ((a1 - a1 / 10 * 10))), (1, .int 0), (2, .int 5)], [], (0, 0), mi_G) (by rfl) ?_
          refine mi_sem_steps mi_in120 (mi_calok_none _ _) 2 _ (15, [(0, .int ((a1 - a1 / 10 * 10))), (1, .int 0), (2, .int 5)], [.int 1], (0, 0), mi_G) (by rfl) ?_
          exact mi_sem_ret (cal := fun _ _ _ => none) mi_in120 (by rfl)
        refine mi_sem_call mi_in121 (i := (.invokestatic 74, 3, 120, 0, 9, 0, 152)) (by rfl) (by rfl) hM1319 (by decide) ⟨Nat.le_of_ble_eq_true rfl, Nat.le_of_ble_eq_true rfl⟩ ?_
        exact mi_sem_ret (cal := fun _ _ _ => none) mi_in121 (by rfl)
      refine mi_sem_call mi_in122 (i := (.invokestatic 70, 3, 121, 0, 9, 0, 157)) (by rfl) (by rfl) hM1320 (by decide) ⟨Nat.le_of_ble_eq_true rfl, Nat.le_of_ble_eq_true rfl⟩ ?_
      refine mi_sem_steps mi_in122 (mi_calok_none _ _) 3 _ (29, [(0, .int a1)], [.int 1], (0, 0), mi_G) (by rfl) ?_
      exact mi_sem_ret (cal := fun _ _ _ => none) mi_in122 (by rfl)
    refine mi_sem_call mi_in98 (i := (.invokestatic 214, 3, 122, 0, 9, 0, 260)) (by rfl) (by rfl) hM1321 (by decide) ⟨Nat.le_of_ble_eq_true rfl, Nat.le_of_ble_eq_true rfl⟩ ?_
    refine mi_sem_steps mi_in98 (mi_calok_none _ _) 4 _ (10, [(0, .ref 0), (1, .int a1), (2, .int a2), (3, .int 1)], [.int 3, .int 0, .int 1], (0, 0), mi_G) (by rfl) ?_
    have hM1322 : mi_Met mi_N0 1 mi_h120 [.int 1, .int 0, .int 3] mi_G (some (.int 1)) mi_G := mi_fun_ok mi_N0 1 120 (mi_h120, mi_c120) _ _ _ _ rfl (mi_eR_ok (by decide +kernel))
    refine mi_sem_call mi_in98 (i := (.invokestatic 74, 3, 120, 0, 9, 0, 152)) (by rfl) (by rfl) hM1322 (by decide) ⟨Nat.le_of_ble_eq_true rfl, Nat.le_of_ble_eq_true rfl⟩ ?_
    refine mi_sem_steps mi_in98 (mi_calok_none _ _) 2 _ (17, [(0, .ref 0), (1, .int a1), (2, .int a2), (3, .int 1)], [.int a2], (0, 0), mi_G) (by rfl) ?_
    refine mi_sem_b mi_in98 (decide (0 ≤ a2)) true (mi_leT2 (0) (by decide) (by omega)) 22 20 ([(0, .ref 0), (1, .int a1), (2, .int a2), (3, .int 1)], [], (0, 0), mi_G) (by rfl) ?_
    refine mi_sem_steps mi_in98 (mi_calok_none _ _) 9 _ (50, [(0, .ref 0), (1, .int a1), (2, .int a2), (3, .int 1)], [.int ((a1 / 10)), .ref 0], (0, 0), mi_G) (by rfl) ?_
    refine mi_sem_eq (x1 := (50, [(0, .ref 0), (1, .int a1), (2, .int a2), (3, .int 1)], [.int 0, .ref 0], (0, 0), mi_G)) (by rw [q1]) ?_
    have hM1323 : mi_Met mi_N0 4 mi_h129 [.ref 0, .int 0] mi_G (some (.int (-11))) mi_G := mi_fun_ok mi_N0 4 129 (mi_h129, mi_c129) _ _ _ _ rfl (mi_eR_ok (by decide +kernel))
    refine mi_sem_call mi_in98 (i := (.invokevirtual 144, 3, 129, 0, 9, 0, 208)) (by rfl) (by rfl) hM1323 (by decide) ⟨Nat.le_of_ble_eq_true rfl, Nat.le_of_ble_eq_true rfl⟩ ?_
    refine mi_sem_steps mi_in98 (mi_calok_none _ _) 4 _ (62, [(4, .int (-11)), (0, .ref 0), (1, .int a1), (2, .int a2), (3, .int 1)], [.int (-11)], (0, 0), mi_G) (by rfl) ?_
    exact mi_sem_ret (cal := fun _ _ _ => none) mi_in98 (by rfl)
  · refine mi_met_of (y := 197) (q := (mi_h197, mi_c197)) rfl (by decide) (Nat.le_of_ble_eq_true rfl) ?_
    refine mi_sem_steps mi_in197 (mi_calok_none _ _) 2 _ (2, [(0, .ref 116), (1, .int a1), (2, .int a2), (3, .int 1)], [.int a1, .ref 116], (0, 0), mi_G) (by rfl) ?_
    have hM1327 : mi_Met mi_N0 3 mi_h190 [.ref 116, .int a1] mi_G (some (.int 1)) mi_G := by
      refine mi_met_of (y := 190) (q := (mi_h190, mi_c190)) rfl (by decide) (Nat.le_of_ble_eq_true rfl) ?_
      refine mi_sem_steps mi_in190 (mi_calok_none _ _) 1 _ (1, [(0, .ref 116), (1, .int a1)], [.int a1], (0, 0), mi_G) (by rfl) ?_
      refine mi_sem_b mi_in190 (decide (a1 < 0)) false (mi_ltF (0) (by decide) (by omega)) 28 4 ([(0, .ref 116), (1, .int a1)], [], (0, 0), mi_G) (by rfl) ?_
      refine mi_sem_steps mi_in190 (mi_calok_none _ _) 3 _ (8, [(0, .ref 116), (1, .int a1)], [.int ((a1 / 10))], (0, 0), mi_G) (by rfl) ?_
      refine mi_sem_eq (x1 := (8, [(0, .ref 116), (1, .int a1)], [.int 0], (0, 0), mi_G)) (by rw [q1]) ?_
      have hM1324 : mi_Met mi_N0 2 mi_h133 [.int 0] mi_G (some (.int 1)) mi_G := mi_fun_ok mi_N0 2 133 (mi_h133, mi_c133) _ _ _ _ rfl (mi_eR_ok (by decide +kernel))
      refine mi_sem_call mi_in190 (i := (.invokestatic 127, 3, 133, 0, 9, 0, 382)) (by rfl) (by rfl) hM1324 (by decide) ⟨Nat.le_of_ble_eq_true rfl, Nat.le_of_ble_eq_true rfl⟩ ?_
      refine mi_sem_steps mi_in190 (mi_calok_none _ _) 4 _ (18, [(0, .ref 116), (1, .int a1)], [.int ((a1 - a1 / 10 * 10))], (0, 0), mi_G) (by rfl) ?_
      have hM1326 : mi_Met mi_N0 2 mi_h133 [.int ((a1 - a1 / 10 * 10))] mi_G (some (.int 1)) mi_G := by
        refine mi_met_of (y := 133) (q := (mi_h133, mi_c133)) rfl (by decide) (Nat.le_of_ble_eq_true rfl) ?_
        refine mi_sem_steps mi_in133 (mi_calok_none _ _) 3 _ (3, [(0, .int ((a1 - a1 / 10 * 10)))], [.int 5, .int 0, .int ((a1 - a1 / 10 * 10))], (0, 0), mi_G) (by rfl) ?_
        have hM1325 : mi_Met mi_N0 1 mi_h131 [.int ((a1 - a1 / 10 * 10)), .int 0, .int 5] mi_G (some (.int 1)) mi_G := by
          refine mi_met_of (y := 131) (q := (mi_h131, mi_c131)) rfl (by decide) (Nat.le_of_ble_eq_true rfl) ?_
          refine mi_sem_steps mi_in131 (mi_calok_none _ _) 2 _ (2, [(0, .int ((a1 - a1 / 10 * 10))), (1, .int 0), (2, .int 5)], [.int 0, .int ((a1 - a1 / 10 * 10))], (0, 0), mi_G) (by rfl) ?_
          refine mi_sem_b mi_in131 (decide (((a1 - a1 / 10 * 10)) < 0)) false (mi_ltF (0) (by decide) (by omega)) 14 5 ([(0, .int ((a1 - a1 / 10 * 10))), (1, .int 0), (2, .int 5)], [], (0, 0), mi_G) (by rfl) ?_
          refine mi_sem_steps mi_in131 (mi_calok_none _ _) 2 _ (7, [(0, .int ((a1 - a1 / 10 * 10))), (1, .int 0), (2, .int 5)], [.int 5, .int ((a1 - a1 / 10 * 10))], (0, 0), mi_G) (by rfl) ?_
          refine mi_sem_b mi_in131 (decide (5 < ((a1 - a1 / 10 * 10)))) false (mi_ltF2 (5) (by decide) (by omega)) 14 10 ([(0, .int ((a1 - a1 / 10 * 10))), (1, .int 0), (2, .int 5)], [], (0, 0), mi_G) (by rfl) ?_
          refine mi_sem_steps mi_in131 (mi_calok_none _ _) 2 _ (15, [(0, .int ((a1 - a1 / 10 * 10))), (1, .int 0), (2, .int 5)], [.int 1], (0, 0), mi_G) (by rfl) ?_
          exact mi_sem_ret (cal := fun _ _ _ => none) mi_in131 (by rfl)
        refine mi_sem_call mi_in133 (i := (.invokestatic 119, 3, 131, 0, 9, 0, 379)) (by rfl) (by rfl) hM1325 (by decide) ⟨Nat.le_of_ble_eq_true rfl, Nat.le_of_ble_eq_true rfl⟩ ?_
        exact mi_sem_ret (cal := fun _ _ _ => none) mi_in133 (by rfl)
      refine mi_sem_call mi_in190 (i := (.invokestatic 127, 3, 133, 0, 9, 0, 382)) (by rfl) (by rfl) hM1326 (by decide) ⟨Nat.le_of_ble_eq_true rfl, Nat.le_of_ble_eq_true rfl⟩ ?_
      refine mi_sem_steps mi_in190 (mi_calok_none _ _) 3 _ (29, [(0, .ref 116), (1, .int a1)], [.int 1], (0, 0), mi_G) (by rfl) ?_
      exact mi_sem_ret (cal := fun _ _ _ => none) mi_in190 (by rfl)
    refine mi_sem_call mi_in197 (i := (.invokevirtual 314, 3, 190, 0, 9, 0, 442)) (by rfl) (by rfl) hM1327 (by decide) ⟨Nat.le_of_ble_eq_true rfl, Nat.le_of_ble_eq_true rfl⟩ ?_
    refine mi_sem_steps mi_in197 (mi_calok_none _ _) 4 _ (11, [(0, .ref 116), (1, .int a1), (2, .int a2), (3, .int 1)], [.int 3, .int 0, .int 1], (0, 0), mi_G) (by rfl) ?_
    have hM1328 : mi_Met mi_N0 1 mi_h131 [.int 1, .int 0, .int 3] mi_G (some (.int 1)) mi_G := mi_fun_ok mi_N0 1 131 (mi_h131, mi_c131) _ _ _ _ rfl (mi_eR_ok (by decide +kernel))
    refine mi_sem_call mi_in197 (i := (.invokestatic 119, 3, 131, 0, 9, 0, 379)) (by rfl) (by rfl) hM1328 (by decide) ⟨Nat.le_of_ble_eq_true rfl, Nat.le_of_ble_eq_true rfl⟩ ?_
    refine mi_sem_steps mi_in197 (mi_calok_none _ _) 2 _ (18, [(0, .ref 116), (1, .int a1), (2, .int a2), (3, .int 1)], [.int a2], (0, 0), mi_G) (by rfl) ?_
    refine mi_sem_b mi_in197 (decide (a2 < 0)) false (mi_ltF (0) (by decide) (by omega)) 42 21 ([(0, .ref 116), (1, .int a1), (2, .int a2), (3, .int 1)], [], (0, 0), mi_G) (by rfl) ?_
    refine mi_sem_steps mi_in197 (mi_calok_none _ _) 7 _ (46, [(0, .ref 116), (1, .int a1), (2, .int a2), (3, .int 1)], [.int a1, .ref 116], (0, 0), mi_G) (by rfl) ?_
    have hM1330 : mi_Met mi_N0 2 mi_h191 [.ref 116, .int a1] mi_G (some (.int (-11))) mi_G := by
      refine mi_met_of (y := 191) (q := (mi_h191, mi_c191)) rfl (by decide) (Nat.le_of_ble_eq_true rfl) ?_
      refine mi_sem_steps mi_in191 (mi_calok_none _ _) 4 _ (5, [(0, .ref 116), (1, .int a1)], [.int ((a1 / 10)), .ref 116], (0, 0), mi_G) (by rfl) ?_
      refine mi_sem_eq (x1 := (5, [(0, .ref 116), (1, .int a1)], [.int 0, .ref 116], (0, 0), mi_G)) (by rw [q1]) ?_
      have hM1329 : mi_Met mi_N0 1 mi_h173 [.ref 116, .int 0] mi_G (some (.int (-11))) mi_G := mi_fun_ok mi_N0 1 173 (mi_h173, mi_c173) _ _ _ _ rfl (mi_eR_ok (by decide +kernel))
      refine mi_sem_call mi_in191 (i := (.invokevirtual 276, 3, 173, 0, 9, 0, 410)) (by rfl) (by rfl) hM1329 (by decide) ⟨Nat.le_of_ble_eq_true rfl, Nat.le_of_ble_eq_true rfl⟩ ?_
      refine mi_sem_steps mi_in191 (mi_calok_none _ _) 5 _ (25, [(2, .int (-11)), (0, .ref 116), (1, .int a1)], [.int (-11)], (0, 0), mi_G) (by rfl) ?_
      exact mi_sem_ret (cal := fun _ _ _ => none) mi_in191 (by rfl)
    refine mi_sem_call mi_in197 (i := (.invokevirtual 317, 3, 191, 0, 9, 0, 443)) (by rfl) (by rfl) hM1330 (by decide) ⟨Nat.le_of_ble_eq_true rfl, Nat.le_of_ble_eq_true rfl⟩ ?_
    refine mi_sem_steps mi_in197 (mi_calok_none _ _) 4 _ (58, [(4, .int (-11)), (0, .ref 116), (1, .int a1), (2, .int a2), (3, .int 1)], [.int (-11)], (0, 0), mi_G) (by rfl) ?_
    exact mi_sem_ret (cal := fun _ _ _ => none) mi_in197 (by rfl)

set_option maxRecDepth 100000 in
set_option maxHeartbeats 4000000 in
theorem mp_fits_13 (a1 : Int32) (a2 : Int32) (r0 : 0 ≤ (a1).toInt ∧ (a1).toInt ≤ 2147483647) (q1 : (a1 / 10) = 1) (r2 : 0 ≤ ((a1 - a1 / 10 * 10)).toInt ∧ ((a1 - a1 / 10 * 10)).toInt ≤ 5) (r3 : 0 ≤ (a2).toInt ∧ (a2).toInt ≤ 2147483647) : mi_P 98 197 [.int a1, .int a2, .int 1] := by
  refine ⟨.int (-11), mi_G, mi_G, (mi_h98, mi_c98), (mi_h197, mi_c197), 5, 4, rfl, rfl, rfl, by decide, by decide, ?_, ?_⟩
  · refine mi_met_of (y := 98) (q := (mi_h98, mi_c98)) rfl (by decide) (Nat.le_of_ble_eq_true rfl) ?_
    refine mi_sem_steps mi_in98 (mi_calok_none _ _) 1 _ (1, [(0, .ref 0), (1, .int a1), (2, .int a2), (3, .int 1)], [.int a1], (0, 0), mi_G) (by rfl) ?_
    have hM1342 : mi_Met mi_N0 3 mi_h122 [.int a1] mi_G (some (.int 1)) mi_G := by
      refine mi_met_of (y := 122) (q := (mi_h122, mi_c122)) rfl (by decide) (Nat.le_of_ble_eq_true rfl) ?_
      refine mi_sem_steps mi_in122 (mi_calok_none _ _) 1 _ (1, [(0, .int a1)], [.int a1], (0, 0), mi_G) (by rfl) ?_
      refine mi_sem_b mi_in122 (decide (a1 < 0)) false (mi_ltF (0) (by decide) (by omega)) 28 4 ([(0, .int a1)], [], (0, 0), mi_G) (by rfl) ?_
      refine mi_sem_steps mi_in122 (mi_calok_none _ _) 3 _ (8, [(0, .int a1)], [.int ((a1 / 10))], (0, 0), mi_G) (by rfl) ?_
      refine mi_sem_eq (x1 := (8, [(0, .int a1)], [.int 1], (0, 0), mi_G)) (by rw [q1]) ?_
      have hM1339 : mi_Met mi_N0 2 mi_h121 [.int 1] mi_G (some (.int 1)) mi_G := mi_fun_ok mi_N0 2 121 (mi_h121, mi_c121) _ _ _ _ rfl (mi_eR_ok (by decide +kernel))
      refine mi_sem_call mi_in122 (i := (.invokestatic 70, 3, 121, 0, 9, 0, 157)) (by rfl) (by rfl) hM1339 (by decide) ⟨Nat.le_of_ble_eq_true rfl, Nat.le_of_ble_eq_true rfl⟩ ?_
      refine mi_sem_steps mi_in122 (mi_calok_none _ _) 4 _ (18, [(0, .int a1)], [.int ((a1 - a1 / 10 * 10))], (0, 0), mi_G) (by rfl) ?_
      have hM1341 : mi_Met mi_N0 2 mi_h121 [.int ((a1 - a1 / 10 * 10))] mi_G (some (.int 1)) mi_G := by
        refine mi_met_of (y := 121) (q := (mi_h121, mi_c121)) rfl (by decide) (Nat.le_of_ble_eq_true rfl) ?_
        refine mi_sem_steps mi_in121 (mi_calok_none _ _) 3 _ (3, [(0, .int ((a1 - a1 / 10 * 10)))], [.int 5, .int 0, .int ((a1 - a1 / 10 * 10))], (0, 0), mi_G) (by rfl) ?_
        have hM1340 : mi_Met mi_N0 1 mi_h120 [.int ((a1 - a1 / 10 * 10)), .int 0, .int 5] mi_G (some (.int 1)) mi_G := by
          refine mi_met_of (y := 120) (q := (mi_h120, mi_c120)) rfl (by decide) (Nat.le_of_ble_eq_true rfl) ?_
          refine mi_sem_steps mi_in120 (mi_calok_none _ _) 2 _ (2, [(0, .int ((a1 - a1 / 10 * 10))), (1, .int 0), (2, .int 5)], [.int 0, .int ((a1 - a1 / 10 * 10))], (0, 0), mi_G) (by rfl) ?_
          refine mi_sem_b mi_in120 (decide (((a1 - a1 / 10 * 10)) < 0)) false (mi_ltF (0) (by decide) (by omega)) 14 5 ([(0, .int ((a1 - a1 / 10 * 10))), (1, .int 0), (2, .int 5)], [], (0, 0), mi_G) (by rfl) ?_
          refine mi_sem_steps mi_in120 (mi_calok_none _ _) 2 _ (7, [(0, .int ((a1 - a1 / 10 * 10))), (1, .int 0), (2, .int 5)], [.int 5, .int ((a1 - a1 / 10 * 10))], (0, 0), mi_G) (by rfl) ?_
          refine mi_sem_b mi_in120 (decide (5 < ((a1 - a1 / 10 * 10)))) false (mi_ltF2 (5) (by decide) (by omega)) 14 10 ([(0, .int ((a1 - a1 / 10 * 10))), (1, .int 0), (2, .int 5)], [], (0, 0), mi_G) (by rfl) ?_
          refine mi_sem_steps mi_in120 (mi_calok_none _ _) 2 _ (15, [(0, .int ((a1 - a1 / 10 * 10))), (1, .int 0), (2, .int 5)], [.int 1], (0, 0), mi_G) (by rfl) ?_
          exact mi_sem_ret (cal := fun _ _ _ => none) mi_in120 (by rfl)
        refine mi_sem_call mi_in121 (i := (.invokestatic 74, 3, 120, 0, 9, 0, 152)) (by rfl) (by rfl) hM1340 (by decide) ⟨Nat.le_of_ble_eq_true rfl, Nat.le_of_ble_eq_true rfl⟩ ?_
        exact mi_sem_ret (cal := fun _ _ _ => none) mi_in121 (by rfl)
      refine mi_sem_call mi_in122 (i := (.invokestatic 70, 3, 121, 0, 9, 0, 157)) (by rfl) (by rfl) hM1341 (by decide) ⟨Nat.le_of_ble_eq_true rfl, Nat.le_of_ble_eq_true rfl⟩ ?_
      refine mi_sem_steps mi_in122 (mi_calok_none _ _) 3 _ (29, [(0, .int a1)], [.int 1], (0, 0), mi_G) (by rfl) ?_
      exact mi_sem_ret (cal := fun _ _ _ => none) mi_in122 (by rfl)
    refine mi_sem_call mi_in98 (i := (.invokestatic 214, 3, 122, 0, 9, 0, 260)) (by rfl) (by rfl) hM1342 (by decide) ⟨Nat.le_of_ble_eq_true rfl, Nat.le_of_ble_eq_true rfl⟩ ?_
    refine mi_sem_steps mi_in98 (mi_calok_none _ _) 4 _ (10, [(0, .ref 0), (1, .int a1), (2, .int a2), (3, .int 1)], [.int 3, .int 0, .int 1], (0, 0), mi_G) (by rfl) ?_
    have hM1343 : mi_Met mi_N0 1 mi_h120 [.int 1, .int 0, .int 3] mi_G (some (.int 1)) mi_G := mi_fun_ok mi_N0 1 120 (mi_h120, mi_c120) _ _ _ _ rfl (mi_eR_ok (by decide +kernel))
    refine mi_sem_call mi_in98 (i := (.invokestatic 74, 3, 120, 0, 9, 0, 152)) (by rfl) (by rfl) hM1343 (by decide) ⟨Nat.le_of_ble_eq_true rfl, Nat.le_of_ble_eq_true rfl⟩ ?_
    refine mi_sem_steps mi_in98 (mi_calok_none _ _) 2 _ (17, [(0, .ref 0), (1, .int a1), (2, .int a2), (3, .int 1)], [.int a2], (0, 0), mi_G) (by rfl) ?_
    refine mi_sem_b mi_in98 (decide (0 ≤ a2)) true (mi_leT2 (0) (by decide) (by omega)) 22 20 ([(0, .ref 0), (1, .int a1), (2, .int a2), (3, .int 1)], [], (0, 0), mi_G) (by rfl) ?_
    refine mi_sem_steps mi_in98 (mi_calok_none _ _) 9 _ (50, [(0, .ref 0), (1, .int a1), (2, .int a2), (3, .int 1)], [.int ((a1 / 10)), .ref 0], (0, 0), mi_G) (by rfl) ?_
    refine mi_sem_eq (x1 := (50, [(0, .ref 0), (1, .int a1), (2, .int a2), (3, .int 1)], [.int 1, .ref 0], (0, 0), mi_G)) (by rw [q1]) ?_
    have hM1344 : mi_Met mi_N0 4 mi_h129 [.ref 0, .int 1] mi_G (some (.int (-11))) mi_G := mi_fun_ok mi_N0 4 129 (mi_h129, mi_c129) _ _ _ _ rfl (mi_eR_ok (by decide +kernel))
    refine mi_sem_call mi_in98 (i := (.invokevirtual 144, 3, 129, 0, 9, 0, 208)) (by rfl) (by rfl) hM1344 (by decide) ⟨Nat.le_of_ble_eq_true rfl, Nat.le_of_ble_eq_true rfl⟩ ?_
    refine mi_sem_steps mi_in98 (mi_calok_none _ _) 4 _ (62, [(4, .int (-11)), (0, .ref 0), (1, .int a1), (2, .int a2), (3, .int 1)], [.int (-11)], (0, 0), mi_G) (by rfl) ?_
    exact mi_sem_ret (cal := fun _ _ _ => none) mi_in98 (by rfl)
  · refine mi_met_of (y := 197) (q := (mi_h197, mi_c197)) rfl (by decide) (Nat.le_of_ble_eq_true rfl) ?_
    refine mi_sem_steps mi_in197 (mi_calok_none _ _) 2 _ (2, [(0, .ref 116), (1, .int a1), (2, .int a2), (3, .int 1)], [.int a1, .ref 116], (0, 0), mi_G) (by rfl) ?_
    have hM1348 : mi_Met mi_N0 3 mi_h190 [.ref 116, .int a1] mi_G (some (.int 1)) mi_G := by
      refine mi_met_of (y := 190) (q := (mi_h190, mi_c190)) rfl (by decide) (Nat.le_of_ble_eq_true rfl) ?_
      refine mi_sem_steps mi_in190 (mi_calok_none _ _) 1 _ (1, [(0, .ref 116), (1, .int a1)], [.int a1], (0, 0), mi_G) (by rfl) ?_
      refine mi_sem_b mi_in190 (decide (a1 < 0)) false (mi_ltF (0) (by decide) (by omega)) 28 4 ([(0, .ref 116), (1, .int a1)], [], (0, 0), mi_G) (by rfl) ?_
      refine mi_sem_steps mi_in190 (mi_calok_none _ _) 3 _ (8, [(0, .ref 116), (1, .int a1)], [.int ((a1 / 10))], (0, 0), mi_G) (by rfl) ?_
      refine mi_sem_eq (x1 := (8, [(0, .ref 116), (1, .int a1)], [.int 1], (0, 0), mi_G)) (by rw [q1]) ?_
      have hM1345 : mi_Met mi_N0 2 mi_h133 [.int 1] mi_G (some (.int 1)) mi_G := mi_fun_ok mi_N0 2 133 (mi_h133, mi_c133) _ _ _ _ rfl (mi_eR_ok (by decide +kernel))
      refine mi_sem_call mi_in190 (i := (.invokestatic 127, 3, 133, 0, 9, 0, 382)) (by rfl) (by rfl) hM1345 (by decide) ⟨Nat.le_of_ble_eq_true rfl, Nat.le_of_ble_eq_true rfl⟩ ?_
      refine mi_sem_steps mi_in190 (mi_calok_none _ _) 4 _ (18, [(0, .ref 116), (1, .int a1)], [.int ((a1 - a1 / 10 * 10))], (0, 0), mi_G) (by rfl) ?_
      have hM1347 : mi_Met mi_N0 2 mi_h133 [.int ((a1 - a1 / 10 * 10))] mi_G (some (.int 1)) mi_G := by
        refine mi_met_of (y := 133) (q := (mi_h133, mi_c133)) rfl (by decide) (Nat.le_of_ble_eq_true rfl) ?_
        refine mi_sem_steps mi_in133 (mi_calok_none _ _) 3 _ (3, [(0, .int ((a1 - a1 / 10 * 10)))], [.int 5, .int 0, .int ((a1 - a1 / 10 * 10))], (0, 0), mi_G) (by rfl) ?_
        have hM1346 : mi_Met mi_N0 1 mi_h131 [.int ((a1 - a1 / 10 * 10)), .int 0, .int 5] mi_G (some (.int 1)) mi_G := by
          refine mi_met_of (y := 131) (q := (mi_h131, mi_c131)) rfl (by decide) (Nat.le_of_ble_eq_true rfl) ?_
          refine mi_sem_steps mi_in131 (mi_calok_none _ _) 2 _ (2, [(0, .int ((a1 - a1 / 10 * 10))), (1, .int 0), (2, .int 5)], [.int 0, .int ((a1 - a1 / 10 * 10))], (0, 0), mi_G) (by rfl) ?_
          refine mi_sem_b mi_in131 (decide (((a1 - a1 / 10 * 10)) < 0)) false (mi_ltF (0) (by decide) (by omega)) 14 5 ([(0, .int ((a1 - a1 / 10 * 10))), (1, .int 0), (2, .int 5)], [], (0, 0), mi_G) (by rfl) ?_
          refine mi_sem_steps mi_in131 (mi_calok_none _ _) 2 _ (7, [(0, .int ((a1 - a1 / 10 * 10))), (1, .int 0), (2, .int 5)], [.int 5, .int ((a1 - a1 / 10 * 10))], (0, 0), mi_G) (by rfl) ?_
          refine mi_sem_b mi_in131 (decide (5 < ((a1 - a1 / 10 * 10)))) false (mi_ltF2 (5) (by decide) (by omega)) 14 10 ([(0, .int ((a1 - a1 / 10 * 10))), (1, .int 0), (2, .int 5)], [], (0, 0), mi_G) (by rfl) ?_
          refine mi_sem_steps mi_in131 (mi_calok_none _ _) 2 _ (15, [(0, .int ((a1 - a1 / 10 * 10))), (1, .int 0), (2, .int 5)], [.int 1], (0, 0), mi_G) (by rfl) ?_
          exact mi_sem_ret (cal := fun _ _ _ => none) mi_in131 (by rfl)
        refine mi_sem_call mi_in133 (i := (.invokestatic 119, 3, 131, 0, 9, 0, 379)) (by rfl) (by rfl) hM1346 (by decide) ⟨Nat.le_of_ble_eq_true rfl, Nat.le_of_ble_eq_true rfl⟩ ?_
        exact mi_sem_ret (cal := fun _ _ _ => none) mi_in133 (by rfl)
      refine mi_sem_call mi_in190 (i := (.invokestatic 127, 3, 133, 0, 9, 0, 382)) (by rfl) (by rfl) hM1347 (by decide) ⟨Nat.le_of_ble_eq_true rfl, Nat.le_of_ble_eq_true rfl⟩ ?_
      refine mi_sem_steps mi_in190 (mi_calok_none _ _) 3 _ (29, [(0, .ref 116), (1, .int a1)], [.int 1], (0, 0), mi_G) (by rfl) ?_
      exact mi_sem_ret (cal := fun _ _ _ => none) mi_in190 (by rfl)
    refine mi_sem_call mi_in197 (i := (.invokevirtual 314, 3, 190, 0, 9, 0, 442)) (by rfl) (by rfl) hM1348 (by decide) ⟨Nat.le_of_ble_eq_true rfl, Nat.le_of_ble_eq_true rfl⟩ ?_
    refine mi_sem_steps mi_in197 (mi_calok_none _ _) 4 _ (11, [(0, .ref 116), (1, .int a1), (2, .int a2), (3, .int 1)], [.int 3, .int 0, .int 1], (0, 0), mi_G) (by rfl) ?_
    have hM1349 : mi_Met mi_N0 1 mi_h131 [.int 1, .int 0, .int 3] mi_G (some (.int 1)) mi_G := mi_fun_ok mi_N0 1 131 (mi_h131, mi_c131) _ _ _ _ rfl (mi_eR_ok (by decide +kernel))
    refine mi_sem_call mi_in197 (i := (.invokestatic 119, 3, 131, 0, 9, 0, 379)) (by rfl) (by rfl) hM1349 (by decide) ⟨Nat.le_of_ble_eq_true rfl, Nat.le_of_ble_eq_true rfl⟩ ?_
    refine mi_sem_steps mi_in197 (mi_calok_none _ _) 2 _ (18, [(0, .ref 116), (1, .int a1), (2, .int a2), (3, .int 1)], [.int a2], (0, 0), mi_G) (by rfl) ?_
    refine mi_sem_b mi_in197 (decide (a2 < 0)) false (mi_ltF (0) (by decide) (by omega)) 42 21 ([(0, .ref 116), (1, .int a1), (2, .int a2), (3, .int 1)], [], (0, 0), mi_G) (by rfl) ?_
    refine mi_sem_steps mi_in197 (mi_calok_none _ _) 7 _ (46, [(0, .ref 116), (1, .int a1), (2, .int a2), (3, .int 1)], [.int a1, .ref 116], (0, 0), mi_G) (by rfl) ?_
    have hM1351 : mi_Met mi_N0 2 mi_h191 [.ref 116, .int a1] mi_G (some (.int (-11))) mi_G := by
      refine mi_met_of (y := 191) (q := (mi_h191, mi_c191)) rfl (by decide) (Nat.le_of_ble_eq_true rfl) ?_
      refine mi_sem_steps mi_in191 (mi_calok_none _ _) 4 _ (5, [(0, .ref 116), (1, .int a1)], [.int ((a1 / 10)), .ref 116], (0, 0), mi_G) (by rfl) ?_
      refine mi_sem_eq (x1 := (5, [(0, .ref 116), (1, .int a1)], [.int 1, .ref 116], (0, 0), mi_G)) (by rw [q1]) ?_
      have hM1350 : mi_Met mi_N0 1 mi_h173 [.ref 116, .int 1] mi_G (some (.int (-11))) mi_G := mi_fun_ok mi_N0 1 173 (mi_h173, mi_c173) _ _ _ _ rfl (mi_eR_ok (by decide +kernel))
      refine mi_sem_call mi_in191 (i := (.invokevirtual 276, 3, 173, 0, 9, 0, 410)) (by rfl) (by rfl) hM1350 (by decide) ⟨Nat.le_of_ble_eq_true rfl, Nat.le_of_ble_eq_true rfl⟩ ?_
      refine mi_sem_steps mi_in191 (mi_calok_none _ _) 5 _ (25, [(2, .int (-11)), (0, .ref 116), (1, .int a1)], [.int (-11)], (0, 0), mi_G) (by rfl) ?_
      exact mi_sem_ret (cal := fun _ _ _ => none) mi_in191 (by rfl)
    refine mi_sem_call mi_in197 (i := (.invokevirtual 317, 3, 191, 0, 9, 0, 443)) (by rfl) (by rfl) hM1351 (by decide) ⟨Nat.le_of_ble_eq_true rfl, Nat.le_of_ble_eq_true rfl⟩ ?_
    refine mi_sem_steps mi_in197 (mi_calok_none _ _) 4 _ (58, [(4, .int (-11)), (0, .ref 116), (1, .int a1), (2, .int a2), (3, .int 1)], [.int (-11)], (0, 0), mi_G) (by rfl) ?_
    exact mi_sem_ret (cal := fun _ _ _ => none) mi_in197 (by rfl)

set_option maxRecDepth 100000 in
set_option maxHeartbeats 4000000 in
theorem mp_fits_14 (a1 : Int32) (a2 : Int32) (r0 : 0 ≤ (a1).toInt ∧ (a1).toInt ≤ 2147483647) (q1 : (a1 / 10) = 2) (r2 : 0 ≤ ((a1 - a1 / 10 * 10)).toInt ∧ ((a1 - a1 / 10 * 10)).toInt ≤ 5) (r3 : 0 ≤ (a2).toInt ∧ (a2).toInt ≤ 2147483647) : mi_P 98 197 [.int a1, .int a2, .int 1] := by
  refine ⟨.int (-11), mi_G, mi_G, (mi_h98, mi_c98), (mi_h197, mi_c197), 5, 4, rfl, rfl, rfl, by decide, by decide, ?_, ?_⟩
  · refine mi_met_of (y := 98) (q := (mi_h98, mi_c98)) rfl (by decide) (Nat.le_of_ble_eq_true rfl) ?_
    refine mi_sem_steps mi_in98 (mi_calok_none _ _) 1 _ (1, [(0, .ref 0), (1, .int a1), (2, .int a2), (3, .int 1)], [.int a1], (0, 0), mi_G) (by rfl) ?_
    have hM1363 : mi_Met mi_N0 3 mi_h122 [.int a1] mi_G (some (.int 1)) mi_G := by
      refine mi_met_of (y := 122) (q := (mi_h122, mi_c122)) rfl (by decide) (Nat.le_of_ble_eq_true rfl) ?_
      refine mi_sem_steps mi_in122 (mi_calok_none _ _) 1 _ (1, [(0, .int a1)], [.int a1], (0, 0), mi_G) (by rfl) ?_
      refine mi_sem_b mi_in122 (decide (a1 < 0)) false (mi_ltF (0) (by decide) (by omega)) 28 4 ([(0, .int a1)], [], (0, 0), mi_G) (by rfl) ?_
      refine mi_sem_steps mi_in122 (mi_calok_none _ _) 3 _ (8, [(0, .int a1)], [.int ((a1 / 10))], (0, 0), mi_G) (by rfl) ?_
      refine mi_sem_eq (x1 := (8, [(0, .int a1)], [.int 2], (0, 0), mi_G)) (by rw [q1]) ?_
      have hM1360 : mi_Met mi_N0 2 mi_h121 [.int 2] mi_G (some (.int 1)) mi_G := mi_fun_ok mi_N0 2 121 (mi_h121, mi_c121) _ _ _ _ rfl (mi_eR_ok (by decide +kernel))
      refine mi_sem_call mi_in122 (i := (.invokestatic 70, 3, 121, 0, 9, 0, 157)) (by rfl) (by rfl) hM1360 (by decide) ⟨Nat.le_of_ble_eq_true rfl, Nat.le_of_ble_eq_true rfl⟩ ?_
      refine mi_sem_steps mi_in122 (mi_calok_none _ _) 4 _ (18, [(0, .int a1)], [.int ((a1 - a1 / 10 * 10))], (0, 0), mi_G) (by rfl) ?_
      have hM1362 : mi_Met mi_N0 2 mi_h121 [.int ((a1 - a1 / 10 * 10))] mi_G (some (.int 1)) mi_G := by
        refine mi_met_of (y := 121) (q := (mi_h121, mi_c121)) rfl (by decide) (Nat.le_of_ble_eq_true rfl) ?_
        refine mi_sem_steps mi_in121 (mi_calok_none _ _) 3 _ (3, [(0, .int ((a1 - a1 / 10 * 10)))], [.int 5, .int 0, .int ((a1 - a1 / 10 * 10))], (0, 0), mi_G) (by rfl) ?_
        have hM1361 : mi_Met mi_N0 1 mi_h120 [.int ((a1 - a1 / 10 * 10)), .int 0, .int 5] mi_G (some (.int 1)) mi_G := by
          refine mi_met_of (y := 120) (q := (mi_h120, mi_c120)) rfl (by decide) (Nat.le_of_ble_eq_true rfl) ?_
          refine mi_sem_steps mi_in120 (mi_calok_none _ _) 2 _ (2, [(0, .int ((a1 - a1 / 10 * 10))), (1, .int 0), (2, .int 5)], [.int 0, .int ((a1 - a1 / 10 * 10))], (0, 0), mi_G) (by rfl) ?_
          refine mi_sem_b mi_in120 (decide (((a1 - a1 / 10 * 10)) < 0)) false (mi_ltF (0) (by decide) (by omega)) 14 5 ([(0, .int ((a1 - a1 / 10 * 10))), (1, .int 0), (2, .int 5)], [], (0, 0), mi_G) (by rfl) ?_
          refine mi_sem_steps mi_in120 (mi_calok_none _ _) 2 _ (7, [(0, .int ((a1 - a1 / 10 * 10))), (1, .int 0), (2, .int 5)], [.int 5, .int ((a1 - a1 / 10 * 10))], (0, 0), mi_G) (by rfl) ?_
          refine mi_sem_b mi_in120 (decide (5 < ((a1 - a1 / 10 * 10)))) false (mi_ltF2 (5) (by decide) (by omega)) 14 10 ([(0, .int ((a1 - a1 / 10 * 10))), (1, .int 0), (2, .int 5)], [], (0, 0), mi_G) (by rfl) ?_
          refine mi_sem_steps mi_in120 (mi_calok_none _ _) 2 _ (15, [(0, .int ((a1 - a1 / 10 * 10))), (1, .int 0), (2, .int 5)], [.int 1], (0, 0), mi_G) (by rfl) ?_
          exact mi_sem_ret (cal := fun _ _ _ => none) mi_in120 (by rfl)
        refine mi_sem_call mi_in121 (i := (.invokestatic 74, 3, 120, 0, 9, 0, 152)) (by rfl) (by rfl) hM1361 (by decide) ⟨Nat.le_of_ble_eq_true rfl, Nat.le_of_ble_eq_true rfl⟩ ?_
        exact mi_sem_ret (cal := fun _ _ _ => none) mi_in121 (by rfl)
      refine mi_sem_call mi_in122 (i := (.invokestatic 70, 3, 121, 0, 9, 0, 157)) (by rfl) (by rfl) hM1362 (by decide) ⟨Nat.le_of_ble_eq_true rfl, Nat.le_of_ble_eq_true rfl⟩ ?_
      refine mi_sem_steps mi_in122 (mi_calok_none _ _) 3 _ (29, [(0, .int a1)], [.int 1], (0, 0), mi_G) (by rfl) ?_
      exact mi_sem_ret (cal := fun _ _ _ => none) mi_in122 (by rfl)
    refine mi_sem_call mi_in98 (i := (.invokestatic 214, 3, 122, 0, 9, 0, 260)) (by rfl) (by rfl) hM1363 (by decide) ⟨Nat.le_of_ble_eq_true rfl, Nat.le_of_ble_eq_true rfl⟩ ?_
    refine mi_sem_steps mi_in98 (mi_calok_none _ _) 4 _ (10, [(0, .ref 0), (1, .int a1), (2, .int a2), (3, .int 1)], [.int 3, .int 0, .int 1], (0, 0), mi_G) (by rfl) ?_
    have hM1364 : mi_Met mi_N0 1 mi_h120 [.int 1, .int 0, .int 3] mi_G (some (.int 1)) mi_G := mi_fun_ok mi_N0 1 120 (mi_h120, mi_c120) _ _ _ _ rfl (mi_eR_ok (by decide +kernel))
    refine mi_sem_call mi_in98 (i := (.invokestatic 74, 3, 120, 0, 9, 0, 152)) (by rfl) (by rfl) hM1364 (by decide) ⟨Nat.le_of_ble_eq_true rfl, Nat.le_of_ble_eq_true rfl⟩ ?_
    refine mi_sem_steps mi_in98 (mi_calok_none _ _) 2 _ (17, [(0, .ref 0), (1, .int a1), (2, .int a2), (3, .int 1)], [.int a2], (0, 0), mi_G) (by rfl) ?_
    refine mi_sem_b mi_in98 (decide (0 ≤ a2)) true (mi_leT2 (0) (by decide) (by omega)) 22 20 ([(0, .ref 0), (1, .int a1), (2, .int a2), (3, .int 1)], [], (0, 0), mi_G) (by rfl) ?_
    refine mi_sem_steps mi_in98 (mi_calok_none _ _) 9 _ (50, [(0, .ref 0), (1, .int a1), (2, .int a2), (3, .int 1)], [.int ((a1 / 10)), .ref 0], (0, 0), mi_G) (by rfl) ?_
    refine mi_sem_eq (x1 := (50, [(0, .ref 0), (1, .int a1), (2, .int a2), (3, .int 1)], [.int 2, .ref 0], (0, 0), mi_G)) (by rw [q1]) ?_
    have hM1365 : mi_Met mi_N0 4 mi_h129 [.ref 0, .int 2] mi_G (some (.int (-11))) mi_G := mi_fun_ok mi_N0 4 129 (mi_h129, mi_c129) _ _ _ _ rfl (mi_eR_ok (by decide +kernel))
    refine mi_sem_call mi_in98 (i := (.invokevirtual 144, 3, 129, 0, 9, 0, 208)) (by rfl) (by rfl) hM1365 (by decide) ⟨Nat.le_of_ble_eq_true rfl, Nat.le_of_ble_eq_true rfl⟩ ?_
    refine mi_sem_steps mi_in98 (mi_calok_none _ _) 4 _ (62, [(4, .int (-11)), (0, .ref 0), (1, .int a1), (2, .int a2), (3, .int 1)], [.int (-11)], (0, 0), mi_G) (by rfl) ?_
    exact mi_sem_ret (cal := fun _ _ _ => none) mi_in98 (by rfl)
  · refine mi_met_of (y := 197) (q := (mi_h197, mi_c197)) rfl (by decide) (Nat.le_of_ble_eq_true rfl) ?_
    refine mi_sem_steps mi_in197 (mi_calok_none _ _) 2 _ (2, [(0, .ref 116), (1, .int a1), (2, .int a2), (3, .int 1)], [.int a1, .ref 116], (0, 0), mi_G) (by rfl) ?_
    have hM1369 : mi_Met mi_N0 3 mi_h190 [.ref 116, .int a1] mi_G (some (.int 1)) mi_G := by
      refine mi_met_of (y := 190) (q := (mi_h190, mi_c190)) rfl (by decide) (Nat.le_of_ble_eq_true rfl) ?_
      refine mi_sem_steps mi_in190 (mi_calok_none _ _) 1 _ (1, [(0, .ref 116), (1, .int a1)], [.int a1], (0, 0), mi_G) (by rfl) ?_
      refine mi_sem_b mi_in190 (decide (a1 < 0)) false (mi_ltF (0) (by decide) (by omega)) 28 4 ([(0, .ref 116), (1, .int a1)], [], (0, 0), mi_G) (by rfl) ?_
      refine mi_sem_steps mi_in190 (mi_calok_none _ _) 3 _ (8, [(0, .ref 116), (1, .int a1)], [.int ((a1 / 10))], (0, 0), mi_G) (by rfl) ?_
      refine mi_sem_eq (x1 := (8, [(0, .ref 116), (1, .int a1)], [.int 2], (0, 0), mi_G)) (by rw [q1]) ?_
      have hM1366 : mi_Met mi_N0 2 mi_h133 [.int 2] mi_G (some (.int 1)) mi_G := mi_fun_ok mi_N0 2 133 (mi_h133, mi_c133) _ _ _ _ rfl (mi_eR_ok (by decide +kernel))
      refine mi_sem_call mi_in190 (i := (.invokestatic 127, 3, 133, 0, 9, 0, 382)) (by rfl) (by rfl) hM1366 (by decide) ⟨Nat.le_of_ble_eq_true rfl, Nat.le_of_ble_eq_true rfl⟩ ?_
      refine mi_sem_steps mi_in190 (mi_calok_none _ _) 4 _ (18, [(0, .ref 116), (1, .int a1)], [.int ((a1 - a1 / 10 * 10))], (0, 0), mi_G) (by rfl) ?_
      have hM1368 : mi_Met mi_N0 2 mi_h133 [.int ((a1 - a1 / 10 * 10))] mi_G (some (.int 1)) mi_G := by
        refine mi_met_of (y := 133) (q := (mi_h133, mi_c133)) rfl (by decide) (Nat.le_of_ble_eq_true rfl) ?_
        refine mi_sem_steps mi_in133 (mi_calok_none _ _) 3 _ (3, [(0, .int ((a1 - a1 / 10 * 10)))], [.int 5, .int 0, .int ((a1 - a1 / 10 * 10))], (0, 0), mi_G) (by rfl) ?_
        have hM1367 : mi_Met mi_N0 1 mi_h131 [.int ((a1 - a1 / 10 * 10)), .int 0, .int 5] mi_G (some (.int 1)) mi_G := by
          refine mi_met_of (y := 131) (q := (mi_h131, mi_c131)) rfl (by decide) (Nat.le_of_ble_eq_true rfl) ?_
          refine mi_sem_steps mi_in131 (mi_calok_none _ _) 2 _ (2, [(0, .int ((a1 - a1 / 10 * 10))), (1, .int 0), (2, .int 5)], [.int 0, .int ((a1 - a1 / 10 * 10))], (0, 0), mi_G) (by rfl) ?_
          refine mi_sem_b mi_in131 (decide (((a1 - a1 / 10 * 10)) < 0)) false (mi_ltF (0) (by decide) (by omega)) 14 5 ([(0, .int ((a1 - a1 / 10 * 10))), (1, .int 0), (2, .int 5)], [], (0, 0), mi_G) (by rfl) ?_
          refine mi_sem_steps mi_in131 (mi_calok_none _ _) 2 _ (7, [(0, .int ((a1 - a1 / 10 * 10))), (1, .int 0), (2, .int 5)], [.int 5, .int ((a1 - a1 / 10 * 10))], (0, 0), mi_G) (by rfl) ?_
          refine mi_sem_b mi_in131 (decide (5 < ((a1 - a1 / 10 * 10)))) false (mi_ltF2 (5) (by decide) (by omega)) 14 10 ([(0, .int ((a1 - a1 / 10 * 10))), (1, .int 0), (2, .int 5)], [], (0, 0), mi_G) (by rfl) ?_
          refine mi_sem_steps mi_in131 (mi_calok_none _ _) 2 _ (15, [(0, .int ((a1 - a1 / 10 * 10))), (1, .int 0), (2, .int 5)], [.int 1], (0, 0), mi_G) (by rfl) ?_
          exact mi_sem_ret (cal := fun _ _ _ => none) mi_in131 (by rfl)
        refine mi_sem_call mi_in133 (i := (.invokestatic 119, 3, 131, 0, 9, 0, 379)) (by rfl) (by rfl) hM1367 (by decide) ⟨Nat.le_of_ble_eq_true rfl, Nat.le_of_ble_eq_true rfl⟩ ?_
        exact mi_sem_ret (cal := fun _ _ _ => none) mi_in133 (by rfl)
      refine mi_sem_call mi_in190 (i := (.invokestatic 127, 3, 133, 0, 9, 0, 382)) (by rfl) (by rfl) hM1368 (by decide) ⟨Nat.le_of_ble_eq_true rfl, Nat.le_of_ble_eq_true rfl⟩ ?_
      refine mi_sem_steps mi_in190 (mi_calok_none _ _) 3 _ (29, [(0, .ref 116), (1, .int a1)], [.int 1], (0, 0), mi_G) (by rfl) ?_
      exact mi_sem_ret (cal := fun _ _ _ => none) mi_in190 (by rfl)
    refine mi_sem_call mi_in197 (i := (.invokevirtual 314, 3, 190, 0, 9, 0, 442)) (by rfl) (by rfl) hM1369 (by decide) ⟨Nat.le_of_ble_eq_true rfl, Nat.le_of_ble_eq_true rfl⟩ ?_
    refine mi_sem_steps mi_in197 (mi_calok_none _ _) 4 _ (11, [(0, .ref 116), (1, .int a1), (2, .int a2), (3, .int 1)], [.int 3, .int 0, .int 1], (0, 0), mi_G) (by rfl) ?_
    have hM1370 : mi_Met mi_N0 1 mi_h131 [.int 1, .int 0, .int 3] mi_G (some (.int 1)) mi_G := mi_fun_ok mi_N0 1 131 (mi_h131, mi_c131) _ _ _ _ rfl (mi_eR_ok (by decide +kernel))
    refine mi_sem_call mi_in197 (i := (.invokestatic 119, 3, 131, 0, 9, 0, 379)) (by rfl) (by rfl) hM1370 (by decide) ⟨Nat.le_of_ble_eq_true rfl, Nat.le_of_ble_eq_true rfl⟩ ?_
    refine mi_sem_steps mi_in197 (mi_calok_none _ _) 2 _ (18, [(0, .ref 116), (1, .int a1), (2, .int a2), (3, .int 1)], [.int a2], (0, 0), mi_G) (by rfl) ?_
    refine mi_sem_b mi_in197 (decide (a2 < 0)) false (mi_ltF (0) (by decide) (by omega)) 42 21 ([(0, .ref 116), (1, .int a1), (2, .int a2), (3, .int 1)], [], (0, 0), mi_G) (by rfl) ?_
    refine mi_sem_steps mi_in197 (mi_calok_none _ _) 7 _ (46, [(0, .ref 116), (1, .int a1), (2, .int a2), (3, .int 1)], [.int a1, .ref 116], (0, 0), mi_G) (by rfl) ?_
    have hM1372 : mi_Met mi_N0 2 mi_h191 [.ref 116, .int a1] mi_G (some (.int (-11))) mi_G := by
      refine mi_met_of (y := 191) (q := (mi_h191, mi_c191)) rfl (by decide) (Nat.le_of_ble_eq_true rfl) ?_
      refine mi_sem_steps mi_in191 (mi_calok_none _ _) 4 _ (5, [(0, .ref 116), (1, .int a1)], [.int ((a1 / 10)), .ref 116], (0, 0), mi_G) (by rfl) ?_
      refine mi_sem_eq (x1 := (5, [(0, .ref 116), (1, .int a1)], [.int 2, .ref 116], (0, 0), mi_G)) (by rw [q1]) ?_
      have hM1371 : mi_Met mi_N0 1 mi_h173 [.ref 116, .int 2] mi_G (some (.int (-11))) mi_G := mi_fun_ok mi_N0 1 173 (mi_h173, mi_c173) _ _ _ _ rfl (mi_eR_ok (by decide +kernel))
      refine mi_sem_call mi_in191 (i := (.invokevirtual 276, 3, 173, 0, 9, 0, 410)) (by rfl) (by rfl) hM1371 (by decide) ⟨Nat.le_of_ble_eq_true rfl, Nat.le_of_ble_eq_true rfl⟩ ?_
      refine mi_sem_steps mi_in191 (mi_calok_none _ _) 5 _ (25, [(2, .int (-11)), (0, .ref 116), (1, .int a1)], [.int (-11)], (0, 0), mi_G) (by rfl) ?_
      exact mi_sem_ret (cal := fun _ _ _ => none) mi_in191 (by rfl)
    refine mi_sem_call mi_in197 (i := (.invokevirtual 317, 3, 191, 0, 9, 0, 443)) (by rfl) (by rfl) hM1372 (by decide) ⟨Nat.le_of_ble_eq_true rfl, Nat.le_of_ble_eq_true rfl⟩ ?_
    refine mi_sem_steps mi_in197 (mi_calok_none _ _) 4 _ (58, [(4, .int (-11)), (0, .ref 116), (1, .int a1), (2, .int a2), (3, .int 1)], [.int (-11)], (0, 0), mi_G) (by rfl) ?_
    exact mi_sem_ret (cal := fun _ _ _ => none) mi_in197 (by rfl)

set_option maxRecDepth 100000 in
set_option maxHeartbeats 4000000 in
theorem mp_fits_15 (a1 : Int32) (a2 : Int32) (r0 : 0 ≤ (a1).toInt ∧ (a1).toInt ≤ 2147483647) (q1 : (a1 / 10) = 3) (r2 : 0 ≤ ((a1 - a1 / 10 * 10)).toInt ∧ ((a1 - a1 / 10 * 10)).toInt ≤ 5) (r3 : 0 ≤ (a2).toInt ∧ (a2).toInt ≤ 2147483647) : mi_P 98 197 [.int a1, .int a2, .int 1] := by
  refine ⟨.int (-11), mi_G, mi_G, (mi_h98, mi_c98), (mi_h197, mi_c197), 5, 4, rfl, rfl, rfl, by decide, by decide, ?_, ?_⟩
  · refine mi_met_of (y := 98) (q := (mi_h98, mi_c98)) rfl (by decide) (Nat.le_of_ble_eq_true rfl) ?_
    refine mi_sem_steps mi_in98 (mi_calok_none _ _) 1 _ (1, [(0, .ref 0), (1, .int a1), (2, .int a2), (3, .int 1)], [.int a1], (0, 0), mi_G) (by rfl) ?_
    have hM1384 : mi_Met mi_N0 3 mi_h122 [.int a1] mi_G (some (.int 1)) mi_G := by
      refine mi_met_of (y := 122) (q := (mi_h122, mi_c122)) rfl (by decide) (Nat.le_of_ble_eq_true rfl) ?_
      refine mi_sem_steps mi_in122 (mi_calok_none _ _) 1 _ (1, [(0, .int a1)], [.int a1], (0, 0), mi_G) (by rfl) ?_
      refine mi_sem_b mi_in122 (decide (a1 < 0)) false (mi_ltF (0) (by decide) (by omega)) 28 4 ([(0, .int a1)], [], (0, 0), mi_G) (by rfl) ?_
      refine mi_sem_steps mi_in122 (mi_calok_none _ _) 3 _ (8, [(0, .int a1)], [.int ((a1 / 10))], (0, 0), mi_G) (by rfl) ?_
      refine mi_sem_eq (x1 := (8, [(0, .int a1)], [.int 3], (0, 0), mi_G)) (by rw [q1]) ?_
      have hM1381 : mi_Met mi_N0 2 mi_h121 [.int 3] mi_G (some (.int 1)) mi_G := mi_fun_ok mi_N0 2 121 (mi_h121, mi_c121) _ _ _ _ rfl (mi_eR_ok (by decide +kernel))
      refine mi_sem_call mi_in122 (i := (.invokestatic 70, 3, 121, 0, 9, 0, 157)) (by rfl) (by rfl) hM1381 (by decide) ⟨Nat.le_of_ble_eq_true rfl, Nat.le_of_ble_eq_true rfl⟩ ?_
      refine mi_sem_steps mi_in122 (mi_calok_none _ _) 4 _ (18, [(0, .int a1)], [.int ((a1 - a1 / 10 * 10))], (0, 0), mi_G) (by rfl) ?_
      have hM1383 : mi_Met mi_N0 2 mi_h121 [.int ((a1 - a1 / 10 * 10))] mi_G (some (.int 1)) mi_G := by
        refine mi_met_of (y := 121) (q := (mi_h121, mi_c121)) rfl (by decide) (Nat.le_of_ble_eq_true rfl) ?_
        refine mi_sem_steps mi_in121 (mi_calok_none _ _) 3 _ (3, [(0, .int ((a1 - a1 / 10 * 10)))], [.int 5, .int 0, .int ((a1 - a1 / 10 * 10))], (0, 0), mi_G) (by rfl) ?_
        have hM1382 : mi_Met mi_N0 1 mi_h120 [.int ((a1 - a1 / 10 * 10)), .int 0, .int 5] mi_G (some (.int 1)) mi_G := by
          refine mi_met_of (y := 120) (q := (mi_h120, mi_c120)) rfl (by decide) (Nat.le_of_ble_eq_true rfl) ?_
          refine mi_sem_steps mi_in120 (mi_calok_none _ _) 2 _ (2, [(0, .int ((a1 - a1 / 10 * 10))), (1, .int 0), (2, .int 5)], [.int 0, .int ((a1 - a1 / 10 * 10))], (0, 0), mi_G) (by rfl) ?_
          refine mi_sem_b mi_in120 (decide (((a1 - a1 / 10 * 10)) < 0)) false (mi_ltF (0) (by decide) (by omega)) 14 5 ([(0, .int ((a1 - a1 / 10 * 10))), (1, .int 0), (2, .int 5)], [], (0, 0), mi_G) (by rfl) ?_
          refine mi_sem_steps mi_in120 (mi_calok_none _ _) 2 _ (7, [(0, .int ((a1 - a1 / 10 * 10))), (1, .int 0), (2, .int 5)], [.int 5, .int ((a1 - a1 / 10 * 10))], (0, 0), mi_G) (by rfl) ?_
          refine mi_sem_b mi_in120 (decide (5 < ((a1 - a1 / 10 * 10)))) false (mi_ltF2 (5) (by decide) (by omega)) 14 10 ([(0, .int ((a1 - a1 / 10 * 10))), (1, .int 0), (2, .int 5)], [], (0, 0), mi_G) (by rfl) ?_
          refine mi_sem_steps mi_in120 (mi_calok_none _ _) 2 _ (15, [(0, .int ((a1 - a1 / 10 * 10))), (1, .int 0), (2, .int 5)], [.int 1], (0, 0), mi_G) (by rfl) ?_
          exact mi_sem_ret (cal := fun _ _ _ => none) mi_in120 (by rfl)
        refine mi_sem_call mi_in121 (i := (.invokestatic 74, 3, 120, 0, 9, 0, 152)) (by rfl) (by rfl) hM1382 (by decide) ⟨Nat.le_of_ble_eq_true rfl, Nat.le_of_ble_eq_true rfl⟩ ?_
        exact mi_sem_ret (cal := fun _ _ _ => none) mi_in121 (by rfl)
      refine mi_sem_call mi_in122 (i := (.invokestatic 70, 3, 121, 0, 9, 0, 157)) (by rfl) (by rfl) hM1383 (by decide) ⟨Nat.le_of_ble_eq_true rfl, Nat.le_of_ble_eq_true rfl⟩ ?_
      refine mi_sem_steps mi_in122 (mi_calok_none _ _) 3 _ (29, [(0, .int a1)], [.int 1], (0, 0), mi_G) (by rfl) ?_
      exact mi_sem_ret (cal := fun _ _ _ => none) mi_in122 (by rfl)
    refine mi_sem_call mi_in98 (i := (.invokestatic 214, 3, 122, 0, 9, 0, 260)) (by rfl) (by rfl) hM1384 (by decide) ⟨Nat.le_of_ble_eq_true rfl, Nat.le_of_ble_eq_true rfl⟩ ?_
    refine mi_sem_steps mi_in98 (mi_calok_none _ _) 4 _ (10, [(0, .ref 0), (1, .int a1), (2, .int a2), (3, .int 1)], [.int 3, .int 0, .int 1], (0, 0), mi_G) (by rfl) ?_
    have hM1385 : mi_Met mi_N0 1 mi_h120 [.int 1, .int 0, .int 3] mi_G (some (.int 1)) mi_G := mi_fun_ok mi_N0 1 120 (mi_h120, mi_c120) _ _ _ _ rfl (mi_eR_ok (by decide +kernel))
    refine mi_sem_call mi_in98 (i := (.invokestatic 74, 3, 120, 0, 9, 0, 152)) (by rfl) (by rfl) hM1385 (by decide) ⟨Nat.le_of_ble_eq_true rfl, Nat.le_of_ble_eq_true rfl⟩ ?_
    refine mi_sem_steps mi_in98 (mi_calok_none _ _) 2 _ (17, [(0, .ref 0), (1, .int a1), (2, .int a2), (3, .int 1)], [.int a2], (0, 0), mi_G) (by rfl) ?_
    refine mi_sem_b mi_in98 (decide (0 ≤ a2)) true (mi_leT2 (0) (by decide) (by omega)) 22 20 ([(0, .ref 0), (1, .int a1), (2, .int a2), (3, .int 1)], [], (0, 0), mi_G) (by rfl) ?_
    refine mi_sem_steps mi_in98 (mi_calok_none _ _) 9 _ (50, [(0, .ref 0), (1, .int a1), (2, .int a2), (3, .int 1)], [.int ((a1 / 10)), .ref 0], (0, 0), mi_G) (by rfl) ?_
    refine mi_sem_eq (x1 := (50, [(0, .ref 0), (1, .int a1), (2, .int a2), (3, .int 1)], [.int 3, .ref 0], (0, 0), mi_G)) (by rw [q1]) ?_
    have hM1386 : mi_Met mi_N0 4 mi_h129 [.ref 0, .int 3] mi_G (some (.int (-11))) mi_G := mi_fun_ok mi_N0 4 129 (mi_h129, mi_c129) _ _ _ _ rfl (mi_eR_ok (by decide +kernel))
    refine mi_sem_call mi_in98 (i := (.invokevirtual 144, 3, 129, 0, 9, 0, 208)) (by rfl) (by rfl) hM1386 (by decide) ⟨Nat.le_of_ble_eq_true rfl, Nat.le_of_ble_eq_true rfl⟩ ?_
    refine mi_sem_steps mi_in98 (mi_calok_none _ _) 4 _ (62, [(4, .int (-11)), (0, .ref 0), (1, .int a1), (2, .int a2), (3, .int 1)], [.int (-11)], (0, 0), mi_G) (by rfl) ?_
    exact mi_sem_ret (cal := fun _ _ _ => none) mi_in98 (by rfl)
  · refine mi_met_of (y := 197) (q := (mi_h197, mi_c197)) rfl (by decide) (Nat.le_of_ble_eq_true rfl) ?_
    refine mi_sem_steps mi_in197 (mi_calok_none _ _) 2 _ (2, [(0, .ref 116), (1, .int a1), (2, .int a2), (3, .int 1)], [.int a1, .ref 116], (0, 0), mi_G) (by rfl) ?_
    have hM1390 : mi_Met mi_N0 3 mi_h190 [.ref 116, .int a1] mi_G (some (.int 1)) mi_G := by
      refine mi_met_of (y := 190) (q := (mi_h190, mi_c190)) rfl (by decide) (Nat.le_of_ble_eq_true rfl) ?_
      refine mi_sem_steps mi_in190 (mi_calok_none _ _) 1 _ (1, [(0, .ref 116), (1, .int a1)], [.int a1], (0, 0), mi_G) (by rfl) ?_
      refine mi_sem_b mi_in190 (decide (a1 < 0)) false (mi_ltF (0) (by decide) (by omega)) 28 4 ([(0, .ref 116), (1, .int a1)], [], (0, 0), mi_G) (by rfl) ?_
      refine mi_sem_steps mi_in190 (mi_calok_none _ _) 3 _ (8, [(0, .ref 116), (1, .int a1)], [.int ((a1 / 10))], (0, 0), mi_G) (by rfl) ?_
      refine mi_sem_eq (x1 := (8, [(0, .ref 116), (1, .int a1)], [.int 3], (0, 0), mi_G)) (by rw [q1]) ?_
      have hM1387 : mi_Met mi_N0 2 mi_h133 [.int 3] mi_G (some (.int 1)) mi_G := mi_fun_ok mi_N0 2 133 (mi_h133, mi_c133) _ _ _ _ rfl (mi_eR_ok (by decide +kernel))
      refine mi_sem_call mi_in190 (i := (.invokestatic 127, 3, 133, 0, 9, 0, 382)) (by rfl) (by rfl) hM1387 (by decide) ⟨Nat.le_of_ble_eq_true rfl, Nat.le_of_ble_eq_true rfl⟩ ?_
      refine mi_sem_steps mi_in190 (mi_calok_none _ _) 4 _ (18, [(0, .ref 116), (1, .int a1)], [.int ((a1 - a1 / 10 * 10))], (0, 0), mi_G) (by rfl) ?_
      have hM1389 : mi_Met mi_N0 2 mi_h133 [.int ((a1 - a1 / 10 * 10))] mi_G (some (.int 1)) mi_G := by
        refine mi_met_of (y := 133) (q := (mi_h133, mi_c133)) rfl (by decide) (Nat.le_of_ble_eq_true rfl) ?_
        refine mi_sem_steps mi_in133 (mi_calok_none _ _) 3 _ (3, [(0, .int ((a1 - a1 / 10 * 10)))], [.int 5, .int 0, .int ((a1 - a1 / 10 * 10))], (0, 0), mi_G) (by rfl) ?_
        have hM1388 : mi_Met mi_N0 1 mi_h131 [.int ((a1 - a1 / 10 * 10)), .int 0, .int 5] mi_G (some (.int 1)) mi_G := by
          refine mi_met_of (y := 131) (q := (mi_h131, mi_c131)) rfl (by decide) (Nat.le_of_ble_eq_true rfl) ?_
          refine mi_sem_steps mi_in131 (mi_calok_none _ _) 2 _ (2, [(0, .int ((a1 - a1 / 10 * 10))), (1, .int 0), (2, .int 5)], [.int 0, .int ((a1 - a1 / 10 * 10))], (0, 0), mi_G) (by rfl) ?_
          refine mi_sem_b mi_in131 (decide (((a1 - a1 / 10 * 10)) < 0)) false (mi_ltF (0) (by decide) (by omega)) 14 5 ([(0, .int ((a1 - a1 / 10 * 10))), (1, .int 0), (2, .int 5)], [], (0, 0), mi_G) (by rfl) ?_
          refine mi_sem_steps mi_in131 (mi_calok_none _ _) 2 _ (7, [(0, .int ((a1 - a1 / 10 * 10))), (1, .int 0), (2, .int 5)], [.int 5, .int ((a1 - a1 / 10 * 10))], (0, 0), mi_G) (by rfl) ?_
          refine mi_sem_b mi_in131 (decide (5 < ((a1 - a1 / 10 * 10)))) false (mi_ltF2 (5) (by decide) (by omega)) 14 10 ([(0, .int ((a1 - a1 / 10 * 10))), (1, .int 0), (2, .int 5)], [], (0, 0), mi_G) (by rfl) ?_
          refine mi_sem_steps mi_in131 (mi_calok_none _ _) 2 _ (15, [(0, .int ((a1 - a1 / 10 * 10))), (1, .int 0), (2, .int 5)], [.int 1], (0, 0), mi_G) (by rfl) ?_
          exact mi_sem_ret (cal := fun _ _ _ => none) mi_in131 (by rfl)
        refine mi_sem_call mi_in133 (i := (.invokestatic 119, 3, 131, 0, 9, 0, 379)) (by rfl) (by rfl) hM1388 (by decide) ⟨Nat.le_of_ble_eq_true rfl, Nat.le_of_ble_eq_true rfl⟩ ?_
        exact mi_sem_ret (cal := fun _ _ _ => none) mi_in133 (by rfl)
      refine mi_sem_call mi_in190 (i := (.invokestatic 127, 3, 133, 0, 9, 0, 382)) (by rfl) (by rfl) hM1389 (by decide) ⟨Nat.le_of_ble_eq_true rfl, Nat.le_of_ble_eq_true rfl⟩ ?_
      refine mi_sem_steps mi_in190 (mi_calok_none _ _) 3 _ (29, [(0, .ref 116), (1, .int a1)], [.int 1], (0, 0), mi_G) (by rfl) ?_
      exact mi_sem_ret (cal := fun _ _ _ => none) mi_in190 (by rfl)
    refine mi_sem_call mi_in197 (i := (.invokevirtual 314, 3, 190, 0, 9, 0, 442)) (by rfl) (by rfl) hM1390 (by decide) ⟨Nat.le_of_ble_eq_true rfl, Nat.le_of_ble_eq_true rfl⟩ ?_
    refine mi_sem_steps mi_in197 (mi_calok_none _ _) 4 _ (11, [(0, .ref 116), (1, .int a1), (2, .int a2), (3, .int 1)], [.int 3, .int 0, .int 1], (0, 0), mi_G) (by rfl) ?_
    have hM1391 : mi_Met mi_N0 1 mi_h131 [.int 1, .int 0, .int 3] mi_G (some (.int 1)) mi_G := mi_fun_ok mi_N0 1 131 (mi_h131, mi_c131) _ _ _ _ rfl (mi_eR_ok (by decide +kernel))
    refine mi_sem_call mi_in197 (i := (.invokestatic 119, 3, 131, 0, 9, 0, 379)) (by rfl) (by rfl) hM1391 (by decide) ⟨Nat.le_of_ble_eq_true rfl, Nat.le_of_ble_eq_true rfl⟩ ?_
    refine mi_sem_steps mi_in197 (mi_calok_none _ _) 2 _ (18, [(0, .ref 116), (1, .int a1), (2, .int a2), (3, .int 1)], [.int a2], (0, 0), mi_G) (by rfl) ?_
    refine mi_sem_b mi_in197 (decide (a2 < 0)) false (mi_ltF (0) (by decide) (by omega)) 42 21 ([(0, .ref 116), (1, .int a1), (2, .int a2), (3, .int 1)], [], (0, 0), mi_G) (by rfl) ?_
    refine mi_sem_steps mi_in197 (mi_calok_none _ _) 7 _ (46, [(0, .ref 116), (1, .int a1), (2, .int a2), (3, .int 1)], [.int a1, .ref 116], (0, 0), mi_G) (by rfl) ?_
    have hM1393 : mi_Met mi_N0 2 mi_h191 [.ref 116, .int a1] mi_G (some (.int (-11))) mi_G := by
      refine mi_met_of (y := 191) (q := (mi_h191, mi_c191)) rfl (by decide) (Nat.le_of_ble_eq_true rfl) ?_
      refine mi_sem_steps mi_in191 (mi_calok_none _ _) 4 _ (5, [(0, .ref 116), (1, .int a1)], [.int ((a1 / 10)), .ref 116], (0, 0), mi_G) (by rfl) ?_
      refine mi_sem_eq (x1 := (5, [(0, .ref 116), (1, .int a1)], [.int 3, .ref 116], (0, 0), mi_G)) (by rw [q1]) ?_
      have hM1392 : mi_Met mi_N0 1 mi_h173 [.ref 116, .int 3] mi_G (some (.int (-11))) mi_G := mi_fun_ok mi_N0 1 173 (mi_h173, mi_c173) _ _ _ _ rfl (mi_eR_ok (by decide +kernel))
      refine mi_sem_call mi_in191 (i := (.invokevirtual 276, 3, 173, 0, 9, 0, 410)) (by rfl) (by rfl) hM1392 (by decide) ⟨Nat.le_of_ble_eq_true rfl, Nat.le_of_ble_eq_true rfl⟩ ?_
      refine mi_sem_steps mi_in191 (mi_calok_none _ _) 5 _ (25, [(2, .int (-11)), (0, .ref 116), (1, .int a1)], [.int (-11)], (0, 0), mi_G) (by rfl) ?_
      exact mi_sem_ret (cal := fun _ _ _ => none) mi_in191 (by rfl)
    refine mi_sem_call mi_in197 (i := (.invokevirtual 317, 3, 191, 0, 9, 0, 443)) (by rfl) (by rfl) hM1393 (by decide) ⟨Nat.le_of_ble_eq_true rfl, Nat.le_of_ble_eq_true rfl⟩ ?_
    refine mi_sem_steps mi_in197 (mi_calok_none _ _) 4 _ (58, [(4, .int (-11)), (0, .ref 116), (1, .int a1), (2, .int a2), (3, .int 1)], [.int (-11)], (0, 0), mi_G) (by rfl) ?_
    exact mi_sem_ret (cal := fun _ _ _ => none) mi_in197 (by rfl)

set_option maxRecDepth 100000 in
set_option maxHeartbeats 4000000 in
theorem mp_fits_16 (a1 : Int32) (a2 : Int32) (r0 : 0 ≤ (a1).toInt ∧ (a1).toInt ≤ 2147483647) (q1 : (a1 / 10) = 4) (r2 : 0 ≤ ((a1 - a1 / 10 * 10)).toInt ∧ ((a1 - a1 / 10 * 10)).toInt ≤ 5) (r3 : 0 ≤ (a2).toInt ∧ (a2).toInt ≤ 2147483647) : mi_P 98 197 [.int a1, .int a2, .int 1] := by
  refine ⟨.int (-11), mi_G, mi_G, (mi_h98, mi_c98), (mi_h197, mi_c197), 5, 4, rfl, rfl, rfl, by decide, by decide, ?_, ?_⟩
  · refine mi_met_of (y := 98) (q := (mi_h98, mi_c98)) rfl (by decide) (Nat.le_of_ble_eq_true rfl) ?_
    refine mi_sem_steps mi_in98 (mi_calok_none _ _) 1 _ (1, [(0, .ref 0), (1, .int a1), (2, .int a2), (3, .int 1)], [.int a1], (0, 0), mi_G) (by rfl) ?_
    have hM1405 : mi_Met mi_N0 3 mi_h122 [.int a1] mi_G (some (.int 1)) mi_G := by
      refine mi_met_of (y := 122) (q := (mi_h122, mi_c122)) rfl (by decide) (Nat.le_of_ble_eq_true rfl) ?_
      refine mi_sem_steps mi_in122 (mi_calok_none _ _) 1 _ (1, [(0, .int a1)], [.int a1], (0, 0), mi_G) (by rfl) ?_
      refine mi_sem_b mi_in122 (decide (a1 < 0)) false (mi_ltF (0) (by decide) (by omega)) 28 4 ([(0, .int a1)], [], (0, 0), mi_G) (by rfl) ?_
      refine mi_sem_steps mi_in122 (mi_calok_none _ _) 3 _ (8, [(0, .int a1)], [.int ((a1 / 10))], (0, 0), mi_G) (by rfl) ?_
      refine mi_sem_eq (x1 := (8, [(0, .int a1)], [.int 4], (0, 0), mi_G)) (by rw [q1]) ?_
      have hM1402 : mi_Met mi_N0 2 mi_h121 [.int 4] mi_G (some (.int 1)) mi_G := mi_fun_ok mi_N0 2 121 (mi_h121, mi_c121) _ _ _ _ rfl (mi_eR_ok (by decide +kernel))
      refine mi_sem_call mi_in122 (i := (.invokestatic 70, 3, 121, 0, 9, 0, 157)) (by rfl) (by rfl) hM1402 (by decide) ⟨Nat.le_of_ble_eq_true rfl, Nat.le_of_ble_eq_true rfl⟩ ?_
      refine mi_sem_steps mi_in122 (mi_calok_none _ _) 4 _ (18, [(0, .int a1)], [.int ((a1 - a1 / 10 * 10))], (0, 0), mi_G) (by rfl) ?_
      have hM1404 : mi_Met mi_N0 2 mi_h121 [.int ((a1 - a1 / 10 * 10))] mi_G (some (.int 1)) mi_G := by
        refine mi_met_of (y := 121) (q := (mi_h121, mi_c121)) rfl (by decide) (Nat.le_of_ble_eq_true rfl) ?_
        refine mi_sem_steps mi_in121 (mi_calok_none _ _) 3 _ (3, [(0, .int ((a1 - a1 / 10 * 10)))], [.int 5, .int 0, .int ((a1 - a1 / 10 * 10))], (0, 0), mi_G) (by rfl) ?_
        have hM1403 : mi_Met mi_N0 1 mi_h120 [.int ((a1 - a1 / 10 * 10)), .int 0, .int 5] mi_G (some (.int 1)) mi_G := by
          refine mi_met_of (y := 120) (q := (mi_h120, mi_c120)) rfl (by decide) (Nat.le_of_ble_eq_true rfl) ?_
          refine mi_sem_steps mi_in120 (mi_calok_none _ _) 2 _ (2, [(0, .int ((a1 - a1 / 10 * 10))), (1, .int 0), (2, .int 5)], [.int 0, .int ((a1 - a1 / 10 * 10))], (0, 0), mi_G) (by rfl) ?_
          refine mi_sem_b mi_in120 (decide (((a1 - a1 / 10 * 10)) < 0)) false (mi_ltF (0) (by decide) (by omega)) 14 5 ([(0, .int ((a1 - a1 / 10 * 10))), (1, .int 0), (2, .int 5)], [], (0, 0), mi_G) (by rfl) ?_
          refine mi_sem_steps mi_in120 (mi_calok_none _ _) 2 _ (7, [(0, .int ((a1 - a1 / 10 * 10))), (1, .int 0), (2, .int 5)], [.int 5, .int ((a1 - a1 / 10 * 10))], (0, 0), mi_G) (by rfl) ?_
          refine mi_sem_b mi_in120 (decide (5 < ((a1 - a1 / 10 * 10)))) false (mi_ltF2 (5) (by decide) (by omega)) 14 10 ([(0, .int ((a1 - a1 / 10 * 10))), (1, .int 0), (2, .int 5)], [], (0, 0), mi_G) (by rfl) ?_
          refine mi_sem_steps mi_in120 (mi_calok_none _ _) 2 _ (15, [(0, .int ((a1 - a1 / 10 * 10))), (1, .int 0), (2, .int 5)], [.int 1], (0, 0), mi_G) (by rfl) ?_
          exact mi_sem_ret (cal := fun _ _ _ => none) mi_in120 (by rfl)
        refine mi_sem_call mi_in121 (i := (.invokestatic 74, 3, 120, 0, 9, 0, 152)) (by rfl) (by rfl) hM1403 (by decide) ⟨Nat.le_of_ble_eq_true rfl, Nat.le_of_ble_eq_true rfl⟩ ?_
        exact mi_sem_ret (cal := fun _ _ _ => none) mi_in121 (by rfl)
      refine mi_sem_call mi_in122 (i := (.invokestatic 70, 3, 121, 0, 9, 0, 157)) (by rfl) (by rfl) hM1404 (by decide) ⟨Nat.le_of_ble_eq_true rfl, Nat.le_of_ble_eq_true rfl⟩ ?_
      refine mi_sem_steps mi_in122 (mi_calok_none _ _) 3 _ (29, [(0, .int a1)], [.int 1], (0, 0), mi_G) (by rfl) ?_
      exact mi_sem_ret (cal := fun _ _ _ => none) mi_in122 (by rfl)
    refine mi_sem_call mi_in98 (i := (.invokestatic 214, 3, 122, 0, 9, 0, 260)) (by rfl) (by rfl) hM1405 (by decide) ⟨Nat.le_of_ble_eq_true rfl, Nat.le_of_ble_eq_true rfl⟩ ?_
    refine mi_sem_steps mi_in98 (mi_calok_none _ _) 4 _ (10, [(0, .ref 0), (1, .int a1), (2, .int a2), (3, .int 1)], [.int 3, .int 0, .int 1], (0, 0), mi_G) (by rfl) ?_
    have hM1406 : mi_Met mi_N0 1 mi_h120 [.int 1, .int 0, .int 3] mi_G (some (.int 1)) mi_G := mi_fun_ok mi_N0 1 120 (mi_h120, mi_c120) _ _ _ _ rfl (mi_eR_ok (by decide +kernel))
    refine mi_sem_call mi_in98 (i := (.invokestatic 74, 3, 120, 0, 9, 0, 152)) (by rfl) (by rfl) hM1406 (by decide) ⟨Nat.le_of_ble_eq_true rfl, Nat.le_of_ble_eq_true rfl⟩ ?_
    refine mi_sem_steps mi_in98 (mi_calok_none _ _) 2 _ (17, [(0, .ref 0), (1, .int a1), (2, .int a2), (3, .int 1)], [.int a2], (0, 0), mi_G) (by rfl) ?_
    refine mi_sem_b mi_in98 (decide (0 ≤ a2)) true (mi_leT2 (0) (by decide) (by omega)) 22 20 ([(0, .ref 0), (1, .int a1), (2, .int a2), (3, .int 1)], [], (0, 0), mi_G) (by rfl) ?_
    refine mi_sem_steps mi_in98 (mi_calok_none _ _) 9 _ (50, [(0, .ref 0), (1, .int a1), (2, .int a2), (3, .int 1)], [.int ((a1 / 10)), .ref 0], (0, 0), mi_G) (by rfl) ?_
    refine mi_sem_eq (x1 := (50, [(0, .ref 0), (1, .int a1), (2, .int a2), (3, .int 1)], [.int 4, .ref 0], (0, 0), mi_G)) (by rw [q1]) ?_
    have hM1407 : mi_Met mi_N0 4 mi_h129 [.ref 0, .int 4] mi_G (some (.int (-11))) mi_G := mi_fun_ok mi_N0 4 129 (mi_h129, mi_c129) _ _ _ _ rfl (mi_eR_ok (by decide +kernel))
    refine mi_sem_call mi_in98 (i := (.invokevirtual 144, 3, 129, 0, 9, 0, 208)) (by rfl) (by rfl) hM1407 (by decide) ⟨Nat.le_of_ble_eq_true rfl, Nat.le_of_ble_eq_true rfl⟩ ?_
    refine mi_sem_steps mi_in98 (mi_calok_none _ _) 4 _ (62, [(4, .int (-11)), (0, .ref 0), (1, .int a1), (2, .int a2), (3, .int 1)], [.int (-11)], (0, 0), mi_G) (by rfl) ?_
    exact mi_sem_ret (cal := fun _ _ _ => none) mi_in98 (by rfl)
  · refine mi_met_of (y := 197) (q := (mi_h197, mi_c197)) rfl (by decide) (Nat.le_of_ble_eq_true rfl) ?_
    refine mi_sem_steps mi_in197 (mi_calok_none _ _) 2 _ (2, [(0, .ref 116), (1, .int a1), (2, .int a2), (3, .int 1)], [.int a1, .ref 116], (0, 0), mi_G) (by rfl) ?_
    have hM1411 : mi_Met mi_N0 3 mi_h190 [.ref 116, .int a1] mi_G (some (.int 1)) mi_G := by
      refine mi_met_of (y := 190) (q := (mi_h190, mi_c190)) rfl (by decide) (Nat.le_of_ble_eq_true rfl) ?_
      refine mi_sem_steps mi_in190 (mi_calok_none _ _) 1 _ (1, [(0, .ref 116), (1, .int a1)], [.int a1], (0, 0), mi_G) (by rfl) ?_
      refine mi_sem_b mi_in190 (decide (a1 < 0)) false (mi_ltF (0) (by decide) (by omega)) 28 4 ([(0, .ref 116), (1, .int a1)], [], (0, 0), mi_G) (by rfl) ?_
      refine mi_sem_steps mi_in190 (mi_calok_none _ _) 3 _ (8, [(0, .ref 116), (1, .int a1)], [.int ((a1 / 10))], (0, 0), mi_G) (by rfl) ?_
      refine mi_sem_eq (x1 := (8, [(0, .ref 116), (1, .int a1)], [.int 4], (0, 0), mi_G)) (by rw [q1]) ?_
      have hM1408 : mi_Met mi_N0 2 mi_h133 [.int 4] mi_G (some (.int 1)) mi_G := mi_fun_ok mi_N0 2 133 (mi_h133, mi_c133) _ _ _ _ rfl (mi_eR_ok (by decide +kernel))
      refine mi_sem_call mi_in190 (i := (.invokestatic 127, 3, 133, 0, 9, 0, 382)) (by rfl) (by rfl) hM1408 (by decide) ⟨Nat.le_of_ble_eq_true rfl, Nat.le_of_ble_eq_true rfl⟩ ?_
      refine mi_sem_steps mi_in190 (mi_calok_none _ _) 4 _ (18, [(0, .ref 116), (1, .int a1)], [.int ((a1 - a1 / 10 * 10))], (0, 0), mi_G) (by rfl) ?_
      have hM1410 : mi_Met mi_N0 2 mi_h133 [.int ((a1 - a1 / 10 * 10))] mi_G (some (.int 1)) mi_G := by
        refine mi_met_of (y := 133) (q := (mi_h133, mi_c133)) rfl (by decide) (Nat.le_of_ble_eq_true rfl) ?_
        refine mi_sem_steps mi_in133 (mi_calok_none _ _) 3 _ (3, [(0, .int ((a1 - a1 / 10 * 10)))], [.int 5, .int 0, .int ((a1 - a1 / 10 * 10))], (0, 0), mi_G) (by rfl) ?_
        have hM1409 : mi_Met mi_N0 1 mi_h131 [.int ((a1 - a1 / 10 * 10)), .int 0, .int 5] mi_G (some (.int 1)) mi_G := by
          refine mi_met_of (y := 131) (q := (mi_h131, mi_c131)) rfl (by decide) (Nat.le_of_ble_eq_true rfl) ?_
          refine mi_sem_steps mi_in131 (mi_calok_none _ _) 2 _ (2, [(0, .int ((a1 - a1 / 10 * 10))), (1, .int 0), (2, .int 5)], [.int 0, .int ((a1 - a1 / 10 * 10))], (0, 0), mi_G) (by rfl) ?_
          refine mi_sem_b mi_in131 (decide (((a1 - a1 / 10 * 10)) < 0)) false (mi_ltF (0) (by decide) (by omega)) 14 5 ([(0, .int ((a1 - a1 / 10 * 10))), (1, .int 0), (2, .int 5)], [], (0, 0), mi_G) (by rfl) ?_
          refine mi_sem_steps mi_in131 (mi_calok_none _ _) 2 _ (7, [(0, .int ((a1 - a1 / 10 * 10))), (1, .int 0), (2, .int 5)], [.int 5, .int ((a1 - a1 / 10 * 10))], (0, 0), mi_G) (by rfl) ?_
          refine mi_sem_b mi_in131 (decide (5 < ((a1 - a1 / 10 * 10)))) false (mi_ltF2 (5) (by decide) (by omega)) 14 10 ([(0, .int ((a1 - a1 / 10 * 10))), (1, .int 0), (2, .int 5)], [], (0, 0), mi_G) (by rfl) ?_
          refine mi_sem_steps mi_in131 (mi_calok_none _ _) 2 _ (15, [(0, .int ((a1 - a1 / 10 * 10))), (1, .int 0), (2, .int 5)], [.int 1], (0, 0), mi_G) (by rfl) ?_
          exact mi_sem_ret (cal := fun _ _ _ => none) mi_in131 (by rfl)
        refine mi_sem_call mi_in133 (i := (.invokestatic 119, 3, 131, 0, 9, 0, 379)) (by rfl) (by rfl) hM1409 (by decide) ⟨Nat.le_of_ble_eq_true rfl, Nat.le_of_ble_eq_true rfl⟩ ?_
        exact mi_sem_ret (cal := fun _ _ _ => none) mi_in133 (by rfl)
      refine mi_sem_call mi_in190 (i := (.invokestatic 127, 3, 133, 0, 9, 0, 382)) (by rfl) (by rfl) hM1410 (by decide) ⟨Nat.le_of_ble_eq_true rfl, Nat.le_of_ble_eq_true rfl⟩ ?_
      refine mi_sem_steps mi_in190 (mi_calok_none _ _) 3 _ (29, [(0, .ref 116), (1, .int a1)], [.int 1], (0, 0), mi_G) (by rfl) ?_
      exact mi_sem_ret (cal := fun _ _ _ => none) mi_in190 (by rfl)
    refine mi_sem_call mi_in197 (i := (.invokevirtual 314, 3, 190, 0, 9, 0, 442)) (by rfl) (by rfl) hM1411 (by decide) ⟨Nat.le_of_ble_eq_true rfl, Nat.le_of_ble_eq_true rfl⟩ ?_
    refine mi_sem_steps mi_in197 (mi_calok_none _ _) 4 _ (11, [(0, .ref 116), (1, .int a1), (2, .int a2), (3, .int 1)], [.int 3, .int 0, .int 1], (0, 0), mi_G) (by rfl) ?_
    have hM1412 : mi_Met mi_N0 1 mi_h131 [.int 1, .int 0, .int 3] mi_G (some (.int 1)) mi_G := mi_fun_ok mi_N0 1 131 (mi_h131, mi_c131) _ _ _ _ rfl (mi_eR_ok (by decide +kernel))
    refine mi_sem_call mi_in197 (i := (.invokestatic 119, 3, 131, 0, 9, 0, 379)) (by rfl) (by rfl) hM1412 (by decide) ⟨Nat.le_of_ble_eq_true rfl, Nat.le_of_ble_eq_true rfl⟩ ?_
    refine mi_sem_steps mi_in197 (mi_calok_none _ _) 2 _ (18, [(0, .ref 116), (1, .int a1), (2, .int a2), (3, .int 1)], [.int a2], (0, 0), mi_G) (by rfl) ?_
    refine mi_sem_b mi_in197 (decide (a2 < 0)) false (mi_ltF (0) (by decide) (by omega)) 42 21 ([(0, .ref 116), (1, .int a1), (2, .int a2), (3, .int 1)], [], (0, 0), mi_G) (by rfl) ?_
    refine mi_sem_steps mi_in197 (mi_calok_none _ _) 7 _ (46, [(0, .ref 116), (1, .int a1), (2, .int a2), (3, .int 1)], [.int a1, .ref 116], (0, 0), mi_G) (by rfl) ?_
    have hM1414 : mi_Met mi_N0 2 mi_h191 [.ref 116, .int a1] mi_G (some (.int (-11))) mi_G := by
      refine mi_met_of (y := 191) (q := (mi_h191, mi_c191)) rfl (by decide) (Nat.le_of_ble_eq_true rfl) ?_
      refine mi_sem_steps mi_in191 (mi_calok_none _ _) 4 _ (5, [(0, .ref 116), (1, .int a1)], [.int ((a1 / 10)), .ref 116], (0, 0), mi_G) (by rfl) ?_
      refine mi_sem_eq (x1 := (5, [(0, .ref 116), (1, .int a1)], [.int 4, .ref 116], (0, 0), mi_G)) (by rw [q1]) ?_
      have hM1413 : mi_Met mi_N0 1 mi_h173 [.ref 116, .int 4] mi_G (some (.int (-11))) mi_G := mi_fun_ok mi_N0 1 173 (mi_h173, mi_c173) _ _ _ _ rfl (mi_eR_ok (by decide +kernel))
      refine mi_sem_call mi_in191 (i := (.invokevirtual 276, 3, 173, 0, 9, 0, 410)) (by rfl) (by rfl) hM1413 (by decide) ⟨Nat.le_of_ble_eq_true rfl, Nat.le_of_ble_eq_true rfl⟩ ?_
      refine mi_sem_steps mi_in191 (mi_calok_none _ _) 5 _ (25, [(2, .int (-11)), (0, .ref 116), (1, .int a1)], [.int (-11)], (0, 0), mi_G) (by rfl) ?_
      exact mi_sem_ret (cal := fun _ _ _ => none) mi_in191 (by rfl)
    refine mi_sem_call mi_in197 (i := (.invokevirtual 317, 3, 191, 0, 9, 0, 443)) (by rfl) (by rfl) hM1414 (by decide) ⟨Nat.le_of_ble_eq_true rfl, Nat.le_of_ble_eq_true rfl⟩ ?_
    refine mi_sem_steps mi_in197 (mi_calok_none _ _) 4 _ (58, [(4, .int (-11)), (0, .ref 116), (1, .int a1), (2, .int a2), (3, .int 1)], [.int (-11)], (0, 0), mi_G) (by rfl) ?_
    exact mi_sem_ret (cal := fun _ _ _ => none) mi_in197 (by rfl)

set_option maxRecDepth 100000 in
set_option maxHeartbeats 4000000 in
theorem mp_fits_17 (a1 : Int32) (a2 : Int32) (r0 : 0 ≤ (a1).toInt ∧ (a1).toInt ≤ 2147483647) (q1 : (a1 / 10) = 5) (r2 : 0 ≤ ((a1 - a1 / 10 * 10)).toInt ∧ ((a1 - a1 / 10 * 10)).toInt ≤ 5) (r3 : 0 ≤ (a2).toInt ∧ (a2).toInt ≤ 2147483647) : mi_P 98 197 [.int a1, .int a2, .int 1] := by
  refine ⟨.int (-11), mi_G, mi_G, (mi_h98, mi_c98), (mi_h197, mi_c197), 5, 4, rfl, rfl, rfl, by decide, by decide, ?_, ?_⟩
  · refine mi_met_of (y := 98) (q := (mi_h98, mi_c98)) rfl (by decide) (Nat.le_of_ble_eq_true rfl) ?_
    refine mi_sem_steps mi_in98 (mi_calok_none _ _) 1 _ (1, [(0, .ref 0), (1, .int a1), (2, .int a2), (3, .int 1)], [.int a1], (0, 0), mi_G) (by rfl) ?_
    have hM1418 : mi_Met mi_N0 3 mi_h122 [.int a1] mi_G (some (.int 1)) mi_G := by
      refine mi_met_of (y := 122) (q := (mi_h122, mi_c122)) rfl (by decide) (Nat.le_of_ble_eq_true rfl) ?_
      refine mi_sem_steps mi_in122 (mi_calok_none _ _) 1 _ (1, [(0, .int a1)], [.int a1], (0, 0), mi_G) (by rfl) ?_
      refine mi_sem_b mi_in122 (decide (a1 < 0)) false (mi_ltF (0) (by decide) (by omega)) 28 4 ([(0, .int a1)], [], (0, 0), mi_G) (by rfl) ?_
      refine mi_sem_steps mi_in122 (mi_calok_none _ _) 3 _ (8, [(0, .int a1)], [.int ((a1 / 10))], (0, 0), mi_G) (by rfl) ?_
      refine mi_sem_eq (x1 := (8, [(0, .int a1)], [.int 5], (0, 0), mi_G)) (by rw [q1]) ?_
      have hM1415 : mi_Met mi_N0 2 mi_h121 [.int 5] mi_G (some (.int 1)) mi_G := mi_fun_ok mi_N0 2 121 (mi_h121, mi_c121) _ _ _ _ rfl (mi_eR_ok (by decide +kernel))
      refine mi_sem_call mi_in122 (i := (.invokestatic 70, 3, 121, 0, 9, 0, 157)) (by rfl) (by rfl) hM1415 (by decide) ⟨Nat.le_of_ble_eq_true rfl, Nat.le_of_ble_eq_true rfl⟩ ?_
      refine mi_sem_steps mi_in122 (mi_calok_none _ _) 4 _ (18, [(0, .int a1)], [.int ((a1 - a1 / 10 * 10))], (0, 0), mi_G) (by rfl) ?_
      have hM1417 : mi_Met mi_N0 2 mi_h121 [.int ((a1 - a1 / 10 * 10))] mi_G (some (.int 1)) mi_G := by
        refine mi_met_of (y := 121) (q := (mi_h121, mi_c121)) rfl (by decide) (Nat.le_of_ble_eq_true rfl) ?_
        refine mi_sem_steps mi_in121 (mi_calok_none _ _) 3 _ (3, [(0, .int ((a1 - a1 / 10 * 10)))], [.int 5, .int 0, .int ((a1 - a1 / 10 * 10))], (0, 0), mi_G) (by rfl) ?_
        have hM1416 : mi_Met mi_N0 1 mi_h120 [.int ((a1 - a1 / 10 * 10)), .int 0, .int 5] mi_G (some (.int 1)) mi_G := by
          refine mi_met_of (y := 120) (q := (mi_h120, mi_c120)) rfl (by decide) (Nat.le_of_ble_eq_true rfl) ?_
          refine mi_sem_steps mi_in120 (mi_calok_none _ _) 2 _ (2, [(0, .int ((a1 - a1 / 10 * 10))), (1, .int 0), (2, .int 5)], [.int 0, .int ((a1 - a1 / 10 * 10))], (0, 0), mi_G) (by rfl) ?_
          refine mi_sem_b mi_in120 (decide (((a1 - a1 / 10 * 10)) < 0)) false (mi_ltF (0) (by decide) (by omega)) 14 5 ([(0, .int ((a1 - a1 / 10 * 10))), (1, .int 0), (2, .int 5)], [], (0, 0), mi_G) (by rfl) ?_
          refine mi_sem_steps mi_in120 (mi_calok_none _ _) 2 _ (7, [(0, .int ((a1 - a1 / 10 * 10))), (1, .int 0), (2, .int 5)], [.int 5, .int ((a1 - a1 / 10 * 10))], (0, 0), mi_G) (by rfl) ?_
          refine mi_sem_b mi_in120 (decide (5 < ((a1 - a1 / 10 * 10)))) false (mi_ltF2 (5) (by decide) (by omega)) 14 10 ([(0, .int ((a1 - a1 / 10 * 10))), (1, .int 0), (2, .int 5)], [], (0, 0), mi_G) (by rfl) ?_
          refine mi_sem_steps mi_in120 (mi_calok_none _ _) 2 _ (15, [(0, .int ((a1 - a1 / 10 * 10))), (1, .int 0), (2, .int 5)], [.int 1], (0, 0), mi_G) (by rfl) ?_
          exact mi_sem_ret (cal := fun _ _ _ => none) mi_in120 (by rfl)
        refine mi_sem_call mi_in121 (i := (.invokestatic 74, 3, 120, 0, 9, 0, 152)) (by rfl) (by rfl) hM1416 (by decide) ⟨Nat.le_of_ble_eq_true rfl, Nat.le_of_ble_eq_true rfl⟩ ?_
        exact mi_sem_ret (cal := fun _ _ _ => none) mi_in121 (by rfl)
      refine mi_sem_call mi_in122 (i := (.invokestatic 70, 3, 121, 0, 9, 0, 157)) (by rfl) (by rfl) hM1417 (by decide) ⟨Nat.le_of_ble_eq_true rfl, Nat.le_of_ble_eq_true rfl⟩ ?_
      refine mi_sem_steps mi_in122 (mi_calok_none _ _) 3 _ (29, [(0, .int a1)], [.int 1], (0, 0), mi_G) (by rfl) ?_
      exact mi_sem_ret (cal := fun _ _ _ => none) mi_in122 (by rfl)
    refine mi_sem_call mi_in98 (i := (.invokestatic 214, 3, 122, 0, 9, 0, 260)) (by rfl) (by rfl) hM1418 (by decide) ⟨Nat.le_of_ble_eq_true rfl, Nat.le_of_ble_eq_true rfl⟩ ?_
    refine mi_sem_steps mi_in98 (mi_calok_none _ _) 4 _ (10, [(0, .ref 0), (1, .int a1), (2, .int a2), (3, .int 1)], [.int 3, .int 0, .int 1], (0, 0), mi_G) (by rfl) ?_
    have hM1419 : mi_Met mi_N0 1 mi_h120 [.int 1, .int 0, .int 3] mi_G (some (.int 1)) mi_G := mi_fun_ok mi_N0 1 120 (mi_h120, mi_c120) _ _ _ _ rfl (mi_eR_ok (by decide +kernel))
    refine mi_sem_call mi_in98 (i := (.invokestatic 74, 3, 120, 0, 9, 0, 152)) (by rfl) (by rfl) hM1419 (by decide) ⟨Nat.le_of_ble_eq_true rfl, Nat.le_of_ble_eq_true rfl⟩ ?_
    refine mi_sem_steps mi_in98 (mi_calok_none _ _) 2 _ (17, [(0, .ref 0), (1, .int a1), (2, .int a2), (3, .int 1)], [.int a2], (0, 0), mi_G) (by rfl) ?_
    refine mi_sem_b mi_in98 (decide (0 ≤ a2)) true (mi_leT2 (0) (by decide) (by omega)) 22 20 ([(0, .ref 0), (1, .int a1), (2, .int a2), (3, .int 1)], [], (0, 0), mi_G) (by rfl) ?_
    refine mi_sem_steps mi_in98 (mi_calok_none _ _) 9 _ (50, [(0, .ref 0), (1, .int a1), (2, .int a2), (3, .int 1)], [.int ((a1 / 10)), .ref 0], (0, 0), mi_G) (by rfl) ?_
    refine mi_sem_eq (x1 := (50, [(0, .ref 0), (1, .int a1), (2, .int a2), (3, .int 1)], [.int 5, .ref 0], (0, 0), mi_G)) (by rw [q1]) ?_
    have hM1420 : mi_Met mi_N0 4 mi_h129 [.ref 0, .int 5] mi_G (some (.int (-11))) mi_G := mi_fun_ok mi_N0 4 129 (mi_h129, mi_c129) _ _ _ _ rfl (mi_eR_ok (by decide +kernel))
    refine mi_sem_call mi_in98 (i := (.invokevirtual 144, 3, 129, 0, 9, 0, 208)) (by rfl) (by rfl) hM1420 (by decide) ⟨Nat.le_of_ble_eq_true rfl, Nat.le_of_ble_eq_true rfl⟩ ?_
    refine mi_sem_steps mi_in98 (mi_calok_none _ _) 4 _ (62, [(4, .int (-11)), (0, .ref 0), (1, .int a1), (2, .int a2), (3, .int 1)], [.int (-11)], (0, 0), mi_G) (by rfl) ?_
    exact mi_sem_ret (cal := fun _ _ _ => none) mi_in98 (by rfl)
  · refine mi_met_of (y := 197) (q := (mi_h197, mi_c197)) rfl (by decide) (Nat.le_of_ble_eq_true rfl) ?_
    refine mi_sem_steps mi_in197 (mi_calok_none _ _) 2 _ (2, [(0, .ref 116), (1, .int a1), (2, .int a2), (3, .int 1)], [.int a1, .ref 116], (0, 0), mi_G) (by rfl) ?_
    have hM1424 : mi_Met mi_N0 3 mi_h190 [.ref 116, .int a1] mi_G (some (.int 1)) mi_G := by
      refine mi_met_of (y := 190) (q := (mi_h190, mi_c190)) rfl (by decide) (Nat.le_of_ble_eq_true rfl) ?_
      refine mi_sem_steps mi_in190 (mi_calok_none _ _) 1 _ (1, [(0, .ref 116), (1, .int a1)], [.int a1], (0, 0), mi_G) (by rfl) ?_
      refine mi_sem_b mi_in190 (decide (a1 < 0)) false (mi_ltF (0) (by decide) (by omega)) 28 4 ([(0, .ref 116), (1, .int a1)], [], (0, 0), mi_G) (by rfl) ?_
      refine mi_sem_steps mi_in190 (mi_calok_none _ _) 3 _ (8, [(0, .ref 116), (1, .int a1)], [.int ((a1 / 10))], (0, 0), mi_G) (by rfl) ?_
      refine mi_sem_eq (x1 := (8, [(0, .ref 116), (1, .int a1)], [.int 5], (0, 0), mi_G)) (by rw [q1]) ?_
      have hM1421 : mi_Met mi_N0 2 mi_h133 [.int 5] mi_G (some (.int 1)) mi_G := mi_fun_ok mi_N0 2 133 (mi_h133, mi_c133) _ _ _ _ rfl (mi_eR_ok (by decide +kernel))
      refine mi_sem_call mi_in190 (i := (.invokestatic 127, 3, 133, 0, 9, 0, 382)) (by rfl) (by rfl) hM1421 (by decide) ⟨Nat.le_of_ble_eq_true rfl, Nat.le_of_ble_eq_true rfl⟩ ?_
      refine mi_sem_steps mi_in190 (mi_calok_none _ _) 4 _ (18, [(0, .ref 116), (1, .int a1)], [.int ((a1 - a1 / 10 * 10))], (0, 0), mi_G) (by rfl) ?_
      have hM1423 : mi_Met mi_N0 2 mi_h133 [.int ((a1 - a1 / 10 * 10))] mi_G (some (.int 1)) mi_G := by
        refine mi_met_of (y := 133) (q := (mi_h133, mi_c133)) rfl (by decide) (Nat.le_of_ble_eq_true rfl) ?_
        refine mi_sem_steps mi_in133 (mi_calok_none _ _) 3 _ (3, [(0, .int ((a1 - a1 / 10 * 10)))], [.int 5, .int 0, .int ((a1 - a1 / 10 * 10))], (0, 0), mi_G) (by rfl) ?_
        have hM1422 : mi_Met mi_N0 1 mi_h131 [.int ((a1 - a1 / 10 * 10)), .int 0, .int 5] mi_G (some (.int 1)) mi_G := by
          refine mi_met_of (y := 131) (q := (mi_h131, mi_c131)) rfl (by decide) (Nat.le_of_ble_eq_true rfl) ?_
          refine mi_sem_steps mi_in131 (mi_calok_none _ _) 2 _ (2, [(0, .int ((a1 - a1 / 10 * 10))), (1, .int 0), (2, .int 5)], [.int 0, .int ((a1 - a1 / 10 * 10))], (0, 0), mi_G) (by rfl) ?_
          refine mi_sem_b mi_in131 (decide (((a1 - a1 / 10 * 10)) < 0)) false (mi_ltF (0) (by decide) (by omega)) 14 5 ([(0, .int ((a1 - a1 / 10 * 10))), (1, .int 0), (2, .int 5)], [], (0, 0), mi_G) (by rfl) ?_
          refine mi_sem_steps mi_in131 (mi_calok_none _ _) 2 _ (7, [(0, .int ((a1 - a1 / 10 * 10))), (1, .int 0), (2, .int 5)], [.int 5, .int ((a1 - a1 / 10 * 10))], (0, 0), mi_G) (by rfl) ?_
          refine mi_sem_b mi_in131 (decide (5 < ((a1 - a1 / 10 * 10)))) false (mi_ltF2 (5) (by decide) (by omega)) 14 10 ([(0, .int ((a1 - a1 / 10 * 10))), (1, .int 0), (2, .int 5)], [], (0, 0), mi_G) (by rfl) ?_
          refine mi_sem_steps mi_in131 (mi_calok_none _ _) 2 _ (15, [(0, .int ((a1 - a1 / 10 * 10))), (1, .int 0), (2, .int 5)], [.int 1], (0, 0), mi_G) (by rfl) ?_
          exact mi_sem_ret (cal := fun _ _ _ => none) mi_in131 (by rfl)
        refine mi_sem_call mi_in133 (i := (.invokestatic 119, 3, 131, 0, 9, 0, 379)) (by rfl) (by rfl) hM1422 (by decide) ⟨Nat.le_of_ble_eq_true rfl, Nat.le_of_ble_eq_true rfl⟩ ?_
        exact mi_sem_ret (cal := fun _ _ _ => none) mi_in133 (by rfl)
      refine mi_sem_call mi_in190 (i := (.invokestatic 127, 3, 133, 0, 9, 0, 382)) (by rfl) (by rfl) hM1423 (by decide) ⟨Nat.le_of_ble_eq_true rfl, Nat.le_of_ble_eq_true rfl⟩ ?_
      refine mi_sem_steps mi_in190 (mi_calok_none _ _) 3 _ (29, [(0, .ref 116), (1, .int a1)], [.int 1], (0, 0), mi_G) (by rfl) ?_
      exact mi_sem_ret (cal := fun _ _ _ => none) mi_in190 (by rfl)
    refine mi_sem_call mi_in197 (i := (.invokevirtual 314, 3, 190, 0, 9, 0, 442)) (by rfl) (by rfl) hM1424 (by decide) ⟨Nat.le_of_ble_eq_true rfl, Nat.le_of_ble_eq_true rfl⟩ ?_
    refine mi_sem_steps mi_in197 (mi_calok_none _ _) 4 _ (11, [(0, .ref 116), (1, .int a1), (2, .int a2), (3, .int 1)], [.int 3, .int 0, .int 1], (0, 0), mi_G) (by rfl) ?_
    have hM1425 : mi_Met mi_N0 1 mi_h131 [.int 1, .int 0, .int 3] mi_G (some (.int 1)) mi_G := mi_fun_ok mi_N0 1 131 (mi_h131, mi_c131) _ _ _ _ rfl (mi_eR_ok (by decide +kernel))
    refine mi_sem_call mi_in197 (i := (.invokestatic 119, 3, 131, 0, 9, 0, 379)) (by rfl) (by rfl) hM1425 (by decide) ⟨Nat.le_of_ble_eq_true rfl, Nat.le_of_ble_eq_true rfl⟩ ?_
    refine mi_sem_steps mi_in197 (mi_calok_none _ _) 2 _ (18, [(0, .ref 116), (1, .int a1), (2, .int a2), (3, .int 1)], [.int a2], (0, 0), mi_G) (by rfl) ?_
    refine mi_sem_b mi_in197 (decide (a2 < 0)) false (mi_ltF (0) (by decide) (by omega)) 42 21 ([(0, .ref 116), (1, .int a1), (2, .int a2), (3, .int 1)], [], (0, 0), mi_G) (by rfl) ?_
    refine mi_sem_steps mi_in197 (mi_calok_none _ _) 7 _ (46, [(0, .ref 116), (1, .int a1), (2, .int a2), (3, .int 1)], [.int a1, .ref 116], (0, 0), mi_G) (by rfl) ?_
    have hM1427 : mi_Met mi_N0 2 mi_h191 [.ref 116, .int a1] mi_G (some (.int (-11))) mi_G := by
      refine mi_met_of (y := 191) (q := (mi_h191, mi_c191)) rfl (by decide) (Nat.le_of_ble_eq_true rfl) ?_
      refine mi_sem_steps mi_in191 (mi_calok_none _ _) 4 _ (5, [(0, .ref 116), (1, .int a1)], [.int ((a1 / 10)), .ref 116], (0, 0), mi_G) (by rfl) ?_
      refine mi_sem_eq (x1 := (5, [(0, .ref 116), (1, .int a1)], [.int 5, .ref 116], (0, 0), mi_G)) (by rw [q1]) ?_
      have hM1426 : mi_Met mi_N0 1 mi_h173 [.ref 116, .int 5] mi_G (some (.int (-11))) mi_G := mi_fun_ok mi_N0 1 173 (mi_h173, mi_c173) _ _ _ _ rfl (mi_eR_ok (by decide +kernel))
      refine mi_sem_call mi_in191 (i := (.invokevirtual 276, 3, 173, 0, 9, 0, 410)) (by rfl) (by rfl) hM1426 (by decide) ⟨Nat.le_of_ble_eq_true rfl, Nat.le_of_ble_eq_true rfl⟩ ?_
      refine mi_sem_steps mi_in191 (mi_calok_none _ _) 5 _ (25, [(2, .int (-11)), (0, .ref 116), (1, .int a1)], [.int (-11)], (0, 0), mi_G) (by rfl) ?_
      exact mi_sem_ret (cal := fun _ _ _ => none) mi_in191 (by rfl)
    refine mi_sem_call mi_in197 (i := (.invokevirtual 317, 3, 191, 0, 9, 0, 443)) (by rfl) (by rfl) hM1427 (by decide) ⟨Nat.le_of_ble_eq_true rfl, Nat.le_of_ble_eq_true rfl⟩ ?_
    refine mi_sem_steps mi_in197 (mi_calok_none _ _) 4 _ (58, [(4, .int (-11)), (0, .ref 116), (1, .int a1), (2, .int a2), (3, .int 1)], [.int (-11)], (0, 0), mi_G) (by rfl) ?_
    exact mi_sem_ret (cal := fun _ _ _ => none) mi_in197 (by rfl)

set_option maxRecDepth 100000 in
set_option maxHeartbeats 4000000 in
theorem mp_fits_18 (a1 : Int32) (a2 : Int32) (a3 : Int32) (r0 : 0 ≤ (a1).toInt ∧ (a1).toInt ≤ 2147483647) (r1 : 0 ≤ ((a1 / 10)).toInt ∧ ((a1 / 10)).toInt ≤ 5) (r2 : 0 ≤ ((a1 - a1 / 10 * 10)).toInt ∧ ((a1 - a1 / 10 * 10)).toInt ≤ 5) (r3 : 2 ≤ (a3).toInt ∧ (a3).toInt ≤ 3) (r4 : 0 ≤ (a2).toInt ∧ (a2).toInt ≤ 2147483647) : mi_P 98 197 [.int a1, .int a2, .int a3] := by
  refine ⟨.int (-1), mi_G, mi_G, (mi_h98, mi_c98), (mi_h197, mi_c197), 4, 4, rfl, rfl, rfl, by decide, by decide, ?_, ?_⟩
  · refine mi_met_of (y := 98) (q := (mi_h98, mi_c98)) rfl (by decide) (Nat.le_of_ble_eq_true rfl) ?_
    refine mi_sem_steps mi_in98 (mi_calok_none _ _) 1 _ (1, [(0, .ref 0), (1, .int a1), (2, .int a2), (3, .int a3)], [.int a1], (0, 0), mi_G) (by rfl) ?_
    have hM1432 : mi_Met mi_N0 3 mi_h122 [.int a1] mi_G (some (.int 1)) mi_G := by
      refine mi_met_of (y := 122) (q := (mi_h122, mi_c122)) rfl (by decide) (Nat.le_of_ble_eq_true rfl) ?_
      refine mi_sem_steps mi_in122 (mi_calok_none _ _) 1 _ (1, [(0, .int a1)], [.int a1], (0, 0), mi_G) (by rfl) ?_
      refine mi_sem_b mi_in122 (decide (a1 < 0)) false (mi_ltF (0) (by decide) (by omega)) 28 4 ([(0, .int a1)], [], (0, 0), mi_G) (by rfl) ?_
      refine mi_sem_steps mi_in122 (mi_calok_none _ _) 3 _ (8, [(0, .int a1)], [.int ((a1 / 10))], (0, 0), mi_G) (by rfl) ?_
      have hM1429 : mi_Met mi_N0 2 mi_h121 [.int ((a1 / 10))] mi_G (some (.int 1)) mi_G := by
        refine mi_met_of (y := 121) (q := (mi_h121, mi_c121)) rfl (by decide) (Nat.le_of_ble_eq_true rfl) ?_
        refine mi_sem_steps mi_in121 (mi_calok_none _ _) 3 _ (3, [(0, .int ((a1 / 10)))], [.int 5, .int 0, .int ((a1 / 10))], (0, 0), mi_G) (by rfl) ?_
        have hM1428 : mi_Met mi_N0 1 mi_h120 [.int ((a1 / 10)), .int 0, .int 5] mi_G (some (.int 1)) mi_G := by
          refine mi_met_of (y := 120) (q := (mi_h120, mi_c120)) rfl (by decide) (Nat.le_of_ble_eq_true rfl) ?_
          refine mi_sem_steps mi_in120 (mi_calok_none _ _) 2 _ (2, [(0, .int ((a1 / 10))), (1, .int 0), (2, .int 5)], [.int 0, .int ((a1 / 10))], (0, 0), mi_G) (by rfl) ?_
          refine mi_sem_b mi_in120 (decide (((a1 / 10)) < 0)) false (mi_ltF (0) (by decide) (by omega)) 14 5 ([(0, .int ((a1 / 10))), (1, .int 0), (2, .int 5)], [], (0, 0), mi_G) (by rfl) ?_
          refine mi_sem_steps mi_in120 (mi_calok_none _ _) 2 _ (7, [(0, .int ((a1 / 10))), (1, .int 0), (2, .int 5)], [.int 5, .int ((a1 / 10))], (0, 0), mi_G) (by rfl) ?_
          refine mi_sem_b mi_in120 (decide (5 < ((a1 / 10)))) false (mi_ltF2 (5) (by decide) (by omega)) 14 10 ([(0, .int ((a1 / 10))), (1, .int 0), (2, .int 5)], [], (0, 0), mi_G) (by rfl) ?_
          refine mi_sem_steps mi_in120 (mi_calok_none _ _) 2 _ (15, [(0, .int ((a1 / 10))), (1, .int 0), (2, .int 5)], [.int 1], (0, 0), mi_G) (by rfl) ?_
          exact mi_sem_ret (cal := fun _ _ _ => none) mi_in120 (by rfl)
        refine mi_sem_call mi_in121 (i := (.invokestatic 74, 3, 120, 0, 9, 0, 152)) (by rfl) (by rfl) hM1428 (by decide) ⟨Nat.le_of_ble_eq_true rfl, Nat.le_of_ble_eq_true rfl⟩ ?_
        exact mi_sem_ret (cal := fun _ _ _ => none) mi_in121 (by rfl)
      refine mi_sem_call mi_in122 (i := (.invokestatic 70, 3, 121, 0, 9, 0, 157)) (by rfl) (by rfl) hM1429 (by decide) ⟨Nat.le_of_ble_eq_true rfl, Nat.le_of_ble_eq_true rfl⟩ ?_
      refine mi_sem_steps mi_in122 (mi_calok_none _ _) 4 _ (18, [(0, .int a1)], [.int ((a1 - a1 / 10 * 10))], (0, 0), mi_G) (by rfl) ?_
      have hM1431 : mi_Met mi_N0 2 mi_h121 [.int ((a1 - a1 / 10 * 10))] mi_G (some (.int 1)) mi_G := by
        refine mi_met_of (y := 121) (q := (mi_h121, mi_c121)) rfl (by decide) (Nat.le_of_ble_eq_true rfl) ?_
        refine mi_sem_steps mi_in121 (mi_calok_none _ _) 3 _ (3, [(0, .int ((a1 - a1 / 10 * 10)))], [.int 5, .int 0, .int ((a1 - a1 / 10 * 10))], (0, 0), mi_G) (by rfl) ?_
        have hM1430 : mi_Met mi_N0 1 mi_h120 [.int ((a1 - a1 / 10 * 10)), .int 0, .int 5] mi_G (some (.int 1)) mi_G := by
          refine mi_met_of (y := 120) (q := (mi_h120, mi_c120)) rfl (by decide) (Nat.le_of_ble_eq_true rfl) ?_
          refine mi_sem_steps mi_in120 (mi_calok_none _ _) 2 _ (2, [(0, .int ((a1 - a1 / 10 * 10))), (1, .int 0), (2, .int 5)], [.int 0, .int ((a1 - a1 / 10 * 10))], (0, 0), mi_G) (by rfl) ?_
          refine mi_sem_b mi_in120 (decide (((a1 - a1 / 10 * 10)) < 0)) false (mi_ltF (0) (by decide) (by omega)) 14 5 ([(0, .int ((a1 - a1 / 10 * 10))), (1, .int 0), (2, .int 5)], [], (0, 0), mi_G) (by rfl) ?_
          refine mi_sem_steps mi_in120 (mi_calok_none _ _) 2 _ (7, [(0, .int ((a1 - a1 / 10 * 10))), (1, .int 0), (2, .int 5)], [.int 5, .int ((a1 - a1 / 10 * 10))], (0, 0), mi_G) (by rfl) ?_
          refine mi_sem_b mi_in120 (decide (5 < ((a1 - a1 / 10 * 10)))) false (mi_ltF2 (5) (by decide) (by omega)) 14 10 ([(0, .int ((a1 - a1 / 10 * 10))), (1, .int 0), (2, .int 5)], [], (0, 0), mi_G) (by rfl) ?_
          refine mi_sem_steps mi_in120 (mi_calok_none _ _) 2 _ (15, [(0, .int ((a1 - a1 / 10 * 10))), (1, .int 0), (2, .int 5)], [.int 1], (0, 0), mi_G) (by rfl) ?_
          exact mi_sem_ret (cal := fun _ _ _ => none) mi_in120 (by rfl)
        refine mi_sem_call mi_in121 (i := (.invokestatic 74, 3, 120, 0, 9, 0, 152)) (by rfl) (by rfl) hM1430 (by decide) ⟨Nat.le_of_ble_eq_true rfl, Nat.le_of_ble_eq_true rfl⟩ ?_
        exact mi_sem_ret (cal := fun _ _ _ => none) mi_in121 (by rfl)
      refine mi_sem_call mi_in122 (i := (.invokestatic 70, 3, 121, 0, 9, 0, 157)) (by rfl) (by rfl) hM1431 (by decide) ⟨Nat.le_of_ble_eq_true rfl, Nat.le_of_ble_eq_true rfl⟩ ?_
      refine mi_sem_steps mi_in122 (mi_calok_none _ _) 3 _ (29, [(0, .int a1)], [.int 1], (0, 0), mi_G) (by rfl) ?_
      exact mi_sem_ret (cal := fun _ _ _ => none) mi_in122 (by rfl)
    refine mi_sem_call mi_in98 (i := (.invokestatic 214, 3, 122, 0, 9, 0, 260)) (by rfl) (by rfl) hM1432 (by decide) ⟨Nat.le_of_ble_eq_true rfl, Nat.le_of_ble_eq_true rfl⟩ ?_
    refine mi_sem_steps mi_in98 (mi_calok_none _ _) 4 _ (10, [(0, .ref 0), (1, .int a1), (2, .int a2), (3, .int a3)], [.int 3, .int 0, .int a3], (0, 0), mi_G) (by rfl) ?_
    have hM1433 : mi_Met mi_N0 1 mi_h120 [.int a3, .int 0, .int 3] mi_G (some (.int 1)) mi_G := by
      refine mi_met_of (y := 120) (q := (mi_h120, mi_c120)) rfl (by decide) (Nat.le_of_ble_eq_true rfl) ?_
      refine mi_sem_steps mi_in120 (mi_calok_none _ _) 2 _ (2, [(0, .int a3), (1, .int 0), (2, .int 3)], [.int 0, .int a3], (0, 0), mi_G) (by rfl) ?_
      refine mi_sem_b mi_in120 (decide (a3 < 0)) false (mi_ltF (0) (by decide) (by omega)) 14 5 ([(0, .int a3), (1, .int 0), (2, .int 3)], [], (0, 0), mi_G) (by rfl) ?_
      refine mi_sem_steps mi_in120 (mi_calok_none _ _) 2 _ (7, [(0, .int a3), (1, .int 0), (2, .int 3)], [.int 3, .int a3], (0, 0), mi_G) (by rfl) ?_
      refine mi_sem_b mi_in120 (decide (3 < a3)) false (mi_ltF2 (3) (by decide) (by omega)) 14 10 ([(0, .int a3), (1, .int 0), (2, .int 3)], [], (0, 0), mi_G) (by rfl) ?_
      refine mi_sem_steps mi_in120 (mi_calok_none _ _) 2 _ (15, [(0, .int a3), (1, .int 0), (2, .int 3)], [.int 1], (0, 0), mi_G) (by rfl) ?_
      exact mi_sem_ret (cal := fun _ _ _ => none) mi_in120 (by rfl)
    refine mi_sem_call mi_in98 (i := (.invokestatic 74, 3, 120, 0, 9, 0, 152)) (by rfl) (by rfl) hM1433 (by decide) ⟨Nat.le_of_ble_eq_true rfl, Nat.le_of_ble_eq_true rfl⟩ ?_
    refine mi_sem_steps mi_in98 (mi_calok_none _ _) 2 _ (17, [(0, .ref 0), (1, .int a1), (2, .int a2), (3, .int a3)], [.int a2], (0, 0), mi_G) (by rfl) ?_
    refine mi_sem_b mi_in98 (decide (0 ≤ a2)) true (mi_leT2 (0) (by decide) (by omega)) 22 20 ([(0, .ref 0), (1, .int a1), (2, .int a2), (3, .int a3)], [], (0, 0), mi_G) (by rfl) ?_
    refine mi_sem_steps mi_in98 (mi_calok_none _ _) 1 _ (23, [(0, .ref 0), (1, .int a1), (2, .int a2), (3, .int a3)], [.int a3], (0, 0), mi_G) (by rfl) ?_
    refine mi_sem_b mi_in98 ((a3 != 0)) true (mi_neT (0) (by decide) (by omega)) 30 26 ([(0, .ref 0), (1, .int a1), (2, .int a2), (3, .int a3)], [], (0, 0), mi_G) (by rfl) ?_
    refine mi_sem_steps mi_in98 (mi_calok_none _ _) 2 _ (32, [(0, .ref 0), (1, .int a1), (2, .int a2), (3, .int a3)], [.int 2, .int a3], (0, 0), mi_G) (by rfl) ?_
    refine mi_sem_b mi_in98 (decide (a3 < 2)) false (mi_ltF (2) (by decide) (by omega)) 45 35 ([(0, .ref 0), (1, .int a1), (2, .int a2), (3, .int a3)], [], (0, 0), mi_G) (by rfl) ?_
    refine mi_sem_steps mi_in98 (mi_calok_none _ _) 2 _ (37, [(0, .ref 0), (1, .int a1), (2, .int a2), (3, .int a3)], [.int a2, .ref 0], (0, 0), mi_G) (by rfl) ?_
    have hM1435 : mi_Met mi_N0 2 mi_h123 [.ref 0, .int a2] mi_G (some (.int 0)) mi_G := by
      refine mi_met_of (y := 123) (q := (mi_h123, mi_c123)) rfl (by decide) (Nat.le_of_ble_eq_true rfl) ?_
      refine mi_sem_steps mi_in123 (mi_calok_none _ _) 3 _ (5, [(0, .ref 0), (1, .int a2)], [.int a2, .ref 1], (0, 0), mi_G) (by rfl) ?_
      have hM1434 : mi_Met mi_N0 1 mi_h24 [.ref 1, .int a2] mi_G (some (.int 0)) mi_G := by
        refine mi_met_of (y := 24) (q := (mi_h24, mi_c24)) rfl (by decide) (Nat.le_of_ble_eq_true rfl) ?_
        refine mi_sem_steps mi_in24 (mi_calok_none _ _) 1 _ (1, [(0, .ref 1), (1, .int a2)], [.int a2], (0, 0), mi_G) (by rfl) ?_
        refine mi_sem_b mi_in24 (decide (a2 < 0)) false (mi_ltF (0) (by decide) (by omega)) 22 4 ([(0, .ref 1), (1, .int a2)], [], (0, 0), mi_G) (by rfl) ?_
        refine mi_sem_steps mi_in24 (mi_calok_none _ _) 3 _ (9, [(0, .ref 1), (1, .int a2)], [.int 0, .int a2], (0, 0), mi_G) (by rfl) ?_
        refine mi_sem_b mi_in24 (decide (0 ≤ a2)) true (mi_leT2 (0) (by decide) (by omega)) 22 12 ([(0, .ref 1), (1, .int a2)], [], (0, 0), mi_G) (by rfl) ?_
        refine mi_sem_steps mi_in24 (mi_calok_none _ _) 1 _ (23, [(0, .ref 1), (1, .int a2)], [.int 0], (0, 0), mi_G) (by rfl) ?_
        exact mi_sem_ret (cal := fun _ _ _ => none) mi_in24 (by rfl)
      refine mi_sem_call mi_in123 (i := (.invokevirtual 342, 3, 24, 0, 9, 0, 163)) (by rfl) (by rfl) hM1434 (by decide) ⟨Nat.le_of_ble_eq_true rfl, Nat.le_of_ble_eq_true rfl⟩ ?_
      exact mi_sem_ret (cal := fun _ _ _ => none) mi_in123 (by rfl)
    refine mi_sem_call mi_in98 (i := (.invokevirtual 141, 3, 123, 0, 9, 0, 162)) (by rfl) (by rfl) hM1435 (by decide) ⟨Nat.le_of_ble_eq_true rfl, Nat.le_of_ble_eq_true rfl⟩ ?_
    refine mi_sem_steps mi_in98 (mi_calok_none _ _) 2 _ (44, [(0, .ref 0), (1, .int a1), (2, .int a2), (3, .int a3)], [.int (-1)], (0, 0), mi_G) (by rfl) ?_
    exact mi_sem_ret (cal := fun _ _ _ => none) mi_in98 (by rfl)
  · refine mi_met_of (y := 197) (q := (mi_h197, mi_c197)) rfl (by decide) (Nat.le_of_ble_eq_true rfl) ?_
    refine mi_sem_steps mi_in197 (mi_calok_none _ _) 2 _ (2, [(0, .ref 116), (1, .int a1), (2, .int a2), (3, .int a3)], [.int a1, .ref 116], (0, 0), mi_G) (by rfl) ?_
    have hM1440 : mi_Met mi_N0 3 mi_h190 [.ref 116, .int a1] mi_G (some (.int 1)) mi_G := by
      refine mi_met_of (y := 190) (q := (mi_h190, mi_c190)) rfl (by decide) (Nat.le_of_ble_eq_true rfl) ?_
      refine mi_sem_steps mi_in190 (mi_calok_none _ _) 1 _ (1, [(0, .ref 116), (1, .int a1)], [.int a1], (0, 0), mi_G) (by rfl) ?_
      refine mi_sem_b mi_in190 (decide (a1 < 0)) false (mi_ltF (0) (by decide) (by omega)) 28 4 ([(0, .ref 116), (1, .int a1)], [], (0, 0), mi_G) (by rfl) ?_
      refine mi_sem_steps mi_in190 (mi_calok_none _ _) 3 _ (8, [(0, .ref 116), (1, .int a1)], [.int ((a1 / 10))], (0, 0), mi_G) (by rfl) ?_
      have hM1437 : mi_Met mi_N0 2 mi_h133 [.int ((a1 / 10))] mi_G (some (.int 1)) mi_G := by
        refine mi_met_of (y := 133) (q := (mi_h133, mi_c133)) rfl (by decide) (Nat.le_of_ble_eq_true rfl) ?_
        refine mi_sem_steps mi_in133 (mi_calok_none _ _) 3 _ (3, [(0, .int ((a1 / 10)))], [.int 5, .int 0, .int ((a1 / 10))], (0, 0), mi_G) (by rfl) ?_
        have hM1436 : mi_Met mi_N0 1 mi_h131 [.int ((a1 / 10)), .int 0, .int 5] mi_G (some (.int 1)) mi_G := by
          refine mi_met_of (y := 131) (q := (mi_h131, mi_c131)) rfl (by decide) (Nat.le_of_ble_eq_true rfl) ?_
          refine mi_sem_steps mi_in131 (mi_calok_none _ _) 2 _ (2, [(0, .int ((a1 / 10))), (1, .int 0), (2, .int 5)], [.int 0, .int ((a1 / 10))], (0, 0), mi_G) (by rfl) ?_
          refine mi_sem_b mi_in131 (decide (((a1 / 10)) < 0)) false (mi_ltF (0) (by decide) (by omega)) 14 5 ([(0, .int ((a1 / 10))), (1, .int 0), (2, .int 5)], [], (0, 0), mi_G) (by rfl) ?_
          refine mi_sem_steps mi_in131 (mi_calok_none _ _) 2 _ (7, [(0, .int ((a1 / 10))), (1, .int 0), (2, .int 5)], [.int 5, .int ((a1 / 10))], (0, 0), mi_G) (by rfl) ?_
          refine mi_sem_b mi_in131 (decide (5 < ((a1 / 10)))) false (mi_ltF2 (5) (by decide) (by omega)) 14 10 ([(0, .int ((a1 / 10))), (1, .int 0), (2, .int 5)], [], (0, 0), mi_G) (by rfl) ?_
          refine mi_sem_steps mi_in131 (mi_calok_none _ _) 2 _ (15, [(0, .int ((a1 / 10))), (1, .int 0), (2, .int 5)], [.int 1], (0, 0), mi_G) (by rfl) ?_
          exact mi_sem_ret (cal := fun _ _ _ => none) mi_in131 (by rfl)
        refine mi_sem_call mi_in133 (i := (.invokestatic 119, 3, 131, 0, 9, 0, 379)) (by rfl) (by rfl) hM1436 (by decide) ⟨Nat.le_of_ble_eq_true rfl, Nat.le_of_ble_eq_true rfl⟩ ?_
        exact mi_sem_ret (cal := fun _ _ _ => none) mi_in133 (by rfl)
      refine mi_sem_call mi_in190 (i := (.invokestatic 127, 3, 133, 0, 9, 0, 382)) (by rfl) (by rfl) hM1437 (by decide) ⟨Nat.le_of_ble_eq_true rfl, Nat.le_of_ble_eq_true rfl⟩ ?_
      refine mi_sem_steps mi_in190 (mi_calok_none _ _) 4 _ (18, [(0, .ref 116), (1, .int a1)], [.int ((a1 - a1 / 10 * 10))], (0, 0), mi_G) (by rfl) ?_
      have hM1439 : mi_Met mi_N0 2 mi_h133 [.int ((a1 - a1 / 10 * 10))] mi_G (some (.int 1)) mi_G := by
        refine mi_met_of (y := 133) (q := (mi_h133, mi_c133)) rfl (by decide) (Nat.le_of_ble_eq_true rfl) ?_
        refine mi_sem_steps mi_in133 (mi_calok_none _ _) 3 _ (3, [(0, .int ((a1 - a1 / 10 * 10)))], [.int 5, .int 0, .int ((a1 - a1 / 10 * 10))], (0, 0), mi_G) (by rfl) ?_
        have hM1438 : mi_Met mi_N0 1 mi_h131 [.int ((a1 - a1 / 10 * 10)), .int 0, .int 5] mi_G (some (.int 1)) mi_G := by
          refine mi_met_of (y := 131) (q := (mi_h131, mi_c131)) rfl (by decide) (Nat.le_of_ble_eq_true rfl) ?_
          refine mi_sem_steps mi_in131 (mi_calok_none _ _) 2 _ (2, [(0, .int ((a1 - a1 / 10 * 10))), (1, .int 0), (2, .int 5)], [.int 0, .int ((a1 - a1 / 10 * 10))], (0, 0), mi_G) (by rfl) ?_
          refine mi_sem_b mi_in131 (decide (((a1 - a1 / 10 * 10)) < 0)) false (mi_ltF (0) (by decide) (by omega)) 14 5 ([(0, .int ((a1 - a1 / 10 * 10))), (1, .int 0), (2, .int 5)], [], (0, 0), mi_G) (by rfl) ?_
          refine mi_sem_steps mi_in131 (mi_calok_none _ _) 2 _ (7, [(0, .int ((a1 - a1 / 10 * 10))), (1, .int 0), (2, .int 5)], [.int 5, .int ((a1 - a1 / 10 * 10))], (0, 0), mi_G) (by rfl) ?_
          refine mi_sem_b mi_in131 (decide (5 < ((a1 - a1 / 10 * 10)))) false (mi_ltF2 (5) (by decide) (by omega)) 14 10 ([(0, .int ((a1 - a1 / 10 * 10))), (1, .int 0), (2, .int 5)], [], (0, 0), mi_G) (by rfl) ?_
          refine mi_sem_steps mi_in131 (mi_calok_none _ _) 2 _ (15, [(0, .int ((a1 - a1 / 10 * 10))), (1, .int 0), (2, .int 5)], [.int 1], (0, 0), mi_G) (by rfl) ?_
          exact mi_sem_ret (cal := fun _ _ _ => none) mi_in131 (by rfl)
        refine mi_sem_call mi_in133 (i := (.invokestatic 119, 3, 131, 0, 9, 0, 379)) (by rfl) (by rfl) hM1438 (by decide) ⟨Nat.le_of_ble_eq_true rfl, Nat.le_of_ble_eq_true rfl⟩ ?_
        exact mi_sem_ret (cal := fun _ _ _ => none) mi_in133 (by rfl)
      refine mi_sem_call mi_in190 (i := (.invokestatic 127, 3, 133, 0, 9, 0, 382)) (by rfl) (by rfl) hM1439 (by decide) ⟨Nat.le_of_ble_eq_true rfl, Nat.le_of_ble_eq_true rfl⟩ ?_
      refine mi_sem_steps mi_in190 (mi_calok_none _ _) 3 _ (29, [(0, .ref 116), (1, .int a1)], [.int 1], (0, 0), mi_G) (by rfl) ?_
      exact mi_sem_ret (cal := fun _ _ _ => none) mi_in190 (by rfl)
    refine mi_sem_call mi_in197 (i := (.invokevirtual 314, 3, 190, 0, 9, 0, 442)) (by rfl) (by rfl) hM1440 (by decide) ⟨Nat.le_of_ble_eq_true rfl, Nat.le_of_ble_eq_true rfl⟩ ?_
    refine mi_sem_steps mi_in197 (mi_calok_none _ _) 4 _ (11, [(0, .ref 116), (1, .int a1), (2, .int a2), (3, .int a3)], [.int 3, .int 0, .int a3], (0, 0), mi_G) (by rfl) ?_
    have hM1441 : mi_Met mi_N0 1 mi_h131 [.int a3, .int 0, .int 3] mi_G (some (.int 1)) mi_G := by
      refine mi_met_of (y := 131) (q := (mi_h131, mi_c131)) rfl (by decide) (Nat.le_of_ble_eq_true rfl) ?_
      refine mi_sem_steps mi_in131 (mi_calok_none _ _) 2 _ (2, [(0, .int a3), (1, .int 0), (2, .int 3)], [.int 0, .int a3], (0, 0), mi_G) (by rfl) ?_
      refine mi_sem_b mi_in131 (decide (a3 < 0)) false (mi_ltF (0) (by decide) (by omega)) 14 5 ([(0, .int a3), (1, .int 0), (2, .int 3)], [], (0, 0), mi_G) (by rfl) ?_
      refine mi_sem_steps mi_in131 (mi_calok_none _ _) 2 _ (7, [(0, .int a3), (1, .int 0), (2, .int 3)], [.int 3, .int a3], (0, 0), mi_G) (by rfl) ?_
      refine mi_sem_b mi_in131 (decide (3 < a3)) false (mi_ltF2 (3) (by decide) (by omega)) 14 10 ([(0, .int a3), (1, .int 0), (2, .int 3)], [], (0, 0), mi_G) (by rfl) ?_
      refine mi_sem_steps mi_in131 (mi_calok_none _ _) 2 _ (15, [(0, .int a3), (1, .int 0), (2, .int 3)], [.int 1], (0, 0), mi_G) (by rfl) ?_
      exact mi_sem_ret (cal := fun _ _ _ => none) mi_in131 (by rfl)
    refine mi_sem_call mi_in197 (i := (.invokestatic 119, 3, 131, 0, 9, 0, 379)) (by rfl) (by rfl) hM1441 (by decide) ⟨Nat.le_of_ble_eq_true rfl, Nat.le_of_ble_eq_true rfl⟩ ?_
    refine mi_sem_steps mi_in197 (mi_calok_none _ _) 2 _ (18, [(0, .ref 116), (1, .int a1), (2, .int a2), (3, .int a3)], [.int a2], (0, 0), mi_G) (by rfl) ?_
    refine mi_sem_b mi_in197 (decide (a2 < 0)) false (mi_ltF (0) (by decide) (by omega)) 42 21 ([(0, .ref 116), (1, .int a1), (2, .int a2), (3, .int a3)], [], (0, 0), mi_G) (by rfl) ?_
    refine mi_sem_steps mi_in197 (mi_calok_none _ _) 1 _ (22, [(0, .ref 116), (1, .int a1), (2, .int a2), (3, .int a3)], [.int a3], (0, 0), mi_G) (by rfl) ?_
    refine mi_sem_b mi_in197 ((a3 != 0)) true (mi_neT (0) (by decide) (by omega)) 29 25 ([(0, .ref 116), (1, .int a1), (2, .int a2), (3, .int a3)], [], (0, 0), mi_G) (by rfl) ?_
    refine mi_sem_steps mi_in197 (mi_calok_none _ _) 2 _ (31, [(0, .ref 116), (1, .int a1), (2, .int a2), (3, .int a3)], [.int 1, .int a3], (0, 0), mi_G) (by rfl) ?_
    refine mi_sem_b mi_in197 (decide (a3 ≤ 1)) false (mi_leF (1) (by decide) (by omega)) 44 34 ([(0, .ref 116), (1, .int a1), (2, .int a2), (3, .int a3)], [], (0, 0), mi_G) (by rfl) ?_
    refine mi_sem_steps mi_in197 (mi_calok_none _ _) 2 _ (36, [(0, .ref 116), (1, .int a1), (2, .int a2), (3, .int a3)], [.int a2, .ref 116], (0, 0), mi_G) (by rfl) ?_
    have hM1443 : mi_Met mi_N0 2 mi_h132 [.ref 116, .int a2] mi_G (some (.int 0)) mi_G := by
      refine mi_met_of (y := 132) (q := (mi_h132, mi_c132)) rfl (by decide) (Nat.le_of_ble_eq_true rfl) ?_
      refine mi_sem_steps mi_in132 (mi_calok_none _ _) 6 _ (8, [(0, .ref 116), (1, .int a2)], [.int (-1), .int 0, .int a2], (0, 0), mi_G) (by rfl) ?_
      have hM1442 : mi_Met mi_N0 1 mi_h131 [.int a2, .int 0, .int (-1)] mi_G (some (.int 0)) mi_G := by
        refine mi_met_of (y := 131) (q := (mi_h131, mi_c131)) rfl (by decide) (Nat.le_of_ble_eq_true rfl) ?_
        refine mi_sem_steps mi_in131 (mi_calok_none _ _) 2 _ (2, [(0, .int a2), (1, .int 0), (2, .int (-1))], [.int 0, .int a2], (0, 0), mi_G) (by rfl) ?_
        refine mi_sem_b mi_in131 (decide (a2 < 0)) false (mi_ltF (0) (by decide) (by omega)) 14 5 ([(0, .int a2), (1, .int 0), (2, .int (-1))], [], (0, 0), mi_G) (by rfl) ?_
        refine mi_sem_steps mi_in131 (mi_calok_none _ _) 2 _ (7, [(0, .int a2), (1, .int 0), (2, .int (-1))], [.int (-1), .int a2], (0, 0), mi_G) (by rfl) ?_
        refine mi_sem_b mi_in131 (decide ((-1) < a2)) true (mi_ltT2 (-1) (by decide) (by omega)) 14 10 ([(0, .int a2), (1, .int 0), (2, .int (-1))], [], (0, 0), mi_G) (by rfl) ?_
        refine mi_sem_steps mi_in131 (mi_calok_none _ _) 1 _ (15, [(0, .int a2), (1, .int 0), (2, .int (-1))], [.int 0], (0, 0), mi_G) (by rfl) ?_
        exact mi_sem_ret (cal := fun _ _ _ => none) mi_in131 (by rfl)
      refine mi_sem_call mi_in132 (i := (.invokestatic 119, 3, 131, 0, 9, 0, 379)) (by rfl) (by rfl) hM1442 (by decide) ⟨Nat.le_of_ble_eq_true rfl, Nat.le_of_ble_eq_true rfl⟩ ?_
      exact mi_sem_ret (cal := fun _ _ _ => none) mi_in132 (by rfl)
    refine mi_sem_call mi_in197 (i := (.invokevirtual 137, 3, 132, 0, 9, 0, 387)) (by rfl) (by rfl) hM1443 (by decide) ⟨Nat.le_of_ble_eq_true rfl, Nat.le_of_ble_eq_true rfl⟩ ?_
    refine mi_sem_steps mi_in197 (mi_calok_none _ _) 2 _ (43, [(0, .ref 116), (1, .int a1), (2, .int a2), (3, .int a3)], [.int (-1)], (0, 0), mi_G) (by rfl) ?_
    exact mi_sem_ret (cal := fun _ _ _ => none) mi_in197 (by rfl)

set_option maxRecDepth 100000 in
set_option maxHeartbeats 4000000 in
theorem mp_fits_19 (a1 : Int32) (a2 : Int32) (a3 : Int32) (r0 : 0 ≤ (a1).toInt ∧ (a1).toInt ≤ 2147483647) (r1 : 0 ≤ ((a1 / 10)).toInt ∧ ((a1 / 10)).toInt ≤ 5) (r2 : 0 ≤ ((a1 - a1 / 10 * 10)).toInt ∧ ((a1 - a1 / 10 * 10)).toInt ≤ 5) (r3 : 4 ≤ (a3).toInt ∧ (a3).toInt ≤ 2147483647) : mi_P 98 197 [.int a1, .int a2, .int a3] := by
  refine ⟨.int (-1), mi_G, mi_G, (mi_h98, mi_c98), (mi_h197, mi_c197), 4, 4, rfl, rfl, rfl, by decide, by decide, ?_, ?_⟩
  · refine mi_met_of (y := 98) (q := (mi_h98, mi_c98)) rfl (by decide) (Nat.le_of_ble_eq_true rfl) ?_
    refine mi_sem_steps mi_in98 (mi_calok_none _ _) 1 _ (1, [(0, .ref 0), (1, .int a1), (2, .int a2), (3, .int a3)], [.int a1], (0, 0), mi_G) (by rfl) ?_
    have hM1448 : mi_Met mi_N0 3 mi_h122 [.int a1] mi_G (some (.int 1)) mi_G := by
      refine mi_met_of (y := 122) (q := (mi_h122, mi_c122)) rfl (by decide) (Nat.le_of_ble_eq_true rfl) ?_
      refine mi_sem_steps mi_in122 (mi_calok_none _ _) 1 _ (1, [(0, .int a1)], [.int a1], (0, 0), mi_G) (by rfl) ?_
      refine mi_sem_b mi_in122 (decide (a1 < 0)) false (mi_ltF (0) (by decide) (by omega)) 28 4 ([(0, .int a1)], [], (0, 0), mi_G) (by rfl) ?_
      refine mi_sem_steps mi_in122 (mi_calok_none _ _) 3 _ (8, [(0, .int a1)], [.int ((a1 / 10))], (0, 0), mi_G) (by rfl) ?_
      have hM1445 : mi_Met mi_N0 2 mi_h121 [.int ((a1 / 10))] mi_G (some (.int 1)) mi_G := by
        refine mi_met_of (y := 121) (q := (mi_h121, mi_c121)) rfl (by decide) (Nat.le_of_ble_eq_true rfl) ?_
        refine mi_sem_steps mi_in121 (mi_calok_none _ _) 3 _ (3, [(0, .int ((a1 / 10)))], [.int 5, .int 0, .int ((a1 / 10))], (0, 0), mi_G) (by rfl) ?_
        have hM1444 : mi_Met mi_N0 1 mi_h120 [.int ((a1 / 10)), .int 0, .int 5] mi_G (some (.int 1)) mi_G := by
          refine mi_met_of (y := 120) (q := (mi_h120, mi_c120)) rfl (by decide) (Nat.le_of_ble_eq_true rfl) ?_
          refine mi_sem_steps mi_in120 (mi_calok_none _ _) 2 _ (2, [(0, .int ((a1 / 10))), (1, .int 0), (2, .int 5)], [.int 0, .int ((a1 / 10))], (0, 0), mi_G) (by rfl) ?_
          refine mi_sem_b mi_in120 (decide (((a1 / 10)) < 0)) false (mi_ltF (0) (by decide) (by omega)) 14 5 ([(0, .int ((a1 / 10))), (1, .int 0), (2, .int 5)], [], (0, 0), mi_G) (by rfl) ?_
          refine mi_sem_steps mi_in120 (mi_calok_none _ _) 2 _ (7, [(0, .int ((a1 / 10))), (1, .int 0), (2, .int 5)], [.int 5, .int ((a1 / 10))], (0, 0), mi_G) (by rfl) ?_
          refine mi_sem_b mi_in120 (decide (5 < ((a1 / 10)))) false (mi_ltF2 (5) (by decide) (by omega)) 14 10 ([(0, .int ((a1 / 10))), (1, .int 0), (2, .int 5)], [], (0, 0), mi_G) (by rfl) ?_
          refine mi_sem_steps mi_in120 (mi_calok_none _ _) 2 _ (15, [(0, .int ((a1 / 10))), (1, .int 0), (2, .int 5)], [.int 1], (0, 0), mi_G) (by rfl) ?_
          exact mi_sem_ret (cal := fun _ _ _ => none) mi_in120 (by rfl)
        refine mi_sem_call mi_in121 (i := (.invokestatic 74, 3, 120, 0, 9, 0, 152)) (by rfl) (by rfl) hM1444 (by decide) ⟨Nat.le_of_ble_eq_true rfl, Nat.le_of_ble_eq_true rfl⟩ ?_
        exact mi_sem_ret (cal := fun _ _ _ => none) mi_in121 (by rfl)
      refine mi_sem_call mi_in122 (i := (.invokestatic 70, 3, 121, 0, 9, 0, 157)) (by rfl) (by rfl) hM1445 (by decide) ⟨Nat.le_of_ble_eq_true rfl, Nat.le_of_ble_eq_true rfl⟩ ?_
      refine mi_sem_steps mi_in122 (mi_calok_none _ _) 4 _ (18, [(0, .int a1)], [.int ((a1 - a1 / 10 * 10))], (0, 0), mi_G) (by rfl) ?_
      have hM1447 : mi_Met mi_N0 2 mi_h121 [.int ((a1 - a1 / 10 * 10))] mi_G (some (.int 1)) mi_G := by
        refine mi_met_of (y := 121) (q := (mi_h121, mi_c121)) rfl (by decide) (Nat.le_of_ble_eq_true rfl) ?_
        refine mi_sem_steps mi_in121 (mi_calok_none _ _) 3 _ (3, [(0, .int ((a1 - a1 / 10 * 10)))], [.int 5, .int 0, .int ((a1 - a1 / 10 * 10))], (0, 0), mi_G) (by rfl) ?_
        have hM1446 : mi_Met mi_N0 1 mi_h120 [.int ((a1 - a1 / 10 * 10)), .int 0, .int 5] mi_G (some (.int 1)) mi_G := by
          refine mi_met_of (y := 120) (q := (mi_h120, mi_c120)) rfl (by decide) (Nat.le_of_ble_eq_true rfl) ?_
          refine mi_sem_steps mi_in120 (mi_calok_none _ _) 2 _ (2, [(0, .int ((a1 - a1 / 10 * 10))), (1, .int 0), (2, .int 5)], [.int 0, .int ((a1 - a1 / 10 * 10))], (0, 0), mi_G) (by rfl) ?_
          refine mi_sem_b mi_in120 (decide (((a1 - a1 / 10 * 10)) < 0)) false (mi_ltF (0) (by decide) (by omega)) 14 5 ([(0, .int ((a1 - a1 / 10 * 10))), (1, .int 0), (2, .int 5)], [], (0, 0), mi_G) (by rfl) ?_
          refine mi_sem_steps mi_in120 (mi_calok_none _ _) 2 _ (7, [(0, .int ((a1 - a1 / 10 * 10))), (1, .int 0), (2, .int 5)], [.int 5, .int ((a1 - a1 / 10 * 10))], (0, 0), mi_G) (by rfl) ?_
          refine mi_sem_b mi_in120 (decide (5 < ((a1 - a1 / 10 * 10)))) false (mi_ltF2 (5) (by decide) (by omega)) 14 10 ([(0, .int ((a1 - a1 / 10 * 10))), (1, .int 0), (2, .int 5)], [], (0, 0), mi_G) (by rfl) ?_
          refine mi_sem_steps mi_in120 (mi_calok_none _ _) 2 _ (15, [(0, .int ((a1 - a1 / 10 * 10))), (1, .int 0), (2, .int 5)], [.int 1], (0, 0), mi_G) (by rfl) ?_
          exact mi_sem_ret (cal := fun _ _ _ => none) mi_in120 (by rfl)
        refine mi_sem_call mi_in121 (i := (.invokestatic 74, 3, 120, 0, 9, 0, 152)) (by rfl) (by rfl) hM1446 (by decide) ⟨Nat.le_of_ble_eq_true rfl, Nat.le_of_ble_eq_true rfl⟩ ?_
        exact mi_sem_ret (cal := fun _ _ _ => none) mi_in121 (by rfl)
      refine mi_sem_call mi_in122 (i := (.invokestatic 70, 3, 121, 0, 9, 0, 157)) (by rfl) (by rfl) hM1447 (by decide) ⟨Nat.le_of_ble_eq_true rfl, Nat.le_of_ble_eq_true rfl⟩ ?_
      refine mi_sem_steps mi_in122 (mi_calok_none _ _) 3 _ (29, [(0, .int a1)], [.int 1], (0, 0), mi_G) (by rfl) ?_
      exact mi_sem_ret (cal := fun _ _ _ => none) mi_in122 (by rfl)
    refine mi_sem_call mi_in98 (i := (.invokestatic 214, 3, 122, 0, 9, 0, 260)) (by rfl) (by rfl) hM1448 (by decide) ⟨Nat.le_of_ble_eq_true rfl, Nat.le_of_ble_eq_true rfl⟩ ?_
    refine mi_sem_steps mi_in98 (mi_calok_none _ _) 4 _ (10, [(0, .ref 0), (1, .int a1), (2, .int a2), (3, .int a3)], [.int 3, .int 0, .int a3], (0, 0), mi_G) (by rfl) ?_
    have hM1449 : mi_Met mi_N0 1 mi_h120 [.int a3, .int 0, .int 3] mi_G (some (.int 0)) mi_G := by
      refine mi_met_of (y := 120) (q := (mi_h120, mi_c120)) rfl (by decide) (Nat.le_of_ble_eq_true rfl) ?_
      refine mi_sem_steps mi_in120 (mi_calok_none _ _) 2 _ (2, [(0, .int a3), (1, .int 0), (2, .int 3)], [.int 0, .int a3], (0, 0), mi_G) (by rfl) ?_
      refine mi_sem_b mi_in120 (decide (a3 < 0)) false (mi_ltF (0) (by decide) (by omega)) 14 5 ([(0, .int a3), (1, .int 0), (2, .int 3)], [], (0, 0), mi_G) (by rfl) ?_
      refine mi_sem_steps mi_in120 (mi_calok_none _ _) 2 _ (7, [(0, .int a3), (1, .int 0), (2, .int 3)], [.int 3, .int a3], (0, 0), mi_G) (by rfl) ?_
      refine mi_sem_b mi_in120 (decide (3 < a3)) true (mi_ltT2 (3) (by decide) (by omega)) 14 10 ([(0, .int a3), (1, .int 0), (2, .int 3)], [], (0, 0), mi_G) (by rfl) ?_
      refine mi_sem_steps mi_in120 (mi_calok_none _ _) 1 _ (15, [(0, .int a3), (1, .int 0), (2, .int 3)], [.int 0], (0, 0), mi_G) (by rfl) ?_
      exact mi_sem_ret (cal := fun _ _ _ => none) mi_in120 (by rfl)
    refine mi_sem_call mi_in98 (i := (.invokestatic 74, 3, 120, 0, 9, 0, 152)) (by rfl) (by rfl) hM1449 (by decide) ⟨Nat.le_of_ble_eq_true rfl, Nat.le_of_ble_eq_true rfl⟩ ?_
    refine mi_sem_steps mi_in98 (mi_calok_none _ _) 2 _ (21, [(0, .ref 0), (1, .int a1), (2, .int a2), (3, .int a3)], [.int (-1)], (0, 0), mi_G) (by rfl) ?_
    exact mi_sem_ret (cal := fun _ _ _ => none) mi_in98 (by rfl)
  · refine mi_met_of (y := 197) (q := (mi_h197, mi_c197)) rfl (by decide) (Nat.le_of_ble_eq_true rfl) ?_
    refine mi_sem_steps mi_in197 (mi_calok_none _ _) 2 _ (2, [(0, .ref 116), (1, .int a1), (2, .int a2), (3, .int a3)], [.int a1, .ref 116], (0, 0), mi_G) (by rfl) ?_
    have hM1454 : mi_Met mi_N0 3 mi_h190 [.ref 116, .int a1] mi_G (some (.int 1)) mi_G := by
      refine mi_met_of (y := 190) (q := (mi_h190, mi_c190)) rfl (by decide) (Nat.le_of_ble_eq_true rfl) ?_
      refine mi_sem_steps mi_in190 (mi_calok_none _ _) 1 _ (1, [(0, .ref 116), (1, .int a1)], [.int a1], (0, 0), mi_G) (by rfl) ?_
      refine mi_sem_b mi_in190 (decide (a1 < 0)) false (mi_ltF (0) (by decide) (by omega)) 28 4 ([(0, .ref 116), (1, .int a1)], [], (0, 0), mi_G) (by rfl) ?_
      refine mi_sem_steps mi_in190 (mi_calok_none _ _) 3 _ (8, [(0, .ref 116), (1, .int a1)], [.int ((a1 / 10))], (0, 0), mi_G) (by rfl) ?_
      have hM1451 : mi_Met mi_N0 2 mi_h133 [.int ((a1 / 10))] mi_G (some (.int 1)) mi_G := by
        refine mi_met_of (y := 133) (q := (mi_h133, mi_c133)) rfl (by decide) (Nat.le_of_ble_eq_true rfl) ?_
        refine mi_sem_steps mi_in133 (mi_calok_none _ _) 3 _ (3, [(0, .int ((a1 / 10)))], [.int 5, .int 0, .int ((a1 / 10))], (0, 0), mi_G) (by rfl) ?_
        have hM1450 : mi_Met mi_N0 1 mi_h131 [.int ((a1 / 10)), .int 0, .int 5] mi_G (some (.int 1)) mi_G := by
          refine mi_met_of (y := 131) (q := (mi_h131, mi_c131)) rfl (by decide) (Nat.le_of_ble_eq_true rfl) ?_
          refine mi_sem_steps mi_in131 (mi_calok_none _ _) 2 _ (2, [(0, .int ((a1 / 10))), (1, .int 0), (2, .int 5)], [.int 0, .int ((a1 / 10))], (0, 0), mi_G) (by rfl) ?_
          refine mi_sem_b mi_in131 (decide (((a1 / 10)) < 0)) false (mi_ltF (0) (by decide) (by omega)) 14 5 ([(0, .int ((a1 / 10))), (1, .int 0), (2, .int 5)], [], (0, 0), mi_G) (by rfl) ?_
          refine mi_sem_steps mi_in131 (mi_calok_none _ _) 2 _ (7, [(0, .int ((a1 / 10))), (1, .int 0), (2, .int 5)], [.int 5, .int ((a1 / 10))], (0, 0), mi_G) (by rfl) ?_
          refine mi_sem_b mi_in131 (decide (5 < ((a1 / 10)))) false (mi_ltF2 (5) (by decide) (by omega)) 14 10 ([(0, .int ((a1 / 10))), (1, .int 0), (2, .int 5)], [], (0, 0), mi_G) (by rfl) ?_
          refine mi_sem_steps mi_in131 (mi_calok_none _ _) 2 _ (15, [(0, .int ((a1 / 10))), (1, .int 0), (2, .int 5)], [.int 1], (0, 0), mi_G) (by rfl) ?_
          exact mi_sem_ret (cal := fun _ _ _ => none) mi_in131 (by rfl)
        refine mi_sem_call mi_in133 (i := (.invokestatic 119, 3, 131, 0, 9, 0, 379)) (by rfl) (by rfl) hM1450 (by decide) ⟨Nat.le_of_ble_eq_true rfl, Nat.le_of_ble_eq_true rfl⟩ ?_
        exact mi_sem_ret (cal := fun _ _ _ => none) mi_in133 (by rfl)
      refine mi_sem_call mi_in190 (i := (.invokestatic 127, 3, 133, 0, 9, 0, 382)) (by rfl) (by rfl) hM1451 (by decide) ⟨Nat.le_of_ble_eq_true rfl, Nat.le_of_ble_eq_true rfl⟩ ?_
      refine mi_sem_steps mi_in190 (mi_calok_none _ _) 4 _ (18, [(0, .ref 116), (1, .int a1)], [.int ((a1 - a1 / 10 * 10))], (0, 0), mi_G) (by rfl) ?_
      have hM1453 : mi_Met mi_N0 2 mi_h133 [.int ((a1 - a1 / 10 * 10))] mi_G (some (.int 1)) mi_G := by
        refine mi_met_of (y := 133) (q := (mi_h133, mi_c133)) rfl (by decide) (Nat.le_of_ble_eq_true rfl) ?_
        refine mi_sem_steps mi_in133 (mi_calok_none _ _) 3 _ (3, [(0, .int ((a1 - a1 / 10 * 10)))], [.int 5, .int 0, .int ((a1 - a1 / 10 * 10))], (0, 0), mi_G) (by rfl) ?_
        have hM1452 : mi_Met mi_N0 1 mi_h131 [.int ((a1 - a1 / 10 * 10)), .int 0, .int 5] mi_G (some (.int 1)) mi_G := by
          refine mi_met_of (y := 131) (q := (mi_h131, mi_c131)) rfl (by decide) (Nat.le_of_ble_eq_true rfl) ?_
          refine mi_sem_steps mi_in131 (mi_calok_none _ _) 2 _ (2, [(0, .int ((a1 - a1 / 10 * 10))), (1, .int 0), (2, .int 5)], [.int 0, .int ((a1 - a1 / 10 * 10))], (0, 0), mi_G) (by rfl) ?_
          refine mi_sem_b mi_in131 (decide (((a1 - a1 / 10 * 10)) < 0)) false (mi_ltF (0) (by decide) (by omega)) 14 5 ([(0, .int ((a1 - a1 / 10 * 10))), (1, .int 0), (2, .int 5)], [], (0, 0), mi_G) (by rfl) ?_
          refine mi_sem_steps mi_in131 (mi_calok_none _ _) 2 _ (7, [(0, .int ((a1 - a1 / 10 * 10))), (1, .int 0), (2, .int 5)], [.int 5, .int ((a1 - a1 / 10 * 10))], (0, 0), mi_G) (by rfl) ?_
          refine mi_sem_b mi_in131 (decide (5 < ((a1 - a1 / 10 * 10)))) false (mi_ltF2 (5) (by decide) (by omega)) 14 10 ([(0, .int ((a1 - a1 / 10 * 10))), (1, .int 0), (2, .int 5)], [], (0, 0), mi_G) (by rfl) ?_
          refine mi_sem_steps mi_in131 (mi_calok_none _ _) 2 _ (15, [(0, .int ((a1 - a1 / 10 * 10))), (1, .int 0), (2, .int 5)], [.int 1], (0, 0), mi_G) (by rfl) ?_
          exact mi_sem_ret (cal := fun _ _ _ => none) mi_in131 (by rfl)
        refine mi_sem_call mi_in133 (i := (.invokestatic 119, 3, 131, 0, 9, 0, 379)) (by rfl) (by rfl) hM1452 (by decide) ⟨Nat.le_of_ble_eq_true rfl, Nat.le_of_ble_eq_true rfl⟩ ?_
        exact mi_sem_ret (cal := fun _ _ _ => none) mi_in133 (by rfl)
      refine mi_sem_call mi_in190 (i := (.invokestatic 127, 3, 133, 0, 9, 0, 382)) (by rfl) (by rfl) hM1453 (by decide) ⟨Nat.le_of_ble_eq_true rfl, Nat.le_of_ble_eq_true rfl⟩ ?_
      refine mi_sem_steps mi_in190 (mi_calok_none _ _) 3 _ (29, [(0, .ref 116), (1, .int a1)], [.int 1], (0, 0), mi_G) (by rfl) ?_
      exact mi_sem_ret (cal := fun _ _ _ => none) mi_in190 (by rfl)
    refine mi_sem_call mi_in197 (i := (.invokevirtual 314, 3, 190, 0, 9, 0, 442)) (by rfl) (by rfl) hM1454 (by decide) ⟨Nat.le_of_ble_eq_true rfl, Nat.le_of_ble_eq_true rfl⟩ ?_
    refine mi_sem_steps mi_in197 (mi_calok_none _ _) 4 _ (11, [(0, .ref 116), (1, .int a1), (2, .int a2), (3, .int a3)], [.int 3, .int 0, .int a3], (0, 0), mi_G) (by rfl) ?_
    have hM1455 : mi_Met mi_N0 1 mi_h131 [.int a3, .int 0, .int 3] mi_G (some (.int 0)) mi_G := by
      refine mi_met_of (y := 131) (q := (mi_h131, mi_c131)) rfl (by decide) (Nat.le_of_ble_eq_true rfl) ?_
      refine mi_sem_steps mi_in131 (mi_calok_none _ _) 2 _ (2, [(0, .int a3), (1, .int 0), (2, .int 3)], [.int 0, .int a3], (0, 0), mi_G) (by rfl) ?_
      refine mi_sem_b mi_in131 (decide (a3 < 0)) false (mi_ltF (0) (by decide) (by omega)) 14 5 ([(0, .int a3), (1, .int 0), (2, .int 3)], [], (0, 0), mi_G) (by rfl) ?_
      refine mi_sem_steps mi_in131 (mi_calok_none _ _) 2 _ (7, [(0, .int a3), (1, .int 0), (2, .int 3)], [.int 3, .int a3], (0, 0), mi_G) (by rfl) ?_
      refine mi_sem_b mi_in131 (decide (3 < a3)) true (mi_ltT2 (3) (by decide) (by omega)) 14 10 ([(0, .int a3), (1, .int 0), (2, .int 3)], [], (0, 0), mi_G) (by rfl) ?_
      refine mi_sem_steps mi_in131 (mi_calok_none _ _) 1 _ (15, [(0, .int a3), (1, .int 0), (2, .int 3)], [.int 0], (0, 0), mi_G) (by rfl) ?_
      exact mi_sem_ret (cal := fun _ _ _ => none) mi_in131 (by rfl)
    refine mi_sem_call mi_in197 (i := (.invokestatic 119, 3, 131, 0, 9, 0, 379)) (by rfl) (by rfl) hM1455 (by decide) ⟨Nat.le_of_ble_eq_true rfl, Nat.le_of_ble_eq_true rfl⟩ ?_
    refine mi_sem_steps mi_in197 (mi_calok_none _ _) 2 _ (43, [(0, .ref 116), (1, .int a1), (2, .int a2), (3, .int a3)], [.int (-1)], (0, 0), mi_G) (by rfl) ?_
    exact mi_sem_ret (cal := fun _ _ _ => none) mi_in197 (by rfl)

set_option maxRecDepth 100000 in
set_option maxHeartbeats 4000000 in
theorem mp_fits_20 (a1 : Int32) (a2 : Int32) (a3 : Int32) (r0 : 0 ≤ (a1).toInt ∧ (a1).toInt ≤ 2147483647) (r1 : 0 ≤ ((a1 / 10)).toInt ∧ ((a1 / 10)).toInt ≤ 5) (r2 : 6 ≤ ((a1 - a1 / 10 * 10)).toInt ∧ ((a1 - a1 / 10 * 10)).toInt ≤ 2147483647) : mi_P 98 197 [.int a1, .int a2, .int a3] := by
  refine ⟨.int (-1), mi_G, mi_G, (mi_h98, mi_c98), (mi_h197, mi_c197), 4, 4, rfl, rfl, rfl, by decide, by decide, ?_, ?_⟩
  · refine mi_met_of (y := 98) (q := (mi_h98, mi_c98)) rfl (by decide) (Nat.le_of_ble_eq_true rfl) ?_
    refine mi_sem_steps mi_in98 (mi_calok_none _ _) 1 _ (1, [(0, .ref 0), (1, .int a1), (2, .int a2), (3, .int a3)], [.int a1], (0, 0), mi_G) (by rfl) ?_
    have hM1460 : mi_Met mi_N0 3 mi_h122 [.int a1] mi_G (some (.int 0)) mi_G := by
      refine mi_met_of (y := 122) (q := (mi_h122, mi_c122)) rfl (by decide) (Nat.le_of_ble_eq_true rfl) ?_
      refine mi_sem_steps mi_in122 (mi_calok_none _ _) 1 _ (1, [(0, .int a1)], [.int a1], (0, 0), mi_G) (by rfl) ?_
      refine mi_sem_b mi_in122 (decide (a1 < 0)) false (mi_ltF (0) (by decide) (by omega)) 28 4 ([(0, .int a1)], [], (0, 0), mi_G) (by rfl) ?_
      refine mi_sem_steps mi_in122 (mi_calok_none _ _) 3 _ (8, [(0, .int a1)], [.int ((a1 / 10))], (0, 0), mi_G) (by rfl) ?_
      have hM1457 : mi_Met mi_N0 2 mi_h121 [.int ((a1 / 10))] mi_G (some (.int 1)) mi_G := by
        refine mi_met_of (y := 121) (q := (mi_h121, mi_c121)) rfl (by decide) (Nat.le_of_ble_eq_true rfl) ?_
        refine mi_sem_steps mi_in121 (mi_calok_none _ _) 3 _ (3, [(0, .int ((a1 / 10)))], [.int 5, .int 0, .int ((a1 / 10))], (0, 0), mi_G) (by rfl) ?_
        have hM1456 : mi_Met mi_N0 1 mi_h120 [.int ((a1 / 10)), .int 0, .int 5] mi_G (some (.int 1)) mi_G := by
          refine mi_met_of (y := 120) (q := (mi_h120, mi_c120)) rfl (by decide) (Nat.le_of_ble_eq_true rfl) ?_
          refine mi_sem_steps mi_in120 (mi_calok_none _ _) 2 _ (2, [(0, .int ((a1 / 10))), (1, .int 0), (2, .int 5)], [.int 0, .int ((a1 / 10))], (0, 0), mi_G) (by rfl) ?_
          refine mi_sem_b mi_in120 (decide (((a1 / 10)) < 0)) false (mi_ltF (0) (by decide) (by omega)) 14 5 ([(0, .int ((a1 / 10))), (1, .int 0), (2, .int 5)], [], (0, 0), mi_G) (by rfl) ?_
          refine mi_sem_steps mi_in120 (mi_calok_none _ _) 2 _ (7, [(0, .int ((a1 / 10))), (1, .int 0), (2, .int 5)], [.int 5, .int ((a1 / 10))], (0, 0), mi_G) (by rfl) ?_
          refine mi_sem_b mi_in120 (decide (5 < ((a1 / 10)))) false (mi_ltF2 (5) (by decide) (by omega)) 14 10 ([(0, .int ((a1 / 10))), (1, .int 0), (2, .int 5)], [], (0, 0), mi_G) (by rfl) ?_
          refine mi_sem_steps mi_in120 (mi_calok_none _ _) 2 _ (15, [(0, .int ((a1 / 10))), (1, .int 0), (2, .int 5)], [.int 1], (0, 0), mi_G) (by rfl) ?_
          exact mi_sem_ret (cal := fun _ _ _ => none) mi_in120 (by rfl)
        refine mi_sem_call mi_in121 (i := (.invokestatic 74, 3, 120, 0, 9, 0, 152)) (by rfl) (by rfl) hM1456 (by decide) ⟨Nat.le_of_ble_eq_true rfl, Nat.le_of_ble_eq_true rfl⟩ ?_
        exact mi_sem_ret (cal := fun _ _ _ => none) mi_in121 (by rfl)
      refine mi_sem_call mi_in122 (i := (.invokestatic 70, 3, 121, 0, 9, 0, 157)) (by rfl) (by rfl) hM1457 (by decide) ⟨Nat.le_of_ble_eq_true rfl, Nat.le_of_ble_eq_true rfl⟩ ?_
      refine mi_sem_steps mi_in122 (mi_calok_none _ _) 4 _ (18, [(0, .int a1)], [.int ((a1 - a1 / 10 * 10))], (0, 0), mi_G) (by rfl) ?_
      have hM1459 : mi_Met mi_N0 2 mi_h121 [.int ((a1 - a1 / 10 * 10))] mi_G (some (.int 0)) mi_G := by
        refine mi_met_of (y := 121) (q := (mi_h121, mi_c121)) rfl (by decide) (Nat.le_of_ble_eq_true rfl) ?_
        refine mi_sem_steps mi_in121 (mi_calok_none _ _) 3 _ (3, [(0, .int ((a1 - a1 / 10 * 10)))], [.int 5, .int 0, .int ((a1 - a1 / 10 * 10))], (0, 0), mi_G) (by rfl) ?_
        have hM1458 : mi_Met mi_N0 1 mi_h120 [.int ((a1 - a1 / 10 * 10)), .int 0, .int 5] mi_G (some (.int 0)) mi_G := by
          refine mi_met_of (y := 120) (q := (mi_h120, mi_c120)) rfl (by decide) (Nat.le_of_ble_eq_true rfl) ?_
          refine mi_sem_steps mi_in120 (mi_calok_none _ _) 2 _ (2, [(0, .int ((a1 - a1 / 10 * 10))), (1, .int 0), (2, .int 5)], [.int 0, .int ((a1 - a1 / 10 * 10))], (0, 0), mi_G) (by rfl) ?_
          refine mi_sem_b mi_in120 (decide (((a1 - a1 / 10 * 10)) < 0)) false (mi_ltF (0) (by decide) (by omega)) 14 5 ([(0, .int ((a1 - a1 / 10 * 10))), (1, .int 0), (2, .int 5)], [], (0, 0), mi_G) (by rfl) ?_
          refine mi_sem_steps mi_in120 (mi_calok_none _ _) 2 _ (7, [(0, .int ((a1 - a1 / 10 * 10))), (1, .int 0), (2, .int 5)], [.int 5, .int ((a1 - a1 / 10 * 10))], (0, 0), mi_G) (by rfl) ?_
          refine mi_sem_b mi_in120 (decide (5 < ((a1 - a1 / 10 * 10)))) true (mi_ltT2 (5) (by decide) (by omega)) 14 10 ([(0, .int ((a1 - a1 / 10 * 10))), (1, .int 0), (2, .int 5)], [], (0, 0), mi_G) (by rfl) ?_
          refine mi_sem_steps mi_in120 (mi_calok_none _ _) 1 _ (15, [(0, .int ((a1 - a1 / 10 * 10))), (1, .int 0), (2, .int 5)], [.int 0], (0, 0), mi_G) (by rfl) ?_
          exact mi_sem_ret (cal := fun _ _ _ => none) mi_in120 (by rfl)
        refine mi_sem_call mi_in121 (i := (.invokestatic 74, 3, 120, 0, 9, 0, 152)) (by rfl) (by rfl) hM1458 (by decide) ⟨Nat.le_of_ble_eq_true rfl, Nat.le_of_ble_eq_true rfl⟩ ?_
        exact mi_sem_ret (cal := fun _ _ _ => none) mi_in121 (by rfl)
      refine mi_sem_call mi_in122 (i := (.invokestatic 70, 3, 121, 0, 9, 0, 157)) (by rfl) (by rfl) hM1459 (by decide) ⟨Nat.le_of_ble_eq_true rfl, Nat.le_of_ble_eq_true rfl⟩ ?_
      refine mi_sem_steps mi_in122 (mi_calok_none _ _) 2 _ (29, [(0, .int a1)], [.int 0], (0, 0), mi_G) (by rfl) ?_
      exact mi_sem_ret (cal := fun _ _ _ => none) mi_in122 (by rfl)
    refine mi_sem_call mi_in98 (i := (.invokestatic 214, 3, 122, 0, 9, 0, 260)) (by rfl) (by rfl) hM1460 (by decide) ⟨Nat.le_of_ble_eq_true rfl, Nat.le_of_ble_eq_true rfl⟩ ?_
    refine mi_sem_steps mi_in98 (mi_calok_none _ _) 2 _ (21, [(0, .ref 0), (1, .int a1), (2, .int a2), (3, .int a3)], [.int (-1)], (0, 0), mi_G) (by rfl) ?_
    exact mi_sem_ret (cal := fun _ _ _ => none) mi_in98 (by rfl)
  · refine mi_met_of (y := 197) (q := (mi_h197, mi_c197)) rfl (by decide) (Nat.le_of_ble_eq_true rfl) ?_
    refine mi_sem_steps mi_in197 (mi_calok_none _ _) 2 _ (2, [(0, .ref 116), (1, .int a1), (2, .int a2), (3, .int a3)], [.int a1, .ref 116], (0, 0), mi_G) (by rfl) ?_
    have hM1465 : mi_Met mi_N0 3 mi_h190 [.ref 116, .int a1] mi_G (some (.int 0)) mi_G := by
      refine mi_met_of (y := 190) (q := (mi_h190, mi_c190)) rfl (by decide) (Nat.le_of_ble_eq_true rfl) ?_
      refine mi_sem_steps mi_in190 (mi_calok_none _ _) 1 _ (1, [(0, .ref 116), (1, .int a1)], [.int a1], (0, 0), mi_G) (by rfl) ?_
      refine mi_sem_b mi_in190 (decide (a1 < 0)) false (mi_ltF (0) (by decide) (by omega)) 28 4 ([(0, .ref 116), (1, .int a1)], [], (0, 0), mi_G) (by rfl) ?_
      refine mi_sem_steps mi_in190 (mi_calok_none _ _) 3 _ (8, [(0, .ref 116), (1, .int a1)], [.int ((a1 / 10))], (0, 0), mi_G) (by rfl) ?_
      have hM1462 : mi_Met mi_N0 2 mi_h133 [.int ((a1 / 10))] mi_G (some (.int 1)) mi_G := by
        refine mi_met_of (y := 133) (q := (mi_h133, mi_c133)) rfl (by decide) (Nat.le_of_ble_eq_true rfl) ?_
        refine mi_sem_steps mi_in133 (mi_calok_none _ _) 3 _ (3, [(0, .int ((a1 / 10)))], [.int 5, .int 0, .int ((a1 / 10))], (0, 0), mi_G) (by rfl) ?_
        have hM1461 : mi_Met mi_N0 1 mi_h131 [.int ((a1 / 10)), .int 0, .int 5] mi_G (some (.int 1)) mi_G := by
          refine mi_met_of (y := 131) (q := (mi_h131, mi_c131)) rfl (by decide) (Nat.le_of_ble_eq_true rfl) ?_
          refine mi_sem_steps mi_in131 (mi_calok_none _ _) 2 _ (2, [(0, .int ((a1 / 10))), (1, .int 0), (2, .int 5)], [.int 0, .int ((a1 / 10))], (0, 0), mi_G) (by rfl) ?_
          refine mi_sem_b mi_in131 (decide (((a1 / 10)) < 0)) false (mi_ltF (0) (by decide) (by omega)) 14 5 ([(0, .int ((a1 / 10))), (1, .int 0), (2, .int 5)], [], (0, 0), mi_G) (by rfl) ?_
          refine mi_sem_steps mi_in131 (mi_calok_none _ _) 2 _ (7, [(0, .int ((a1 / 10))), (1, .int 0), (2, .int 5)], [.int 5, .int ((a1 / 10))], (0, 0), mi_G) (by rfl) ?_
          refine mi_sem_b mi_in131 (decide (5 < ((a1 / 10)))) false (mi_ltF2 (5) (by decide) (by omega)) 14 10 ([(0, .int ((a1 / 10))), (1, .int 0), (2, .int 5)], [], (0, 0), mi_G) (by rfl) ?_
          refine mi_sem_steps mi_in131 (mi_calok_none _ _) 2 _ (15, [(0, .int ((a1 / 10))), (1, .int 0), (2, .int 5)], [.int 1], (0, 0), mi_G) (by rfl) ?_
          exact mi_sem_ret (cal := fun _ _ _ => none) mi_in131 (by rfl)
        refine mi_sem_call mi_in133 (i := (.invokestatic 119, 3, 131, 0, 9, 0, 379)) (by rfl) (by rfl) hM1461 (by decide) ⟨Nat.le_of_ble_eq_true rfl, Nat.le_of_ble_eq_true rfl⟩ ?_
        exact mi_sem_ret (cal := fun _ _ _ => none) mi_in133 (by rfl)
      refine mi_sem_call mi_in190 (i := (.invokestatic 127, 3, 133, 0, 9, 0, 382)) (by rfl) (by rfl) hM1462 (by decide) ⟨Nat.le_of_ble_eq_true rfl, Nat.le_of_ble_eq_true rfl⟩ ?_
      refine mi_sem_steps mi_in190 (mi_calok_none _ _) 4 _ (18, [(0, .ref 116), (1, .int a1)], [.int ((a1 - a1 / 10 * 10))], (0, 0), mi_G) (by rfl) ?_
      have hM1464 : mi_Met mi_N0 2 mi_h133 [.int ((a1 - a1 / 10 * 10))] mi_G (some (.int 0)) mi_G := by
        refine mi_met_of (y := 133) (q := (mi_h133, mi_c133)) rfl (by decide) (Nat.le_of_ble_eq_true rfl) ?_
        refine mi_sem_steps mi_in133 (mi_calok_none _ _) 3 _ (3, [(0, .int ((a1 - a1 / 10 * 10)))], [.int 5, .int 0, .int ((a1 - a1 / 10 * 10))], (0, 0), mi_G) (by rfl) ?_
        have hM1463 : mi_Met mi_N0 1 mi_h131 [.int ((a1 - a1 / 10 * 10)), .int 0, .int 5] mi_G (some (.int 0)) mi_G := by
          refine mi_met_of (y := 131) (q := (mi_h131, mi_c131)) rfl (by decide) (Nat.le_of_ble_eq_true rfl) ?_
          refine mi_sem_steps mi_in131 (mi_calok_none _ _) 2 _ (2, [(0, .int ((a1 - a1 / 10 * 10))), (1, .int 0), (2, .int 5)], [.int 0, .int ((a1 - a1 / 10 * 10))], (0, 0), mi_G) (by rfl) ?_
          refine mi_sem_b mi_in131 (decide (((a1 - a1 / 10 * 10)) < 0)) false (mi_ltF (0) (by decide) (by omega)) 14 5 ([(0, .int ((a1 - a1 / 10 * 10))), (1, .int 0), (2, .int 5)], [], (0, 0), mi_G) (by rfl) ?_
          refine mi_sem_steps mi_in131 (mi_calok_none _ _) 2 _ (7, [(0, .int ((a1 - a1 / 10 * 10))), (1, .int 0), (2, .int 5)], [.int 5, .int ((a1 - a1 / 10 * 10))], (0, 0), mi_G) (by rfl) ?_
          refine mi_sem_b mi_in131 (decide (5 < ((a1 - a1 / 10 * 10)))) true (mi_ltT2 (5) (by decide) (by omega)) 14 10 ([(0, .int ((a1 - a1 / 10 * 10))), (1, .int 0), (2, .int 5)], [], (0, 0), mi_G) (by rfl) ?_
          refine mi_sem_steps mi_in131 (mi_calok_none _ _) 1 _ (15, [(0, .int ((a1 - a1 / 10 * 10))), (1, .int 0), (2, .int 5)], [.int 0], (0, 0), mi_G) (by rfl) ?_
          exact mi_sem_ret (cal := fun _ _ _ => none) mi_in131 (by rfl)
        refine mi_sem_call mi_in133 (i := (.invokestatic 119, 3, 131, 0, 9, 0, 379)) (by rfl) (by rfl) hM1463 (by decide) ⟨Nat.le_of_ble_eq_true rfl, Nat.le_of_ble_eq_true rfl⟩ ?_
        exact mi_sem_ret (cal := fun _ _ _ => none) mi_in133 (by rfl)
      refine mi_sem_call mi_in190 (i := (.invokestatic 127, 3, 133, 0, 9, 0, 382)) (by rfl) (by rfl) hM1464 (by decide) ⟨Nat.le_of_ble_eq_true rfl, Nat.le_of_ble_eq_true rfl⟩ ?_
      refine mi_sem_steps mi_in190 (mi_calok_none _ _) 2 _ (29, [(0, .ref 116), (1, .int a1)], [.int 0], (0, 0), mi_G) (by rfl) ?_
      exact mi_sem_ret (cal := fun _ _ _ => none) mi_in190 (by rfl)
    refine mi_sem_call mi_in197 (i := (.invokevirtual 314, 3, 190, 0, 9, 0, 442)) (by rfl) (by rfl) hM1465 (by decide) ⟨Nat.le_of_ble_eq_true rfl, Nat.le_of_ble_eq_true rfl⟩ ?_
    refine mi_sem_steps mi_in197 (mi_calok_none _ _) 2 _ (43, [(0, .ref 116), (1, .int a1), (2, .int a2), (3, .int a3)], [.int (-1)], (0, 0), mi_G) (by rfl) ?_
    exact mi_sem_ret (cal := fun _ _ _ => none) mi_in197 (by rfl)

set_option maxRecDepth 100000 in
set_option maxHeartbeats 4000000 in
theorem mp_fits_21 (a1 : Int32) (a2 : Int32) (a3 : Int32) (r0 : 0 ≤ (a1).toInt ∧ (a1).toInt ≤ 2147483647) (r1 : 6 ≤ ((a1 / 10)).toInt ∧ ((a1 / 10)).toInt ≤ 2147483647) : mi_P 98 197 [.int a1, .int a2, .int a3] := by
  refine ⟨.int (-1), mi_G, mi_G, (mi_h98, mi_c98), (mi_h197, mi_c197), 4, 4, rfl, rfl, rfl, by decide, by decide, ?_, ?_⟩
  · refine mi_met_of (y := 98) (q := (mi_h98, mi_c98)) rfl (by decide) (Nat.le_of_ble_eq_true rfl) ?_
    refine mi_sem_steps mi_in98 (mi_calok_none _ _) 1 _ (1, [(0, .ref 0), (1, .int a1), (2, .int a2), (3, .int a3)], [.int a1], (0, 0), mi_G) (by rfl) ?_
    have hM1468 : mi_Met mi_N0 3 mi_h122 [.int a1] mi_G (some (.int 0)) mi_G := by
      refine mi_met_of (y := 122) (q := (mi_h122, mi_c122)) rfl (by decide) (Nat.le_of_ble_eq_true rfl) ?_
      refine mi_sem_steps mi_in122 (mi_calok_none _ _) 1 _ (1, [(0, .int a1)], [.int a1], (0, 0), mi_G) (by rfl) ?_
      refine mi_sem_b mi_in122 (decide (a1 < 0)) false (mi_ltF (0) (by decide) (by omega)) 28 4 ([(0, .int a1)], [], (0, 0), mi_G) (by rfl) ?_
      refine mi_sem_steps mi_in122 (mi_calok_none _ _) 3 _ (8, [(0, .int a1)], [.int ((a1 / 10))], (0, 0), mi_G) (by rfl) ?_
      have hM1467 : mi_Met mi_N0 2 mi_h121 [.int ((a1 / 10))] mi_G (some (.int 0)) mi_G := by
        refine mi_met_of (y := 121) (q := (mi_h121, mi_c121)) rfl (by decide) (Nat.le_of_ble_eq_true rfl) ?_
        refine mi_sem_steps mi_in121 (mi_calok_none _ _) 3 _ (3, [(0, .int ((a1 / 10)))], [.int 5, .int 0, .int ((a1 / 10))], (0, 0), mi_G) (by rfl) ?_
        have hM1466 : mi_Met mi_N0 1 mi_h120 [.int ((a1 / 10)), .int 0, .int 5] mi_G (some (.int 0)) mi_G := by
          refine mi_met_of (y := 120) (q := (mi_h120, mi_c120)) rfl (by decide) (Nat.le_of_ble_eq_true rfl) ?_
          refine mi_sem_steps mi_in120 (mi_calok_none _ _) 2 _ (2, [(0, .int ((a1 / 10))), (1, .int 0), (2, .int 5)], [.int 0, .int ((a1 / 10))], (0, 0), mi_G) (by rfl) ?_
          refine mi_sem_b mi_in120 (decide (((a1 / 10)) < 0)) false (mi_ltF (0) (by decide) (by omega)) 14 5 ([(0, .int ((a1 / 10))), (1, .int 0), (2, .int 5)], [], (0, 0), mi_G) (by rfl) ?_
          refine mi_sem_steps mi_in120 (mi_calok_none _ _) 2 _ (7, [(0, .int ((a1 / 10))), (1, .int 0), (2, .int 5)], [.int 5, .int ((a1 / 10))], (0, 0), mi_G) (by rfl) ?_
          refine mi_sem_b mi_in120 (decide (5 < ((a1 / 10)))) true (mi_ltT2 (5) (by decide) (by omega)) 14 10 ([(0, .int ((a1 / 10))), (1, .int 0), (2, .int 5)], [], (0, 0), mi_G) (by rfl) ?_
          refine mi_sem_steps mi_in120 (mi_calok_none _ _) 1 _ (15, [(0, .int ((a1 / 10))), (1, .int 0), (2, .int 5)], [.int 0], (0, 0), mi_G) (by rfl) ?_
          exact mi_sem_ret (cal := fun _ _ _ => none) mi_in120 (by rfl)
        refine mi_sem_call mi_in121 (i := (.invokestatic 74, 3, 120, 0, 9, 0, 152)) (by rfl) (by rfl) hM1466 (by decide) ⟨Nat.le_of_ble_eq_true rfl, Nat.le_of_ble_eq_true rfl⟩ ?_
        exact mi_sem_ret (cal := fun _ _ _ => none) mi_in121 (by rfl)
      refine mi_sem_call mi_in122 (i := (.invokestatic 70, 3, 121, 0, 9, 0, 157)) (by rfl) (by rfl) hM1467 (by decide) ⟨Nat.le_of_ble_eq_true rfl, Nat.le_of_ble_eq_true rfl⟩ ?_
      refine mi_sem_steps mi_in122 (mi_calok_none _ _) 2 _ (29, [(0, .int a1)], [.int 0], (0, 0), mi_G) (by rfl) ?_
      exact mi_sem_ret (cal := fun _ _ _ => none) mi_in122 (by rfl)
    refine mi_sem_call mi_in98 (i := (.invokestatic 214, 3, 122, 0, 9, 0, 260)) (by rfl) (by rfl) hM1468 (by decide) ⟨Nat.le_of_ble_eq_true rfl, Nat.le_of_ble_eq_true rfl⟩ ?_
    refine mi_sem_steps mi_in98 (mi_calok_none _ _) 2 _ (21, [(0, .ref 0), (1, .int a1), (2, .int a2), (3, .int a3)], [.int (-1)], (0, 0), mi_G) (by rfl) ?_
    exact mi_sem_ret (cal := fun _ _ _ => none) mi_in98 (by rfl)
  · refine mi_met_of (y := 197) (q := (mi_h197, mi_c197)) rfl (by decide) (Nat.le_of_ble_eq_true rfl) ?_
    refine mi_sem_steps mi_in197 (mi_calok_none _ _) 2 _ (2, [(0, .ref 116), (1, .int a1), (2, .int a2), (3, .int a3)], [.int a1, .ref 116], (0, 0), mi_G) (by rfl) ?_
    have hM1471 : mi_Met mi_N0 3 mi_h190 [.ref 116, .int a1] mi_G (some (.int 0)) mi_G := by
      refine mi_met_of (y := 190) (q := (mi_h190, mi_c190)) rfl (by decide) (Nat.le_of_ble_eq_true rfl) ?_
      refine mi_sem_steps mi_in190 (mi_calok_none _ _) 1 _ (1, [(0, .ref 116), (1, .int a1)], [.int a1], (0, 0), mi_G) (by rfl) ?_
      refine mi_sem_b mi_in190 (decide (a1 < 0)) false (mi_ltF (0) (by decide) (by omega)) 28 4 ([(0, .ref 116), (1, .int a1)], [], (0, 0), mi_G) (by rfl) ?_
      refine mi_sem_steps mi_in190 (mi_calok_none _ _) 3 _ (8, [(0, .ref 116), (1, .int a1)], [.int ((a1 / 10))], (0, 0), mi_G) (by rfl) ?_
      have hM1470 : mi_Met mi_N0 2 mi_h133 [.int ((a1 / 10))] mi_G (some (.int 0)) mi_G := by
        refine mi_met_of (y := 133) (q := (mi_h133, mi_c133)) rfl (by decide) (Nat.le_of_ble_eq_true rfl) ?_
        refine mi_sem_steps mi_in133 (mi_calok_none _ _) 3 _ (3, [(0, .int ((a1 / 10)))], [.int 5, .int 0, .int ((a1 / 10))], (0, 0), mi_G) (by rfl) ?_
        have hM1469 : mi_Met mi_N0 1 mi_h131 [.int ((a1 / 10)), .int 0, .int 5] mi_G (some (.int 0)) mi_G := by
          refine mi_met_of (y := 131) (q := (mi_h131, mi_c131)) rfl (by decide) (Nat.le_of_ble_eq_true rfl) ?_
          refine mi_sem_steps mi_in131 (mi_calok_none _ _) 2 _ (2, [(0, .int ((a1 / 10))), (1, .int 0), (2, .int 5)], [.int 0, .int ((a1 / 10))], (0, 0), mi_G) (by rfl) ?_
          refine mi_sem_b mi_in131 (decide (((a1 / 10)) < 0)) false (mi_ltF (0) (by decide) (by omega)) 14 5 ([(0, .int ((a1 / 10))), (1, .int 0), (2, .int 5)], [], (0, 0), mi_G) (by rfl) ?_
          refine mi_sem_steps mi_in131 (mi_calok_none _ _) 2 _ (7, [(0, .int ((a1 / 10))), (1, .int 0), (2, .int 5)], [.int 5, .int ((a1 / 10))], (0, 0), mi_G) (by rfl) ?_
          refine mi_sem_b mi_in131 (decide (5 < ((a1 / 10)))) true (mi_ltT2 (5) (by decide) (by omega)) 14 10 ([(0, .int ((a1 / 10))), (1, .int 0), (2, .int 5)], [], (0, 0), mi_G) (by rfl) ?_
          refine mi_sem_steps mi_in131 (mi_calok_none _ _) 1 _ (15, [(0, .int ((a1 / 10))), (1, .int 0), (2, .int 5)], [.int 0], (0, 0), mi_G) (by rfl) ?_
          exact mi_sem_ret (cal := fun _ _ _ => none) mi_in131 (by rfl)
        refine mi_sem_call mi_in133 (i := (.invokestatic 119, 3, 131, 0, 9, 0, 379)) (by rfl) (by rfl) hM1469 (by decide) ⟨Nat.le_of_ble_eq_true rfl, Nat.le_of_ble_eq_true rfl⟩ ?_
        exact mi_sem_ret (cal := fun _ _ _ => none) mi_in133 (by rfl)
      refine mi_sem_call mi_in190 (i := (.invokestatic 127, 3, 133, 0, 9, 0, 382)) (by rfl) (by rfl) hM1470 (by decide) ⟨Nat.le_of_ble_eq_true rfl, Nat.le_of_ble_eq_true rfl⟩ ?_
      refine mi_sem_steps mi_in190 (mi_calok_none _ _) 2 _ (29, [(0, .ref 116), (1, .int a1)], [.int 0], (0, 0), mi_G) (by rfl) ?_
      exact mi_sem_ret (cal := fun _ _ _ => none) mi_in190 (by rfl)
    refine mi_sem_call mi_in197 (i := (.invokevirtual 314, 3, 190, 0, 9, 0, 442)) (by rfl) (by rfl) hM1471 (by decide) ⟨Nat.le_of_ble_eq_true rfl, Nat.le_of_ble_eq_true rfl⟩ ?_
    refine mi_sem_steps mi_in197 (mi_calok_none _ _) 2 _ (43, [(0, .ref 116), (1, .int a1), (2, .int a2), (3, .int a3)], [.int (-1)], (0, 0), mi_G) (by rfl) ?_
    exact mi_sem_ret (cal := fun _ _ _ => none) mi_in197 (by rfl)

set_option maxRecDepth 100000 in
set_option maxHeartbeats 4000000 in
theorem mp_fits (a1 : Int32) (a2 : Int32) (a3 : Int32) : mi_P 98 197 [.int a1, .int a2, .int a3] := by
  have b0 := Int32.toInt_lt ((a1 - a1 / 10 * 10))
  have c0 := Int32.le_toInt ((a1 - a1 / 10 * 10))
  have b1 := Int32.toInt_lt ((a1 / 10))
  have c1 := Int32.le_toInt ((a1 / 10))
  have b2 := Int32.toInt_lt (a1)
  have c2 := Int32.le_toInt (a1)
  have b3 := Int32.toInt_lt (a2)
  have c3 := Int32.le_toInt (a2)
  have b4 := Int32.toInt_lt (a3)
  have c4 := Int32.le_toInt (a3)
  rcases Int.lt_or_le (a1).toInt 0 with _hh | _hh
  ·
    exact mp_fits_0 a1 a2 a3 ⟨by omega, by omega⟩
  ·
    rcases Int.lt_or_le ((a1 / 10)).toInt 0 with _hh | _hh
    ·
      exact mp_fits_1 a1 a2 a3 ⟨by omega, by omega⟩ ⟨by omega, by omega⟩
    ·
      rcases Int.lt_or_le ((a1 / 10)).toInt 6 with _hh | _hh
      ·
        rcases Int.lt_or_le ((a1 - a1 / 10 * 10)).toInt 0 with _hh | _hh
        ·
          exact mp_fits_2 a1 a2 a3 ⟨by omega, by omega⟩ ⟨by omega, by omega⟩ ⟨by omega, by omega⟩
        ·
          rcases Int.lt_or_le ((a1 - a1 / 10 * 10)).toInt 6 with _hh | _hh
          ·
            rcases Int.lt_or_le (a3).toInt 0 with _hh | _hh
            ·
              exact mp_fits_3 a1 a2 a3 ⟨by omega, by omega⟩ ⟨by omega, by omega⟩ ⟨by omega, by omega⟩ ⟨by omega, by omega⟩
            ·
              rcases Int.lt_or_le (a3).toInt 4 with _hh | _hh
              ·
                rcases Int.lt_or_le (a2).toInt 0 with _hh | _hh
                ·
                  exact mp_fits_4 a1 a2 a3 ⟨by omega, by omega⟩ ⟨by omega, by omega⟩ ⟨by omega, by omega⟩ ⟨by omega, by omega⟩ ⟨by omega, by omega⟩
                ·
                  rcases Int.lt_or_le (a3).toInt 1 with _hh | _hh
                  ·
                    rcases Int.lt_or_le (a2).toInt 1 with _hh | _hh
                    ·
                      rcases Int.lt_or_le ((a1 / 10)).toInt 1 with _hh | _hh
                      ·
                        have e_a2 : a2 = 0 := Int32.toInt_inj.mp ((by omega : (a2).toInt = 0).trans (by decide))
                        subst e_a2
                        have e_a3 : a3 = 0 := Int32.toInt_inj.mp ((by omega : (a3).toInt = 0).trans (by decide))
                        subst e_a3
                        exact mp_fits_5 a1 ⟨by omega, by omega⟩ (Int32.toInt_inj.mp ((by omega : ((a1 / 10)).toInt = 0).trans (by decide))) ⟨by omega, by omega⟩
                      ·
                        rcases Int.lt_or_le ((a1 / 10)).toInt 2 with _hh | _hh
                        ·
                          have e_a2 : a2 = 0 := Int32.toInt_inj.mp ((by omega : (a2).toInt = 0).trans (by decide))
                          subst e_a2
                          have e_a3 : a3 = 0 := Int32.toInt_inj.mp ((by omega : (a3).toInt = 0).trans (by decide))
                          subst e_a3
                          exact mp_fits_6 a1 ⟨by omega, by omega⟩ (Int32.toInt_inj.mp ((by omega : ((a1 / 10)).toInt = 1).trans (by decide))) ⟨by omega, by omega⟩
                        ·
                          rcases Int.lt_or_le ((a1 / 10)).toInt 3 with _hh | _hh
                          ·
                            have e_a2 : a2 = 0 := Int32.toInt_inj.mp ((by omega : (a2).toInt = 0).trans (by decide))
                            subst e_a2
                            have e_a3 : a3 = 0 := Int32.toInt_inj.mp ((by omega : (a3).toInt = 0).trans (by decide))
                            subst e_a3
                            exact mp_fits_7 a1 ⟨by omega, by omega⟩ (Int32.toInt_inj.mp ((by omega : ((a1 / 10)).toInt = 2).trans (by decide))) ⟨by omega, by omega⟩
                          ·
                            rcases Int.lt_or_le ((a1 / 10)).toInt 4 with _hh | _hh
                            ·
                              have e_a2 : a2 = 0 := Int32.toInt_inj.mp ((by omega : (a2).toInt = 0).trans (by decide))
                              subst e_a2
                              have e_a3 : a3 = 0 := Int32.toInt_inj.mp ((by omega : (a3).toInt = 0).trans (by decide))
                              subst e_a3
                              exact mp_fits_8 a1 ⟨by omega, by omega⟩ (Int32.toInt_inj.mp ((by omega : ((a1 / 10)).toInt = 3).trans (by decide))) ⟨by omega, by omega⟩
                            ·
                              rcases Int.lt_or_le ((a1 / 10)).toInt 5 with _hh | _hh
                              ·
                                have e_a2 : a2 = 0 := Int32.toInt_inj.mp ((by omega : (a2).toInt = 0).trans (by decide))
                                subst e_a2
                                have e_a3 : a3 = 0 := Int32.toInt_inj.mp ((by omega : (a3).toInt = 0).trans (by decide))
                                subst e_a3
                                exact mp_fits_9 a1 ⟨by omega, by omega⟩ (Int32.toInt_inj.mp ((by omega : ((a1 / 10)).toInt = 4).trans (by decide))) ⟨by omega, by omega⟩
                              ·
                                have e_a2 : a2 = 0 := Int32.toInt_inj.mp ((by omega : (a2).toInt = 0).trans (by decide))
                                subst e_a2
                                have e_a3 : a3 = 0 := Int32.toInt_inj.mp ((by omega : (a3).toInt = 0).trans (by decide))
                                subst e_a3
                                exact mp_fits_10 a1 ⟨by omega, by omega⟩ (Int32.toInt_inj.mp ((by omega : ((a1 / 10)).toInt = 5).trans (by decide))) ⟨by omega, by omega⟩
                    ·
                      have e_a3 : a3 = 0 := Int32.toInt_inj.mp ((by omega : (a3).toInt = 0).trans (by decide))
                      subst e_a3
                      exact mp_fits_11 a1 a2 ⟨by omega, by omega⟩ ⟨by omega, by omega⟩ ⟨by omega, by omega⟩ ⟨by omega, by omega⟩
                  ·
                    rcases Int.lt_or_le (a3).toInt 2 with _hh | _hh
                    ·
                      rcases Int.lt_or_le ((a1 / 10)).toInt 1 with _hh | _hh
                      ·
                        have e_a3 : a3 = 1 := Int32.toInt_inj.mp ((by omega : (a3).toInt = 1).trans (by decide))
                        subst e_a3
                        exact mp_fits_12 a1 a2 ⟨by omega, by omega⟩ (Int32.toInt_inj.mp ((by omega : ((a1 / 10)).toInt = 0).trans (by decide))) ⟨by omega, by omega⟩ ⟨by omega, by omega⟩
                      ·
                        rcases Int.lt_or_le ((a1 / 10)).toInt 2 with _hh | _hh
                        ·
                          have e_a3 : a3 = 1 := Int32.toInt_inj.mp ((by omega : (a3).toInt = 1).trans (by decide))
                          subst e_a3
                          exact mp_fits_13 a1 a2 ⟨by omega, by omega⟩ (Int32.toInt_inj.mp ((by omega : ((a1 / 10)).toInt = 1).trans (by decide))) ⟨by omega, by omega⟩ ⟨by omega, by omega⟩
                        ·
                          rcases Int.lt_or_le ((a1 / 10)).toInt 3 with _hh | _hh
                          ·
                            have e_a3 : a3 = 1 := Int32.toInt_inj.mp ((by omega : (a3).toInt = 1).trans (by decide))
                            subst e_a3
                            exact mp_fits_14 a1 a2 ⟨by omega, by omega⟩ (Int32.toInt_inj.mp ((by omega : ((a1 / 10)).toInt = 2).trans (by decide))) ⟨by omega, by omega⟩ ⟨by omega, by omega⟩
                          ·
                            rcases Int.lt_or_le ((a1 / 10)).toInt 4 with _hh | _hh
                            ·
                              have e_a3 : a3 = 1 := Int32.toInt_inj.mp ((by omega : (a3).toInt = 1).trans (by decide))
                              subst e_a3
                              exact mp_fits_15 a1 a2 ⟨by omega, by omega⟩ (Int32.toInt_inj.mp ((by omega : ((a1 / 10)).toInt = 3).trans (by decide))) ⟨by omega, by omega⟩ ⟨by omega, by omega⟩
                            ·
                              rcases Int.lt_or_le ((a1 / 10)).toInt 5 with _hh | _hh
                              ·
                                have e_a3 : a3 = 1 := Int32.toInt_inj.mp ((by omega : (a3).toInt = 1).trans (by decide))
                                subst e_a3
                                exact mp_fits_16 a1 a2 ⟨by omega, by omega⟩ (Int32.toInt_inj.mp ((by omega : ((a1 / 10)).toInt = 4).trans (by decide))) ⟨by omega, by omega⟩ ⟨by omega, by omega⟩
                              ·
                                have e_a3 : a3 = 1 := Int32.toInt_inj.mp ((by omega : (a3).toInt = 1).trans (by decide))
                                subst e_a3
                                exact mp_fits_17 a1 a2 ⟨by omega, by omega⟩ (Int32.toInt_inj.mp ((by omega : ((a1 / 10)).toInt = 5).trans (by decide))) ⟨by omega, by omega⟩ ⟨by omega, by omega⟩
                    ·
                      exact mp_fits_18 a1 a2 a3 ⟨by omega, by omega⟩ ⟨by omega, by omega⟩ ⟨by omega, by omega⟩ ⟨by omega, by omega⟩ ⟨by omega, by omega⟩
              ·
                exact mp_fits_19 a1 a2 a3 ⟨by omega, by omega⟩ ⟨by omega, by omega⟩ ⟨by omega, by omega⟩ ⟨by omega, by omega⟩
          ·
            exact mp_fits_20 a1 a2 a3 ⟨by omega, by omega⟩ ⟨by omega, by omega⟩ ⟨by omega, by omega⟩
      ·
        exact mp_fits_21 a1 a2 a3 ⟨by omega, by omega⟩ ⟨by omega, by omega⟩

set_option maxRecDepth 100000 in
set_option maxHeartbeats 4000000 in
theorem mp_byTurns_0 (a1 : Int32) (a2 : Int32) (a3 : Int32) (r0 : (-2147483648) ≤ (a1).toInt ∧ (a1).toInt ≤ (-1)) : mi_P 100 200 [.int a1, .int a2, .int a3] := by
  refine ⟨.int (-2000000000), mi_G, mi_G, (mi_h100, mi_c100), (mi_h200, mi_c200), 2, 2, rfl, rfl, rfl, by decide, by decide, ?_, ?_⟩
  · refine mi_met_of (y := 100) (q := (mi_h100, mi_c100)) rfl (by decide) (Nat.le_of_ble_eq_true rfl) ?_
    refine mi_sem_steps mi_in100 (mi_calok_none _ _) 2 _ (2, [(0, .ref 0), (1, .int a1), (2, .int a2), (3, .int a3)], [.int a1, .ref 0], (0, 0), mi_G) (by rfl) ?_
    have hM1472 : mi_Met mi_N0 1 mi_h124 [.ref 0, .int a1] mi_G (some (.int 0)) mi_G := by
      refine mi_met_of (y := 124) (q := (mi_h124, mi_c124)) rfl (by decide) (Nat.le_of_ble_eq_true rfl) ?_
      refine mi_sem_steps mi_in124 (mi_calok_none _ _) 1 _ (1, [(0, .ref 0), (1, .int a1)], [.int a1], (0, 0), mi_G) (by rfl) ?_
      refine mi_sem_b mi_in124 (decide (a1 < 0)) true (mi_ltT (0) (by decide) (by omega)) 41 4 ([(0, .ref 0), (1, .int a1)], [], (0, 0), mi_G) (by rfl) ?_
      refine mi_sem_steps mi_in124 (mi_calok_none _ _) 1 _ (42, [(0, .ref 0), (1, .int a1)], [.int 0], (0, 0), mi_G) (by rfl) ?_
      exact mi_sem_ret (cal := fun _ _ _ => none) mi_in124 (by rfl)
    refine mi_sem_call mi_in100 (i := (.invokevirtual 200, 3, 124, 0, 9, 0, 254)) (by rfl) (by rfl) hM1472 (by decide) ⟨Nat.le_of_ble_eq_true rfl, Nat.le_of_ble_eq_true rfl⟩ ?_
    refine mi_sem_steps mi_in100 (mi_calok_none _ _) 2 _ (28, [(0, .ref 0), (1, .int a1), (2, .int a2), (3, .int a3)], [.int (-2000000000)], (0, 0), mi_G) (by rfl) ?_
    exact mi_sem_ret (cal := fun _ _ _ => none) mi_in100 (by rfl)
  · refine mi_met_of (y := 200) (q := (mi_h200, mi_c200)) rfl (by decide) (Nat.le_of_ble_eq_true rfl) ?_
    refine mi_sem_steps mi_in200 (mi_calok_none _ _) 2 _ (2, [(0, .ref 116), (1, .int a1), (2, .int a2), (3, .int a3)], [.int a1, .ref 116], (0, 0), mi_G) (by rfl) ?_
    have hM1473 : mi_Met mi_N0 1 mi_h186 [.ref 116, .int a1] mi_G (some (.int 0)) mi_G := by
      refine mi_met_of (y := 186) (q := (mi_h186, mi_c186)) rfl (by decide) (Nat.le_of_ble_eq_true rfl) ?_
      refine mi_sem_steps mi_in186 (mi_calok_none _ _) 1 _ (1, [(0, .ref 116), (1, .int a1)], [.int a1], (0, 0), mi_G) (by rfl) ?_
      refine mi_sem_b mi_in186 (decide (a1 < 0)) true (mi_ltT (0) (by decide) (by omega)) 41 4 ([(0, .ref 116), (1, .int a1)], [], (0, 0), mi_G) (by rfl) ?_
      refine mi_sem_steps mi_in186 (mi_calok_none _ _) 1 _ (42, [(0, .ref 116), (1, .int a1)], [.int 0], (0, 0), mi_G) (by rfl) ?_
      exact mi_sem_ret (cal := fun _ _ _ => none) mi_in186 (by rfl)
    refine mi_sem_call mi_in200 (i := (.invokevirtual 308, 3, 186, 0, 9, 0, 438)) (by rfl) (by rfl) hM1473 (by decide) ⟨Nat.le_of_ble_eq_true rfl, Nat.le_of_ble_eq_true rfl⟩ ?_
    refine mi_sem_steps mi_in200 (mi_calok_none _ _) 2 _ (29, [(0, .ref 116), (1, .int a1), (2, .int a2), (3, .int a3)], [.int (-2000000000)], (0, 0), mi_G) (by rfl) ?_
    exact mi_sem_ret (cal := fun _ _ _ => none) mi_in200 (by rfl)

set_option maxRecDepth 100000 in
set_option maxHeartbeats 4000000 in
theorem mp_byTurns_1 (a1 : Int32) (a2 : Int32) (a3 : Int32) (r0 : 0 ≤ (a1).toInt ∧ (a1).toInt ≤ 2147483647) (r1 : (-2147483648) ≤ ((a1 / 10)).toInt ∧ ((a1 / 10)).toInt ≤ (-1)) : mi_P 100 200 [.int a1, .int a2, .int a3] := by
  refine ⟨.int (-2000000000), mi_G, mi_G, (mi_h100, mi_c100), (mi_h200, mi_c200), 4, 4, rfl, rfl, rfl, by decide, by decide, ?_, ?_⟩
  · refine mi_met_of (y := 100) (q := (mi_h100, mi_c100)) rfl (by decide) (Nat.le_of_ble_eq_true rfl) ?_
    refine mi_sem_steps mi_in100 (mi_calok_none _ _) 2 _ (2, [(0, .ref 0), (1, .int a1), (2, .int a2), (3, .int a3)], [.int a1, .ref 0], (0, 0), mi_G) (by rfl) ?_
    have hM1476 : mi_Met mi_N0 3 mi_h124 [.ref 0, .int a1] mi_G (some (.int 0)) mi_G := by
      refine mi_met_of (y := 124) (q := (mi_h124, mi_c124)) rfl (by decide) (Nat.le_of_ble_eq_true rfl) ?_
      refine mi_sem_steps mi_in124 (mi_calok_none _ _) 1 _ (1, [(0, .ref 0), (1, .int a1)], [.int a1], (0, 0), mi_G) (by rfl) ?_
      refine mi_sem_b mi_in124 (decide (a1 < 0)) false (mi_ltF (0) (by decide) (by omega)) 41 4 ([(0, .ref 0), (1, .int a1)], [], (0, 0), mi_G) (by rfl) ?_
      refine mi_sem_steps mi_in124 (mi_calok_none _ _) 4 _ (9, [(0, .ref 0), (1, .int a1)], [.int ((a1 / 10)), .ref 0], (0, 0), mi_G) (by rfl) ?_
      have hM1475 : mi_Met mi_N0 2 mi_h123 [.ref 0, .int ((a1 / 10))] mi_G (some (.int 0)) mi_G := by
        refine mi_met_of (y := 123) (q := (mi_h123, mi_c123)) rfl (by decide) (Nat.le_of_ble_eq_true rfl) ?_
        refine mi_sem_steps mi_in123 (mi_calok_none _ _) 3 _ (5, [(0, .ref 0), (1, .int ((a1 / 10)))], [.int ((a1 / 10)), .ref 1], (0, 0), mi_G) (by rfl) ?_
        have hM1474 : mi_Met mi_N0 1 mi_h24 [.ref 1, .int ((a1 / 10))] mi_G (some (.int 0)) mi_G := by
          refine mi_met_of (y := 24) (q := (mi_h24, mi_c24)) rfl (by decide) (Nat.le_of_ble_eq_true rfl) ?_
          refine mi_sem_steps mi_in24 (mi_calok_none _ _) 1 _ (1, [(0, .ref 1), (1, .int ((a1 / 10)))], [.int ((a1 / 10))], (0, 0), mi_G) (by rfl) ?_
          refine mi_sem_b mi_in24 (decide (((a1 / 10)) < 0)) true (mi_ltT (0) (by decide) (by omega)) 22 4 ([(0, .ref 1), (1, .int ((a1 / 10)))], [], (0, 0), mi_G) (by rfl) ?_
          refine mi_sem_steps mi_in24 (mi_calok_none _ _) 1 _ (23, [(0, .ref 1), (1, .int ((a1 / 10)))], [.int 0], (0, 0), mi_G) (by rfl) ?_
          exact mi_sem_ret (cal := fun _ _ _ => none) mi_in24 (by rfl)
        refine mi_sem_call mi_in123 (i := (.invokevirtual 342, 3, 24, 0, 9, 0, 163)) (by rfl) (by rfl) hM1474 (by decide) ⟨Nat.le_of_ble_eq_true rfl, Nat.le_of_ble_eq_true rfl⟩ ?_
        exact mi_sem_ret (cal := fun _ _ _ => none) mi_in123 (by rfl)
      refine mi_sem_call mi_in124 (i := (.invokevirtual 141, 3, 123, 0, 9, 0, 162)) (by rfl) (by rfl) hM1475 (by decide) ⟨Nat.le_of_ble_eq_true rfl, Nat.le_of_ble_eq_true rfl⟩ ?_
      refine mi_sem_steps mi_in124 (mi_calok_none _ _) 2 _ (42, [(0, .ref 0), (1, .int a1)], [.int 0], (0, 0), mi_G) (by rfl) ?_
      exact mi_sem_ret (cal := fun _ _ _ => none) mi_in124 (by rfl)
    refine mi_sem_call mi_in100 (i := (.invokevirtual 200, 3, 124, 0, 9, 0, 254)) (by rfl) (by rfl) hM1476 (by decide) ⟨Nat.le_of_ble_eq_true rfl, Nat.le_of_ble_eq_true rfl⟩ ?_
    refine mi_sem_steps mi_in100 (mi_calok_none _ _) 2 _ (28, [(0, .ref 0), (1, .int a1), (2, .int a2), (3, .int a3)], [.int (-2000000000)], (0, 0), mi_G) (by rfl) ?_
    exact mi_sem_ret (cal := fun _ _ _ => none) mi_in100 (by rfl)
  · refine mi_met_of (y := 200) (q := (mi_h200, mi_c200)) rfl (by decide) (Nat.le_of_ble_eq_true rfl) ?_
    refine mi_sem_steps mi_in200 (mi_calok_none _ _) 2 _ (2, [(0, .ref 116), (1, .int a1), (2, .int a2), (3, .int a3)], [.int a1, .ref 116], (0, 0), mi_G) (by rfl) ?_
    have hM1479 : mi_Met mi_N0 3 mi_h186 [.ref 116, .int a1] mi_G (some (.int 0)) mi_G := by
      refine mi_met_of (y := 186) (q := (mi_h186, mi_c186)) rfl (by decide) (Nat.le_of_ble_eq_true rfl) ?_
      refine mi_sem_steps mi_in186 (mi_calok_none _ _) 1 _ (1, [(0, .ref 116), (1, .int a1)], [.int a1], (0, 0), mi_G) (by rfl) ?_
      refine mi_sem_b mi_in186 (decide (a1 < 0)) false (mi_ltF (0) (by decide) (by omega)) 41 4 ([(0, .ref 116), (1, .int a1)], [], (0, 0), mi_G) (by rfl) ?_
      refine mi_sem_steps mi_in186 (mi_calok_none _ _) 4 _ (9, [(0, .ref 116), (1, .int a1)], [.int ((a1 / 10)), .ref 116], (0, 0), mi_G) (by rfl) ?_
      have hM1478 : mi_Met mi_N0 2 mi_h132 [.ref 116, .int ((a1 / 10))] mi_G (some (.int 0)) mi_G := by
        refine mi_met_of (y := 132) (q := (mi_h132, mi_c132)) rfl (by decide) (Nat.le_of_ble_eq_true rfl) ?_
        refine mi_sem_steps mi_in132 (mi_calok_none _ _) 6 _ (8, [(0, .ref 116), (1, .int ((a1 / 10)))], [.int (-1), .int 0, .int ((a1 / 10))], (0, 0), mi_G) (by rfl) ?_
        have hM1477 : mi_Met mi_N0 1 mi_h131 [.int ((a1 / 10)), .int 0, .int (-1)] mi_G (some (.int 0)) mi_G := by
          refine mi_met_of (y := 131) (q := (mi_h131, mi_c131)) rfl (by decide) (Nat.le_of_ble_eq_true rfl) ?_
          refine mi_sem_steps mi_in131 (mi_calok_none _ _) 2 _ (2, [(0, .int ((a1 / 10))), (1, .int 0), (2, .int (-1))], [.int 0, .int ((a1 / 10))], (0, 0), mi_G) (by rfl) ?_
          refine mi_sem_b mi_in131 (decide (((a1 / 10)) < 0)) true (mi_ltT (0) (by decide) (by omega)) 14 5 ([(0, .int ((a1 / 10))), (1, .int 0), (2, .int (-1))], [], (0, 0), mi_G) (by rfl) ?_
          refine mi_sem_steps mi_in131 (mi_calok_none _ _) 1 _ (15, [(0, .int ((a1 / 10))), (1, .int 0), (2, .int (-1))], [.int 0], (0, 0), mi_G) (by rfl) ?_
          exact mi_sem_ret (cal := fun _ _ _ => none) mi_in131 (by rfl)
        refine mi_sem_call mi_in132 (i := (.invokestatic 119, 3, 131, 0, 9, 0, 379)) (by rfl) (by rfl) hM1477 (by decide) ⟨Nat.le_of_ble_eq_true rfl, Nat.le_of_ble_eq_true rfl⟩ ?_
        exact mi_sem_ret (cal := fun _ _ _ => none) mi_in132 (by rfl)
      refine mi_sem_call mi_in186 (i := (.invokevirtual 137, 3, 132, 0, 9, 0, 387)) (by rfl) (by rfl) hM1478 (by decide) ⟨Nat.le_of_ble_eq_true rfl, Nat.le_of_ble_eq_true rfl⟩ ?_
      refine mi_sem_steps mi_in186 (mi_calok_none _ _) 2 _ (42, [(0, .ref 116), (1, .int a1)], [.int 0], (0, 0), mi_G) (by rfl) ?_
      exact mi_sem_ret (cal := fun _ _ _ => none) mi_in186 (by rfl)
    refine mi_sem_call mi_in200 (i := (.invokevirtual 308, 3, 186, 0, 9, 0, 438)) (by rfl) (by rfl) hM1479 (by decide) ⟨Nat.le_of_ble_eq_true rfl, Nat.le_of_ble_eq_true rfl⟩ ?_
    refine mi_sem_steps mi_in200 (mi_calok_none _ _) 2 _ (29, [(0, .ref 116), (1, .int a1), (2, .int a2), (3, .int a3)], [.int (-2000000000)], (0, 0), mi_G) (by rfl) ?_
    exact mi_sem_ret (cal := fun _ _ _ => none) mi_in200 (by rfl)

set_option maxRecDepth 100000 in
set_option maxHeartbeats 4000000 in
theorem mp_byTurns_2 (a1 : Int32) (a2 : Int32) (a3 : Int32) (r0 : 0 ≤ (a1).toInt ∧ (a1).toInt ≤ 2147483647) (r1 : 0 ≤ ((a1 / 10)).toInt ∧ ((a1 / 10)).toInt ≤ 2147483647) : mi_P 100 200 [.int a1, .int a2, .int a3] := by
  refine ⟨.int (-2000000000), mi_G, mi_G, (mi_h100, mi_c100), (mi_h200, mi_c200), 4, 4, rfl, rfl, rfl, by decide, by decide, ?_, ?_⟩
  · refine mi_met_of (y := 100) (q := (mi_h100, mi_c100)) rfl (by decide) (Nat.le_of_ble_eq_true rfl) ?_
    refine mi_sem_steps mi_in100 (mi_calok_none _ _) 2 _ (2, [(0, .ref 0), (1, .int a1), (2, .int a2), (3, .int a3)], [.int a1, .ref 0], (0, 0), mi_G) (by rfl) ?_
    have hM1482 : mi_Met mi_N0 3 mi_h124 [.ref 0, .int a1] mi_G (some (.int 0)) mi_G := by
      refine mi_met_of (y := 124) (q := (mi_h124, mi_c124)) rfl (by decide) (Nat.le_of_ble_eq_true rfl) ?_
      refine mi_sem_steps mi_in124 (mi_calok_none _ _) 1 _ (1, [(0, .ref 0), (1, .int a1)], [.int a1], (0, 0), mi_G) (by rfl) ?_
      refine mi_sem_b mi_in124 (decide (a1 < 0)) false (mi_ltF (0) (by decide) (by omega)) 41 4 ([(0, .ref 0), (1, .int a1)], [], (0, 0), mi_G) (by rfl) ?_
      refine mi_sem_steps mi_in124 (mi_calok_none _ _) 4 _ (9, [(0, .ref 0), (1, .int a1)], [.int ((a1 / 10)), .ref 0], (0, 0), mi_G) (by rfl) ?_
      have hM1481 : mi_Met mi_N0 2 mi_h123 [.ref 0, .int ((a1 / 10))] mi_G (some (.int 0)) mi_G := by
        refine mi_met_of (y := 123) (q := (mi_h123, mi_c123)) rfl (by decide) (Nat.le_of_ble_eq_true rfl) ?_
        refine mi_sem_steps mi_in123 (mi_calok_none _ _) 3 _ (5, [(0, .ref 0), (1, .int ((a1 / 10)))], [.int ((a1 / 10)), .ref 1], (0, 0), mi_G) (by rfl) ?_
        have hM1480 : mi_Met mi_N0 1 mi_h24 [.ref 1, .int ((a1 / 10))] mi_G (some (.int 0)) mi_G := by
          refine mi_met_of (y := 24) (q := (mi_h24, mi_c24)) rfl (by decide) (Nat.le_of_ble_eq_true rfl) ?_
          refine mi_sem_steps mi_in24 (mi_calok_none _ _) 1 _ (1, [(0, .ref 1), (1, .int ((a1 / 10)))], [.int ((a1 / 10))], (0, 0), mi_G) (by rfl) ?_
          refine mi_sem_b mi_in24 (decide (((a1 / 10)) < 0)) false (mi_ltF (0) (by decide) (by omega)) 22 4 ([(0, .ref 1), (1, .int ((a1 / 10)))], [], (0, 0), mi_G) (by rfl) ?_
          refine mi_sem_steps mi_in24 (mi_calok_none _ _) 3 _ (9, [(0, .ref 1), (1, .int ((a1 / 10)))], [.int 0, .int ((a1 / 10))], (0, 0), mi_G) (by rfl) ?_
          refine mi_sem_b mi_in24 (decide (0 ≤ ((a1 / 10)))) true (mi_leT2 (0) (by decide) (by omega)) 22 12 ([(0, .ref 1), (1, .int ((a1 / 10)))], [], (0, 0), mi_G) (by rfl) ?_
          refine mi_sem_steps mi_in24 (mi_calok_none _ _) 1 _ (23, [(0, .ref 1), (1, .int ((a1 / 10)))], [.int 0], (0, 0), mi_G) (by rfl) ?_
          exact mi_sem_ret (cal := fun _ _ _ => none) mi_in24 (by rfl)
        refine mi_sem_call mi_in123 (i := (.invokevirtual 342, 3, 24, 0, 9, 0, 163)) (by rfl) (by rfl) hM1480 (by decide) ⟨Nat.le_of_ble_eq_true rfl, Nat.le_of_ble_eq_true rfl⟩ ?_
        exact mi_sem_ret (cal := fun _ _ _ => none) mi_in123 (by rfl)
      refine mi_sem_call mi_in124 (i := (.invokevirtual 141, 3, 123, 0, 9, 0, 162)) (by rfl) (by rfl) hM1481 (by decide) ⟨Nat.le_of_ble_eq_true rfl, Nat.le_of_ble_eq_true rfl⟩ ?_
      refine mi_sem_steps mi_in124 (mi_calok_none _ _) 2 _ (42, [(0, .ref 0), (1, .int a1)], [.int 0], (0, 0), mi_G) (by rfl) ?_
      exact mi_sem_ret (cal := fun _ _ _ => none) mi_in124 (by rfl)
    refine mi_sem_call mi_in100 (i := (.invokevirtual 200, 3, 124, 0, 9, 0, 254)) (by rfl) (by rfl) hM1482 (by decide) ⟨Nat.le_of_ble_eq_true rfl, Nat.le_of_ble_eq_true rfl⟩ ?_
    refine mi_sem_steps mi_in100 (mi_calok_none _ _) 2 _ (28, [(0, .ref 0), (1, .int a1), (2, .int a2), (3, .int a3)], [.int (-2000000000)], (0, 0), mi_G) (by rfl) ?_
    exact mi_sem_ret (cal := fun _ _ _ => none) mi_in100 (by rfl)
  · refine mi_met_of (y := 200) (q := (mi_h200, mi_c200)) rfl (by decide) (Nat.le_of_ble_eq_true rfl) ?_
    refine mi_sem_steps mi_in200 (mi_calok_none _ _) 2 _ (2, [(0, .ref 116), (1, .int a1), (2, .int a2), (3, .int a3)], [.int a1, .ref 116], (0, 0), mi_G) (by rfl) ?_
    have hM1485 : mi_Met mi_N0 3 mi_h186 [.ref 116, .int a1] mi_G (some (.int 0)) mi_G := by
      refine mi_met_of (y := 186) (q := (mi_h186, mi_c186)) rfl (by decide) (Nat.le_of_ble_eq_true rfl) ?_
      refine mi_sem_steps mi_in186 (mi_calok_none _ _) 1 _ (1, [(0, .ref 116), (1, .int a1)], [.int a1], (0, 0), mi_G) (by rfl) ?_
      refine mi_sem_b mi_in186 (decide (a1 < 0)) false (mi_ltF (0) (by decide) (by omega)) 41 4 ([(0, .ref 116), (1, .int a1)], [], (0, 0), mi_G) (by rfl) ?_
      refine mi_sem_steps mi_in186 (mi_calok_none _ _) 4 _ (9, [(0, .ref 116), (1, .int a1)], [.int ((a1 / 10)), .ref 116], (0, 0), mi_G) (by rfl) ?_
      have hM1484 : mi_Met mi_N0 2 mi_h132 [.ref 116, .int ((a1 / 10))] mi_G (some (.int 0)) mi_G := by
        refine mi_met_of (y := 132) (q := (mi_h132, mi_c132)) rfl (by decide) (Nat.le_of_ble_eq_true rfl) ?_
        refine mi_sem_steps mi_in132 (mi_calok_none _ _) 6 _ (8, [(0, .ref 116), (1, .int ((a1 / 10)))], [.int (-1), .int 0, .int ((a1 / 10))], (0, 0), mi_G) (by rfl) ?_
        have hM1483 : mi_Met mi_N0 1 mi_h131 [.int ((a1 / 10)), .int 0, .int (-1)] mi_G (some (.int 0)) mi_G := by
          refine mi_met_of (y := 131) (q := (mi_h131, mi_c131)) rfl (by decide) (Nat.le_of_ble_eq_true rfl) ?_
          refine mi_sem_steps mi_in131 (mi_calok_none _ _) 2 _ (2, [(0, .int ((a1 / 10))), (1, .int 0), (2, .int (-1))], [.int 0, .int ((a1 / 10))], (0, 0), mi_G) (by rfl) ?_
          refine mi_sem_b mi_in131 (decide (((a1 / 10)) < 0)) false (mi_ltF (0) (by decide) (by omega)) 14 5 ([(0, .int ((a1 / 10))), (1, .int 0), (2, .int (-1))], [], (0, 0), mi_G) (by rfl) ?_
          refine mi_sem_steps mi_in131 (mi_calok_none _ _) 2 _ (7, [(0, .int ((a1 / 10))), (1, .int 0), (2, .int (-1))], [.int (-1), .int ((a1 / 10))], (0, 0), mi_G) (by rfl) ?_
          refine mi_sem_b mi_in131 (decide ((-1) < ((a1 / 10)))) true (mi_ltT2 (-1) (by decide) (by omega)) 14 10 ([(0, .int ((a1 / 10))), (1, .int 0), (2, .int (-1))], [], (0, 0), mi_G) (by rfl) ?_
          refine mi_sem_steps mi_in131 (mi_calok_none _ _) 1 _ (15, [(0, .int ((a1 / 10))), (1, .int 0), (2, .int (-1))], [.int 0], (0, 0), mi_G) (by rfl) ?_
          exact mi_sem_ret (cal := fun _ _ _ => none) mi_in131 (by rfl)
        refine mi_sem_call mi_in132 (i := (.invokestatic 119, 3, 131, 0, 9, 0, 379)) (by rfl) (by rfl) hM1483 (by decide) ⟨Nat.le_of_ble_eq_true rfl, Nat.le_of_ble_eq_true rfl⟩ ?_
        exact mi_sem_ret (cal := fun _ _ _ => none) mi_in132 (by rfl)
      refine mi_sem_call mi_in186 (i := (.invokevirtual 137, 3, 132, 0, 9, 0, 387)) (by rfl) (by rfl) hM1484 (by decide) ⟨Nat.le_of_ble_eq_true rfl, Nat.le_of_ble_eq_true rfl⟩ ?_
      refine mi_sem_steps mi_in186 (mi_calok_none _ _) 2 _ (42, [(0, .ref 116), (1, .int a1)], [.int 0], (0, 0), mi_G) (by rfl) ?_
      exact mi_sem_ret (cal := fun _ _ _ => none) mi_in186 (by rfl)
    refine mi_sem_call mi_in200 (i := (.invokevirtual 308, 3, 186, 0, 9, 0, 438)) (by rfl) (by rfl) hM1485 (by decide) ⟨Nat.le_of_ble_eq_true rfl, Nat.le_of_ble_eq_true rfl⟩ ?_
    refine mi_sem_steps mi_in200 (mi_calok_none _ _) 2 _ (29, [(0, .ref 116), (1, .int a1), (2, .int a2), (3, .int a3)], [.int (-2000000000)], (0, 0), mi_G) (by rfl) ?_
    exact mi_sem_ret (cal := fun _ _ _ => none) mi_in200 (by rfl)

set_option maxRecDepth 100000 in
set_option maxHeartbeats 4000000 in
theorem mp_byTurns (a1 : Int32) (a2 : Int32) (a3 : Int32) : mi_P 100 200 [.int a1, .int a2, .int a3] := by
  have b0 := Int32.toInt_lt ((a1 / 10))
  have c0 := Int32.le_toInt ((a1 / 10))
  have b1 := Int32.toInt_lt (a1)
  have c1 := Int32.le_toInt (a1)
  rcases Int.lt_or_le (a1).toInt 0 with _hh | _hh
  ·
    exact mp_byTurns_0 a1 a2 a3 ⟨by omega, by omega⟩
  ·
    rcases Int.lt_or_le ((a1 / 10)).toInt 0 with _hh | _hh
    ·
      exact mp_byTurns_1 a1 a2 a3 ⟨by omega, by omega⟩ ⟨by omega, by omega⟩
    ·
      exact mp_byTurns_2 a1 a2 a3 ⟨by omega, by omega⟩ ⟨by omega, by omega⟩

set_option maxRecDepth 100000 in
set_option maxHeartbeats 4000000 in
theorem mp_comes_0 (a1 : Int32) (r0 : (-2147483648) ≤ (a1).toInt ∧ (a1).toInt ≤ (-1)) : mi_P 102 202 [.int a1] := by
  refine ⟨.int (-1), mi_G, mi_G, (mi_h102, mi_c102), (mi_h202, mi_c202), 3, 3, rfl, rfl, rfl, by decide, by decide, ?_, ?_⟩
  · refine mi_met_of (y := 102) (q := (mi_h102, mi_c102)) rfl (by decide) (Nat.le_of_ble_eq_true rfl) ?_
    refine mi_sem_steps mi_in102 (mi_calok_none _ _) 2 _ (2, [(0, .ref 0), (1, .int a1)], [.int a1, .ref 0], (0, 0), mi_G) (by rfl) ?_
    have hM1520 : mi_Met mi_N0 2 mi_h123 [.ref 0, .int a1] mi_G (some (.int 0)) mi_G := by
      refine mi_met_of (y := 123) (q := (mi_h123, mi_c123)) rfl (by decide) (Nat.le_of_ble_eq_true rfl) ?_
      refine mi_sem_steps mi_in123 (mi_calok_none _ _) 3 _ (5, [(0, .ref 0), (1, .int a1)], [.int a1, .ref 1], (0, 0), mi_G) (by rfl) ?_
      have hM1519 : mi_Met mi_N0 1 mi_h24 [.ref 1, .int a1] mi_G (some (.int 0)) mi_G := by
        refine mi_met_of (y := 24) (q := (mi_h24, mi_c24)) rfl (by decide) (Nat.le_of_ble_eq_true rfl) ?_
        refine mi_sem_steps mi_in24 (mi_calok_none _ _) 1 _ (1, [(0, .ref 1), (1, .int a1)], [.int a1], (0, 0), mi_G) (by rfl) ?_
        refine mi_sem_b mi_in24 (decide (a1 < 0)) true (mi_ltT (0) (by decide) (by omega)) 22 4 ([(0, .ref 1), (1, .int a1)], [], (0, 0), mi_G) (by rfl) ?_
        refine mi_sem_steps mi_in24 (mi_calok_none _ _) 1 _ (23, [(0, .ref 1), (1, .int a1)], [.int 0], (0, 0), mi_G) (by rfl) ?_
        exact mi_sem_ret (cal := fun _ _ _ => none) mi_in24 (by rfl)
      refine mi_sem_call mi_in123 (i := (.invokevirtual 342, 3, 24, 0, 9, 0, 163)) (by rfl) (by rfl) hM1519 (by decide) ⟨Nat.le_of_ble_eq_true rfl, Nat.le_of_ble_eq_true rfl⟩ ?_
      exact mi_sem_ret (cal := fun _ _ _ => none) mi_in123 (by rfl)
    refine mi_sem_call mi_in102 (i := (.invokevirtual 141, 3, 123, 0, 9, 0, 162)) (by rfl) (by rfl) hM1520 (by decide) ⟨Nat.le_of_ble_eq_true rfl, Nat.le_of_ble_eq_true rfl⟩ ?_
    refine mi_sem_steps mi_in102 (mi_calok_none _ _) 2 _ (20, [(0, .ref 0), (1, .int a1)], [.int (-1)], (0, 0), mi_G) (by rfl) ?_
    exact mi_sem_ret (cal := fun _ _ _ => none) mi_in102 (by rfl)
  · refine mi_met_of (y := 202) (q := (mi_h202, mi_c202)) rfl (by decide) (Nat.le_of_ble_eq_true rfl) ?_
    refine mi_sem_steps mi_in202 (mi_calok_none _ _) 2 _ (2, [(0, .ref 116), (1, .int a1)], [.int a1, .ref 116], (0, 0), mi_G) (by rfl) ?_
    have hM1522 : mi_Met mi_N0 2 mi_h132 [.ref 116, .int a1] mi_G (some (.int 0)) mi_G := by
      refine mi_met_of (y := 132) (q := (mi_h132, mi_c132)) rfl (by decide) (Nat.le_of_ble_eq_true rfl) ?_
      refine mi_sem_steps mi_in132 (mi_calok_none _ _) 6 _ (8, [(0, .ref 116), (1, .int a1)], [.int (-1), .int 0, .int a1], (0, 0), mi_G) (by rfl) ?_
      have hM1521 : mi_Met mi_N0 1 mi_h131 [.int a1, .int 0, .int (-1)] mi_G (some (.int 0)) mi_G := by
        refine mi_met_of (y := 131) (q := (mi_h131, mi_c131)) rfl (by decide) (Nat.le_of_ble_eq_true rfl) ?_
        refine mi_sem_steps mi_in131 (mi_calok_none _ _) 2 _ (2, [(0, .int a1), (1, .int 0), (2, .int (-1))], [.int 0, .int a1], (0, 0), mi_G) (by rfl) ?_
        refine mi_sem_b mi_in131 (decide (a1 < 0)) true (mi_ltT (0) (by decide) (by omega)) 14 5 ([(0, .int a1), (1, .int 0), (2, .int (-1))], [], (0, 0), mi_G) (by rfl) ?_
        refine mi_sem_steps mi_in131 (mi_calok_none _ _) 1 _ (15, [(0, .int a1), (1, .int 0), (2, .int (-1))], [.int 0], (0, 0), mi_G) (by rfl) ?_
        exact mi_sem_ret (cal := fun _ _ _ => none) mi_in131 (by rfl)
      refine mi_sem_call mi_in132 (i := (.invokestatic 119, 3, 131, 0, 9, 0, 379)) (by rfl) (by rfl) hM1521 (by decide) ⟨Nat.le_of_ble_eq_true rfl, Nat.le_of_ble_eq_true rfl⟩ ?_
      exact mi_sem_ret (cal := fun _ _ _ => none) mi_in132 (by rfl)
    refine mi_sem_call mi_in202 (i := (.invokevirtual 137, 3, 132, 0, 9, 0, 387)) (by rfl) (by rfl) hM1522 (by decide) ⟨Nat.le_of_ble_eq_true rfl, Nat.le_of_ble_eq_true rfl⟩ ?_
    refine mi_sem_steps mi_in202 (mi_calok_none _ _) 2 _ (9, [(0, .ref 116), (1, .int a1)], [.int (-1)], (0, 0), mi_G) (by rfl) ?_
    exact mi_sem_ret (cal := fun _ _ _ => none) mi_in202 (by rfl)

set_option maxRecDepth 100000 in
set_option maxHeartbeats 4000000 in
theorem mp_comes_1 (a1 : Int32) (r0 : 0 ≤ (a1).toInt ∧ (a1).toInt ≤ 2147483647) : mi_P 102 202 [.int a1] := by
  refine ⟨.int (-1), mi_G, mi_G, (mi_h102, mi_c102), (mi_h202, mi_c202), 3, 3, rfl, rfl, rfl, by decide, by decide, ?_, ?_⟩
  · refine mi_met_of (y := 102) (q := (mi_h102, mi_c102)) rfl (by decide) (Nat.le_of_ble_eq_true rfl) ?_
    refine mi_sem_steps mi_in102 (mi_calok_none _ _) 2 _ (2, [(0, .ref 0), (1, .int a1)], [.int a1, .ref 0], (0, 0), mi_G) (by rfl) ?_
    have hM1524 : mi_Met mi_N0 2 mi_h123 [.ref 0, .int a1] mi_G (some (.int 0)) mi_G := by
      refine mi_met_of (y := 123) (q := (mi_h123, mi_c123)) rfl (by decide) (Nat.le_of_ble_eq_true rfl) ?_
      refine mi_sem_steps mi_in123 (mi_calok_none _ _) 3 _ (5, [(0, .ref 0), (1, .int a1)], [.int a1, .ref 1], (0, 0), mi_G) (by rfl) ?_
      have hM1523 : mi_Met mi_N0 1 mi_h24 [.ref 1, .int a1] mi_G (some (.int 0)) mi_G := by
        refine mi_met_of (y := 24) (q := (mi_h24, mi_c24)) rfl (by decide) (Nat.le_of_ble_eq_true rfl) ?_
        refine mi_sem_steps mi_in24 (mi_calok_none _ _) 1 _ (1, [(0, .ref 1), (1, .int a1)], [.int a1], (0, 0), mi_G) (by rfl) ?_
        refine mi_sem_b mi_in24 (decide (a1 < 0)) false (mi_ltF (0) (by decide) (by omega)) 22 4 ([(0, .ref 1), (1, .int a1)], [], (0, 0), mi_G) (by rfl) ?_
        refine mi_sem_steps mi_in24 (mi_calok_none _ _) 3 _ (9, [(0, .ref 1), (1, .int a1)], [.int 0, .int a1], (0, 0), mi_G) (by rfl) ?_
        refine mi_sem_b mi_in24 (decide (0 ≤ a1)) true (mi_leT2 (0) (by decide) (by omega)) 22 12 ([(0, .ref 1), (1, .int a1)], [], (0, 0), mi_G) (by rfl) ?_
        refine mi_sem_steps mi_in24 (mi_calok_none _ _) 1 _ (23, [(0, .ref 1), (1, .int a1)], [.int 0], (0, 0), mi_G) (by rfl) ?_
        exact mi_sem_ret (cal := fun _ _ _ => none) mi_in24 (by rfl)
      refine mi_sem_call mi_in123 (i := (.invokevirtual 342, 3, 24, 0, 9, 0, 163)) (by rfl) (by rfl) hM1523 (by decide) ⟨Nat.le_of_ble_eq_true rfl, Nat.le_of_ble_eq_true rfl⟩ ?_
      exact mi_sem_ret (cal := fun _ _ _ => none) mi_in123 (by rfl)
    refine mi_sem_call mi_in102 (i := (.invokevirtual 141, 3, 123, 0, 9, 0, 162)) (by rfl) (by rfl) hM1524 (by decide) ⟨Nat.le_of_ble_eq_true rfl, Nat.le_of_ble_eq_true rfl⟩ ?_
    refine mi_sem_steps mi_in102 (mi_calok_none _ _) 2 _ (20, [(0, .ref 0), (1, .int a1)], [.int (-1)], (0, 0), mi_G) (by rfl) ?_
    exact mi_sem_ret (cal := fun _ _ _ => none) mi_in102 (by rfl)
  · refine mi_met_of (y := 202) (q := (mi_h202, mi_c202)) rfl (by decide) (Nat.le_of_ble_eq_true rfl) ?_
    refine mi_sem_steps mi_in202 (mi_calok_none _ _) 2 _ (2, [(0, .ref 116), (1, .int a1)], [.int a1, .ref 116], (0, 0), mi_G) (by rfl) ?_
    have hM1526 : mi_Met mi_N0 2 mi_h132 [.ref 116, .int a1] mi_G (some (.int 0)) mi_G := by
      refine mi_met_of (y := 132) (q := (mi_h132, mi_c132)) rfl (by decide) (Nat.le_of_ble_eq_true rfl) ?_
      refine mi_sem_steps mi_in132 (mi_calok_none _ _) 6 _ (8, [(0, .ref 116), (1, .int a1)], [.int (-1), .int 0, .int a1], (0, 0), mi_G) (by rfl) ?_
      have hM1525 : mi_Met mi_N0 1 mi_h131 [.int a1, .int 0, .int (-1)] mi_G (some (.int 0)) mi_G := by
        refine mi_met_of (y := 131) (q := (mi_h131, mi_c131)) rfl (by decide) (Nat.le_of_ble_eq_true rfl) ?_
        refine mi_sem_steps mi_in131 (mi_calok_none _ _) 2 _ (2, [(0, .int a1), (1, .int 0), (2, .int (-1))], [.int 0, .int a1], (0, 0), mi_G) (by rfl) ?_
        refine mi_sem_b mi_in131 (decide (a1 < 0)) false (mi_ltF (0) (by decide) (by omega)) 14 5 ([(0, .int a1), (1, .int 0), (2, .int (-1))], [], (0, 0), mi_G) (by rfl) ?_
        refine mi_sem_steps mi_in131 (mi_calok_none _ _) 2 _ (7, [(0, .int a1), (1, .int 0), (2, .int (-1))], [.int (-1), .int a1], (0, 0), mi_G) (by rfl) ?_
        refine mi_sem_b mi_in131 (decide ((-1) < a1)) true (mi_ltT2 (-1) (by decide) (by omega)) 14 10 ([(0, .int a1), (1, .int 0), (2, .int (-1))], [], (0, 0), mi_G) (by rfl) ?_
        refine mi_sem_steps mi_in131 (mi_calok_none _ _) 1 _ (15, [(0, .int a1), (1, .int 0), (2, .int (-1))], [.int 0], (0, 0), mi_G) (by rfl) ?_
        exact mi_sem_ret (cal := fun _ _ _ => none) mi_in131 (by rfl)
      refine mi_sem_call mi_in132 (i := (.invokestatic 119, 3, 131, 0, 9, 0, 379)) (by rfl) (by rfl) hM1525 (by decide) ⟨Nat.le_of_ble_eq_true rfl, Nat.le_of_ble_eq_true rfl⟩ ?_
      exact mi_sem_ret (cal := fun _ _ _ => none) mi_in132 (by rfl)
    refine mi_sem_call mi_in202 (i := (.invokevirtual 137, 3, 132, 0, 9, 0, 387)) (by rfl) (by rfl) hM1526 (by decide) ⟨Nat.le_of_ble_eq_true rfl, Nat.le_of_ble_eq_true rfl⟩ ?_
    refine mi_sem_steps mi_in202 (mi_calok_none _ _) 2 _ (9, [(0, .ref 116), (1, .int a1)], [.int (-1)], (0, 0), mi_G) (by rfl) ?_
    exact mi_sem_ret (cal := fun _ _ _ => none) mi_in202 (by rfl)

set_option maxRecDepth 100000 in
set_option maxHeartbeats 4000000 in
theorem mp_comes (a1 : Int32) : mi_P 102 202 [.int a1] := by
  have b0 := Int32.toInt_lt (a1)
  have c0 := Int32.le_toInt (a1)
  rcases Int.lt_or_le (a1).toInt 0 with _hh | _hh
  ·
    exact mp_comes_0 a1 ⟨by omega, by omega⟩
  ·
    exact mp_comes_1 a1 ⟨by omega, by omega⟩

set_option maxRecDepth 100000 in
set_option maxHeartbeats 4000000 in
theorem mp_evening_0   : mi_P 103 203 [] := by
  refine ⟨.int 1, ((mi_G.set 1 (.inl (4, [.int 0, .ref 2, .ref 3, .ref 4, .ref 5, .ref 6, .int 3, .int 1, .int 1, .int 0, .ref 7, .ref 10, .ref 14, .ref 15, .int 8, .int 0, .int 0, .ref 24]))).set 14 (.inr (.int, .inl [0, 0, 0, 1, 0]))), ((((mi_G.set 1 (.inl (4, [.int 0, .ref 2, .ref 3, .ref 4, .ref 5, .ref 6, .int 3, .int 1, .int 1, .int 0, .ref 7, .ref 10, .ref 14, .ref 15, .int 8, .int 0, .int 0, .ref 24]))).set 14 (.inr (.int, .inl [0, 0, 0, 1, 0]))).set 118 (.inr (.int, .inl [0, 0, 0, 0, 0, 0, 0, 0, 1, 0, 0, 0, 0, 0, 0, 0, 0, 0, 0, 0, 0, 0, 0, 0, 0, 0, 0, 0, 0, 0, 0]))).set 130 (.inr (.int, .inl [0, 0, 0, 1, 0]))), (mi_h103, mi_c103), (mi_h203, mi_c203), 2, 2, rfl, rfl, rfl, by decide, by decide, ?_, ?_⟩
  · exact mi_fun_ok mi_N0 2 103 (mi_h103, mi_c103) _ _ _ _ rfl (mi_eR_ok (by decide +kernel))
  · exact mi_fun_ok mi_N0 2 203 (mi_h203, mi_c203) _ _ _ _ rfl (mi_eR_ok (by decide +kernel))

set_option maxRecDepth 100000 in
set_option maxHeartbeats 4000000 in
theorem mp_evening  : mi_P 103 203 [] := by
  exact mp_evening_0  

set_option maxRecDepth 100000 in
set_option maxHeartbeats 4000000 in
theorem mp_gives_0 (a1 : Int32) (a2 : Int32) (a3 : Int32) (r0 : (-2147483648) ≤ (a1).toInt ∧ (a1).toInt ≤ (-1)) : mi_P 104 204 [.int a1, .int a2, .int a3] := by
  refine ⟨.int (-1), mi_G, mi_G, (mi_h104, mi_c104), (mi_h204, mi_c204), 3, 3, rfl, rfl, rfl, by decide, by decide, ?_, ?_⟩
  · refine mi_met_of (y := 104) (q := (mi_h104, mi_c104)) rfl (by decide) (Nat.le_of_ble_eq_true rfl) ?_
    refine mi_sem_steps mi_in104 (mi_calok_none _ _) 2 _ (2, [(0, .ref 0), (1, .int a1), (2, .int a2), (3, .int a3)], [.int a1, .ref 0], (0, 0), mi_G) (by rfl) ?_
    have hM1528 : mi_Met mi_N0 2 mi_h123 [.ref 0, .int a1] mi_G (some (.int 0)) mi_G := by
      refine mi_met_of (y := 123) (q := (mi_h123, mi_c123)) rfl (by decide) (Nat.le_of_ble_eq_true rfl) ?_
      refine mi_sem_steps mi_in123 (mi_calok_none _ _) 3 _ (5, [(0, .ref 0), (1, .int a1)], [.int a1, .ref 1], (0, 0), mi_G) (by rfl) ?_
      have hM1527 : mi_Met mi_N0 1 mi_h24 [.ref 1, .int a1] mi_G (some (.int 0)) mi_G := by
        refine mi_met_of (y := 24) (q := (mi_h24, mi_c24)) rfl (by decide) (Nat.le_of_ble_eq_true rfl) ?_
        refine mi_sem_steps mi_in24 (mi_calok_none _ _) 1 _ (1, [(0, .ref 1), (1, .int a1)], [.int a1], (0, 0), mi_G) (by rfl) ?_
        refine mi_sem_b mi_in24 (decide (a1 < 0)) true (mi_ltT (0) (by decide) (by omega)) 22 4 ([(0, .ref 1), (1, .int a1)], [], (0, 0), mi_G) (by rfl) ?_
        refine mi_sem_steps mi_in24 (mi_calok_none _ _) 1 _ (23, [(0, .ref 1), (1, .int a1)], [.int 0], (0, 0), mi_G) (by rfl) ?_
        exact mi_sem_ret (cal := fun _ _ _ => none) mi_in24 (by rfl)
      refine mi_sem_call mi_in123 (i := (.invokevirtual 342, 3, 24, 0, 9, 0, 163)) (by rfl) (by rfl) hM1527 (by decide) ⟨Nat.le_of_ble_eq_true rfl, Nat.le_of_ble_eq_true rfl⟩ ?_
      exact mi_sem_ret (cal := fun _ _ _ => none) mi_in123 (by rfl)
    refine mi_sem_call mi_in104 (i := (.invokevirtual 141, 3, 123, 0, 9, 0, 162)) (by rfl) (by rfl) hM1528 (by decide) ⟨Nat.le_of_ble_eq_true rfl, Nat.le_of_ble_eq_true rfl⟩ ?_
    refine mi_sem_steps mi_in104 (mi_calok_none _ _) 2 _ (33, [(0, .ref 0), (1, .int a1), (2, .int a2), (3, .int a3)], [.int (-1)], (0, 0), mi_G) (by rfl) ?_
    exact mi_sem_ret (cal := fun _ _ _ => none) mi_in104 (by rfl)
  · refine mi_met_of (y := 204) (q := (mi_h204, mi_c204)) rfl (by decide) (Nat.le_of_ble_eq_true rfl) ?_
    refine mi_sem_steps mi_in204 (mi_calok_none _ _) 2 _ (2, [(0, .ref 116), (1, .int a1), (2, .int a2), (3, .int a3)], [.int a1, .ref 116], (0, 0), mi_G) (by rfl) ?_
    have hM1530 : mi_Met mi_N0 2 mi_h132 [.ref 116, .int a1] mi_G (some (.int 0)) mi_G := by
      refine mi_met_of (y := 132) (q := (mi_h132, mi_c132)) rfl (by decide) (Nat.le_of_ble_eq_true rfl) ?_
      refine mi_sem_steps mi_in132 (mi_calok_none _ _) 6 _ (8, [(0, .ref 116), (1, .int a1)], [.int (-1), .int 0, .int a1], (0, 0), mi_G) (by rfl) ?_
      have hM1529 : mi_Met mi_N0 1 mi_h131 [.int a1, .int 0, .int (-1)] mi_G (some (.int 0)) mi_G := by
        refine mi_met_of (y := 131) (q := (mi_h131, mi_c131)) rfl (by decide) (Nat.le_of_ble_eq_true rfl) ?_
        refine mi_sem_steps mi_in131 (mi_calok_none _ _) 2 _ (2, [(0, .int a1), (1, .int 0), (2, .int (-1))], [.int 0, .int a1], (0, 0), mi_G) (by rfl) ?_
        refine mi_sem_b mi_in131 (decide (a1 < 0)) true (mi_ltT (0) (by decide) (by omega)) 14 5 ([(0, .int a1), (1, .int 0), (2, .int (-1))], [], (0, 0), mi_G) (by rfl) ?_
        refine mi_sem_steps mi_in131 (mi_calok_none _ _) 1 _ (15, [(0, .int a1), (1, .int 0), (2, .int (-1))], [.int 0], (0, 0), mi_G) (by rfl) ?_
        exact mi_sem_ret (cal := fun _ _ _ => none) mi_in131 (by rfl)
      refine mi_sem_call mi_in132 (i := (.invokestatic 119, 3, 131, 0, 9, 0, 379)) (by rfl) (by rfl) hM1529 (by decide) ⟨Nat.le_of_ble_eq_true rfl, Nat.le_of_ble_eq_true rfl⟩ ?_
      exact mi_sem_ret (cal := fun _ _ _ => none) mi_in132 (by rfl)
    refine mi_sem_call mi_in204 (i := (.invokevirtual 137, 3, 132, 0, 9, 0, 387)) (by rfl) (by rfl) hM1530 (by decide) ⟨Nat.le_of_ble_eq_true rfl, Nat.le_of_ble_eq_true rfl⟩ ?_
    refine mi_sem_steps mi_in204 (mi_calok_none _ _) 2 _ (33, [(0, .ref 116), (1, .int a1), (2, .int a2), (3, .int a3)], [.int (-1)], (0, 0), mi_G) (by rfl) ?_
    exact mi_sem_ret (cal := fun _ _ _ => none) mi_in204 (by rfl)

set_option maxRecDepth 100000 in
set_option maxHeartbeats 4000000 in
theorem mp_gives_1 (a1 : Int32) (a2 : Int32) (a3 : Int32) (r0 : 0 ≤ (a1).toInt ∧ (a1).toInt ≤ 2147483647) : mi_P 104 204 [.int a1, .int a2, .int a3] := by
  refine ⟨.int (-1), mi_G, mi_G, (mi_h104, mi_c104), (mi_h204, mi_c204), 3, 3, rfl, rfl, rfl, by decide, by decide, ?_, ?_⟩
  · refine mi_met_of (y := 104) (q := (mi_h104, mi_c104)) rfl (by decide) (Nat.le_of_ble_eq_true rfl) ?_
    refine mi_sem_steps mi_in104 (mi_calok_none _ _) 2 _ (2, [(0, .ref 0), (1, .int a1), (2, .int a2), (3, .int a3)], [.int a1, .ref 0], (0, 0), mi_G) (by rfl) ?_
    have hM1532 : mi_Met mi_N0 2 mi_h123 [.ref 0, .int a1] mi_G (some (.int 0)) mi_G := by
      refine mi_met_of (y := 123) (q := (mi_h123, mi_c123)) rfl (by decide) (Nat.le_of_ble_eq_true rfl) ?_
      refine mi_sem_steps mi_in123 (mi_calok_none _ _) 3 _ (5, [(0, .ref 0), (1, .int a1)], [.int a1, .ref 1], (0, 0), mi_G) (by rfl) ?_
      have hM1531 : mi_Met mi_N0 1 mi_h24 [.ref 1, .int a1] mi_G (some (.int 0)) mi_G := by
        refine mi_met_of (y := 24) (q := (mi_h24, mi_c24)) rfl (by decide) (Nat.le_of_ble_eq_true rfl) ?_
        refine mi_sem_steps mi_in24 (mi_calok_none _ _) 1 _ (1, [(0, .ref 1), (1, .int a1)], [.int a1], (0, 0), mi_G) (by rfl) ?_
        refine mi_sem_b mi_in24 (decide (a1 < 0)) false (mi_ltF (0) (by decide) (by omega)) 22 4 ([(0, .ref 1), (1, .int a1)], [], (0, 0), mi_G) (by rfl) ?_
        refine mi_sem_steps mi_in24 (mi_calok_none _ _) 3 _ (9, [(0, .ref 1), (1, .int a1)], [.int 0, .int a1], (0, 0), mi_G) (by rfl) ?_
        refine mi_sem_b mi_in24 (decide (0 ≤ a1)) true (mi_leT2 (0) (by decide) (by omega)) 22 12 ([(0, .ref 1), (1, .int a1)], [], (0, 0), mi_G) (by rfl) ?_
        refine mi_sem_steps mi_in24 (mi_calok_none _ _) 1 _ (23, [(0, .ref 1), (1, .int a1)], [.int 0], (0, 0), mi_G) (by rfl) ?_
        exact mi_sem_ret (cal := fun _ _ _ => none) mi_in24 (by rfl)
      refine mi_sem_call mi_in123 (i := (.invokevirtual 342, 3, 24, 0, 9, 0, 163)) (by rfl) (by rfl) hM1531 (by decide) ⟨Nat.le_of_ble_eq_true rfl, Nat.le_of_ble_eq_true rfl⟩ ?_
      exact mi_sem_ret (cal := fun _ _ _ => none) mi_in123 (by rfl)
    refine mi_sem_call mi_in104 (i := (.invokevirtual 141, 3, 123, 0, 9, 0, 162)) (by rfl) (by rfl) hM1532 (by decide) ⟨Nat.le_of_ble_eq_true rfl, Nat.le_of_ble_eq_true rfl⟩ ?_
    refine mi_sem_steps mi_in104 (mi_calok_none _ _) 2 _ (33, [(0, .ref 0), (1, .int a1), (2, .int a2), (3, .int a3)], [.int (-1)], (0, 0), mi_G) (by rfl) ?_
    exact mi_sem_ret (cal := fun _ _ _ => none) mi_in104 (by rfl)
  · refine mi_met_of (y := 204) (q := (mi_h204, mi_c204)) rfl (by decide) (Nat.le_of_ble_eq_true rfl) ?_
    refine mi_sem_steps mi_in204 (mi_calok_none _ _) 2 _ (2, [(0, .ref 116), (1, .int a1), (2, .int a2), (3, .int a3)], [.int a1, .ref 116], (0, 0), mi_G) (by rfl) ?_
    have hM1534 : mi_Met mi_N0 2 mi_h132 [.ref 116, .int a1] mi_G (some (.int 0)) mi_G := by
      refine mi_met_of (y := 132) (q := (mi_h132, mi_c132)) rfl (by decide) (Nat.le_of_ble_eq_true rfl) ?_
      refine mi_sem_steps mi_in132 (mi_calok_none _ _) 6 _ (8, [(0, .ref 116), (1, .int a1)], [.int (-1), .int 0, .int a1], (0, 0), mi_G) (by rfl) ?_
      have hM1533 : mi_Met mi_N0 1 mi_h131 [.int a1, .int 0, .int (-1)] mi_G (some (.int 0)) mi_G := by
        refine mi_met_of (y := 131) (q := (mi_h131, mi_c131)) rfl (by decide) (Nat.le_of_ble_eq_true rfl) ?_
        refine mi_sem_steps mi_in131 (mi_calok_none _ _) 2 _ (2, [(0, .int a1), (1, .int 0), (2, .int (-1))], [.int 0, .int a1], (0, 0), mi_G) (by rfl) ?_
        refine mi_sem_b mi_in131 (decide (a1 < 0)) false (mi_ltF (0) (by decide) (by omega)) 14 5 ([(0, .int a1), (1, .int 0), (2, .int (-1))], [], (0, 0), mi_G) (by rfl) ?_
        refine mi_sem_steps mi_in131 (mi_calok_none _ _) 2 _ (7, [(0, .int a1), (1, .int 0), (2, .int (-1))], [.int (-1), .int a1], (0, 0), mi_G) (by rfl) ?_
        refine mi_sem_b mi_in131 (decide ((-1) < a1)) true (mi_ltT2 (-1) (by decide) (by omega)) 14 10 ([(0, .int a1), (1, .int 0), (2, .int (-1))], [], (0, 0), mi_G) (by rfl) ?_
        refine mi_sem_steps mi_in131 (mi_calok_none _ _) 1 _ (15, [(0, .int a1), (1, .int 0), (2, .int (-1))], [.int 0], (0, 0), mi_G) (by rfl) ?_
        exact mi_sem_ret (cal := fun _ _ _ => none) mi_in131 (by rfl)
      refine mi_sem_call mi_in132 (i := (.invokestatic 119, 3, 131, 0, 9, 0, 379)) (by rfl) (by rfl) hM1533 (by decide) ⟨Nat.le_of_ble_eq_true rfl, Nat.le_of_ble_eq_true rfl⟩ ?_
      exact mi_sem_ret (cal := fun _ _ _ => none) mi_in132 (by rfl)
    refine mi_sem_call mi_in204 (i := (.invokevirtual 137, 3, 132, 0, 9, 0, 387)) (by rfl) (by rfl) hM1534 (by decide) ⟨Nat.le_of_ble_eq_true rfl, Nat.le_of_ble_eq_true rfl⟩ ?_
    refine mi_sem_steps mi_in204 (mi_calok_none _ _) 2 _ (33, [(0, .ref 116), (1, .int a1), (2, .int a2), (3, .int a3)], [.int (-1)], (0, 0), mi_G) (by rfl) ?_
    exact mi_sem_ret (cal := fun _ _ _ => none) mi_in204 (by rfl)

set_option maxRecDepth 100000 in
set_option maxHeartbeats 4000000 in
theorem mp_gives (a1 : Int32) (a2 : Int32) (a3 : Int32) : mi_P 104 204 [.int a1, .int a2, .int a3] := by
  have b0 := Int32.toInt_lt (a1)
  have c0 := Int32.le_toInt (a1)
  rcases Int.lt_or_le (a1).toInt 0 with _hh | _hh
  ·
    exact mp_gives_0 a1 a2 a3 ⟨by omega, by omega⟩
  ·
    exact mp_gives_1 a1 a2 a3 ⟨by omega, by omega⟩

set_option maxRecDepth 100000 in
set_option maxHeartbeats 4000000 in
theorem mp_led_0 (a1 : Int32) (r0 : (-2147483648) ≤ (a1).toInt ∧ (a1).toInt ≤ (-1)) : mi_P 105 205 [.int a1] := by
  refine ⟨.int (-1), mi_G, mi_G, (mi_h105, mi_c105), (mi_h205, mi_c205), 2, 2, rfl, rfl, rfl, by decide, by decide, ?_, ?_⟩
  · refine mi_met_of (y := 105) (q := (mi_h105, mi_c105)) rfl (by decide) (Nat.le_of_ble_eq_true rfl) ?_
    refine mi_sem_steps mi_in105 (mi_calok_none _ _) 3 _ (3, [(0, .ref 0), (1, .int a1)], [.int 4, .int 0, .int a1], (0, 0), mi_G) (by rfl) ?_
    have hM1535 : mi_Met mi_N0 1 mi_h120 [.int a1, .int 0, .int 4] mi_G (some (.int 0)) mi_G := by
      refine mi_met_of (y := 120) (q := (mi_h120, mi_c120)) rfl (by decide) (Nat.le_of_ble_eq_true rfl) ?_
      refine mi_sem_steps mi_in120 (mi_calok_none _ _) 2 _ (2, [(0, .int a1), (1, .int 0), (2, .int 4)], [.int 0, .int a1], (0, 0), mi_G) (by rfl) ?_
      refine mi_sem_b mi_in120 (decide (a1 < 0)) true (mi_ltT (0) (by decide) (by omega)) 14 5 ([(0, .int a1), (1, .int 0), (2, .int 4)], [], (0, 0), mi_G) (by rfl) ?_
      refine mi_sem_steps mi_in120 (mi_calok_none _ _) 1 _ (15, [(0, .int a1), (1, .int 0), (2, .int 4)], [.int 0], (0, 0), mi_G) (by rfl) ?_
      exact mi_sem_ret (cal := fun _ _ _ => none) mi_in120 (by rfl)
    refine mi_sem_call mi_in105 (i := (.invokestatic 74, 3, 120, 0, 9, 0, 152)) (by rfl) (by rfl) hM1535 (by decide) ⟨Nat.le_of_ble_eq_true rfl, Nat.le_of_ble_eq_true rfl⟩ ?_
    refine mi_sem_steps mi_in105 (mi_calok_none _ _) 2 _ (22, [(0, .ref 0), (1, .int a1)], [.int (-1)], (0, 0), mi_G) (by rfl) ?_
    exact mi_sem_ret (cal := fun _ _ _ => none) mi_in105 (by rfl)
  · refine mi_met_of (y := 205) (q := (mi_h205, mi_c205)) rfl (by decide) (Nat.le_of_ble_eq_true rfl) ?_
    refine mi_sem_steps mi_in205 (mi_calok_none _ _) 3 _ (3, [(0, .ref 116), (1, .int a1)], [.int 4, .int 0, .int a1], (0, 0), mi_G) (by rfl) ?_
    have hM1536 : mi_Met mi_N0 1 mi_h131 [.int a1, .int 0, .int 4] mi_G (some (.int 0)) mi_G := by
      refine mi_met_of (y := 131) (q := (mi_h131, mi_c131)) rfl (by decide) (Nat.le_of_ble_eq_true rfl) ?_
      refine mi_sem_steps mi_in131 (mi_calok_none _ _) 2 _ (2, [(0, .int a1), (1, .int 0), (2, .int 4)], [.int 0, .int a1], (0, 0), mi_G) (by rfl) ?_
      refine mi_sem_b mi_in131 (decide (a1 < 0)) true (mi_ltT (0) (by decide) (by omega)) 14 5 ([(0, .int a1), (1, .int 0), (2, .int 4)], [], (0, 0), mi_G) (by rfl) ?_
      refine mi_sem_steps mi_in131 (mi_calok_none _ _) 1 _ (15, [(0, .int a1), (1, .int 0), (2, .int 4)], [.int 0], (0, 0), mi_G) (by rfl) ?_
      exact mi_sem_ret (cal := fun _ _ _ => none) mi_in131 (by rfl)
    refine mi_sem_call mi_in205 (i := (.invokestatic 119, 3, 131, 0, 9, 0, 379)) (by rfl) (by rfl) hM1536 (by decide) ⟨Nat.le_of_ble_eq_true rfl, Nat.le_of_ble_eq_true rfl⟩ ?_
    refine mi_sem_steps mi_in205 (mi_calok_none _ _) 2 _ (19, [(0, .ref 116), (1, .int a1)], [.int (-1)], (0, 0), mi_G) (by rfl) ?_
    exact mi_sem_ret (cal := fun _ _ _ => none) mi_in205 (by rfl)

set_option maxRecDepth 100000 in
set_option maxHeartbeats 4000000 in
theorem mp_led_1   : mi_P 105 205 [.int 0] := by
  refine ⟨.int 0, mi_G, mi_G, (mi_h105, mi_c105), (mi_h205, mi_c205), 2, 2, rfl, rfl, rfl, by decide, by decide, ?_, ?_⟩
  · exact mi_fun_ok mi_N0 2 105 (mi_h105, mi_c105) _ _ _ _ rfl (mi_eR_ok (by decide +kernel))
  · exact mi_fun_ok mi_N0 2 205 (mi_h205, mi_c205) _ _ _ _ rfl (mi_eR_ok (by decide +kernel))

set_option maxRecDepth 100000 in
set_option maxHeartbeats 4000000 in
theorem mp_led_2   : mi_P 105 205 [.int 1] := by
  refine ⟨.int 0, mi_G, mi_G, (mi_h105, mi_c105), (mi_h205, mi_c205), 2, 2, rfl, rfl, rfl, by decide, by decide, ?_, ?_⟩
  · exact mi_fun_ok mi_N0 2 105 (mi_h105, mi_c105) _ _ _ _ rfl (mi_eR_ok (by decide +kernel))
  · exact mi_fun_ok mi_N0 2 205 (mi_h205, mi_c205) _ _ _ _ rfl (mi_eR_ok (by decide +kernel))

set_option maxRecDepth 100000 in
set_option maxHeartbeats 4000000 in
theorem mp_led_3   : mi_P 105 205 [.int 2] := by
  refine ⟨.int 0, mi_G, mi_G, (mi_h105, mi_c105), (mi_h205, mi_c205), 2, 2, rfl, rfl, rfl, by decide, by decide, ?_, ?_⟩
  · exact mi_fun_ok mi_N0 2 105 (mi_h105, mi_c105) _ _ _ _ rfl (mi_eR_ok (by decide +kernel))
  · exact mi_fun_ok mi_N0 2 205 (mi_h205, mi_c205) _ _ _ _ rfl (mi_eR_ok (by decide +kernel))

set_option maxRecDepth 100000 in
set_option maxHeartbeats 4000000 in
theorem mp_led_4   : mi_P 105 205 [.int 3] := by
  refine ⟨.int 0, mi_G, mi_G, (mi_h105, mi_c105), (mi_h205, mi_c205), 2, 2, rfl, rfl, rfl, by decide, by decide, ?_, ?_⟩
  · exact mi_fun_ok mi_N0 2 105 (mi_h105, mi_c105) _ _ _ _ rfl (mi_eR_ok (by decide +kernel))
  · exact mi_fun_ok mi_N0 2 205 (mi_h205, mi_c205) _ _ _ _ rfl (mi_eR_ok (by decide +kernel))

set_option maxRecDepth 100000 in
set_option maxHeartbeats 4000000 in
theorem mp_led_5   : mi_P 105 205 [.int 4] := by
  refine ⟨.int 0, mi_G, mi_G, (mi_h105, mi_c105), (mi_h205, mi_c205), 2, 2, rfl, rfl, rfl, by decide, by decide, ?_, ?_⟩
  · exact mi_fun_ok mi_N0 2 105 (mi_h105, mi_c105) _ _ _ _ rfl (mi_eR_ok (by decide +kernel))
  · exact mi_fun_ok mi_N0 2 205 (mi_h205, mi_c205) _ _ _ _ rfl (mi_eR_ok (by decide +kernel))

set_option maxRecDepth 100000 in
set_option maxHeartbeats 4000000 in
theorem mp_led_6 (a1 : Int32) (r0 : 5 ≤ (a1).toInt ∧ (a1).toInt ≤ 2147483647) : mi_P 105 205 [.int a1] := by
  refine ⟨.int (-1), mi_G, mi_G, (mi_h105, mi_c105), (mi_h205, mi_c205), 2, 2, rfl, rfl, rfl, by decide, by decide, ?_, ?_⟩
  · refine mi_met_of (y := 105) (q := (mi_h105, mi_c105)) rfl (by decide) (Nat.le_of_ble_eq_true rfl) ?_
    refine mi_sem_steps mi_in105 (mi_calok_none _ _) 3 _ (3, [(0, .ref 0), (1, .int a1)], [.int 4, .int 0, .int a1], (0, 0), mi_G) (by rfl) ?_
    have hM1541 : mi_Met mi_N0 1 mi_h120 [.int a1, .int 0, .int 4] mi_G (some (.int 0)) mi_G := by
      refine mi_met_of (y := 120) (q := (mi_h120, mi_c120)) rfl (by decide) (Nat.le_of_ble_eq_true rfl) ?_
      refine mi_sem_steps mi_in120 (mi_calok_none _ _) 2 _ (2, [(0, .int a1), (1, .int 0), (2, .int 4)], [.int 0, .int a1], (0, 0), mi_G) (by rfl) ?_
      refine mi_sem_b mi_in120 (decide (a1 < 0)) false (mi_ltF (0) (by decide) (by omega)) 14 5 ([(0, .int a1), (1, .int 0), (2, .int 4)], [], (0, 0), mi_G) (by rfl) ?_
      refine mi_sem_steps mi_in120 (mi_calok_none _ _) 2 _ (7, [(0, .int a1), (1, .int 0), (2, .int 4)], [.int 4, .int a1], (0, 0), mi_G) (by rfl) ?_
      refine mi_sem_b mi_in120 (decide (4 < a1)) true (mi_ltT2 (4) (by decide) (by omega)) 14 10 ([(0, .int a1), (1, .int 0), (2, .int 4)], [], (0, 0), mi_G) (by rfl) ?_
      refine mi_sem_steps mi_in120 (mi_calok_none _ _) 1 _ (15, [(0, .int a1), (1, .int 0), (2, .int 4)], [.int 0], (0, 0), mi_G) (by rfl) ?_
      exact mi_sem_ret (cal := fun _ _ _ => none) mi_in120 (by rfl)
    refine mi_sem_call mi_in105 (i := (.invokestatic 74, 3, 120, 0, 9, 0, 152)) (by rfl) (by rfl) hM1541 (by decide) ⟨Nat.le_of_ble_eq_true rfl, Nat.le_of_ble_eq_true rfl⟩ ?_
    refine mi_sem_steps mi_in105 (mi_calok_none _ _) 2 _ (22, [(0, .ref 0), (1, .int a1)], [.int (-1)], (0, 0), mi_G) (by rfl) ?_
    exact mi_sem_ret (cal := fun _ _ _ => none) mi_in105 (by rfl)
  · refine mi_met_of (y := 205) (q := (mi_h205, mi_c205)) rfl (by decide) (Nat.le_of_ble_eq_true rfl) ?_
    refine mi_sem_steps mi_in205 (mi_calok_none _ _) 3 _ (3, [(0, .ref 116), (1, .int a1)], [.int 4, .int 0, .int a1], (0, 0), mi_G) (by rfl) ?_
    have hM1542 : mi_Met mi_N0 1 mi_h131 [.int a1, .int 0, .int 4] mi_G (some (.int 0)) mi_G := by
      refine mi_met_of (y := 131) (q := (mi_h131, mi_c131)) rfl (by decide) (Nat.le_of_ble_eq_true rfl) ?_
      refine mi_sem_steps mi_in131 (mi_calok_none _ _) 2 _ (2, [(0, .int a1), (1, .int 0), (2, .int 4)], [.int 0, .int a1], (0, 0), mi_G) (by rfl) ?_
      refine mi_sem_b mi_in131 (decide (a1 < 0)) false (mi_ltF (0) (by decide) (by omega)) 14 5 ([(0, .int a1), (1, .int 0), (2, .int 4)], [], (0, 0), mi_G) (by rfl) ?_
      refine mi_sem_steps mi_in131 (mi_calok_none _ _) 2 _ (7, [(0, .int a1), (1, .int 0), (2, .int 4)], [.int 4, .int a1], (0, 0), mi_G) (by rfl) ?_
      refine mi_sem_b mi_in131 (decide (4 < a1)) true (mi_ltT2 (4) (by decide) (by omega)) 14 10 ([(0, .int a1), (1, .int 0), (2, .int 4)], [], (0, 0), mi_G) (by rfl) ?_
      refine mi_sem_steps mi_in131 (mi_calok_none _ _) 1 _ (15, [(0, .int a1), (1, .int 0), (2, .int 4)], [.int 0], (0, 0), mi_G) (by rfl) ?_
      exact mi_sem_ret (cal := fun _ _ _ => none) mi_in131 (by rfl)
    refine mi_sem_call mi_in205 (i := (.invokestatic 119, 3, 131, 0, 9, 0, 379)) (by rfl) (by rfl) hM1542 (by decide) ⟨Nat.le_of_ble_eq_true rfl, Nat.le_of_ble_eq_true rfl⟩ ?_
    refine mi_sem_steps mi_in205 (mi_calok_none _ _) 2 _ (19, [(0, .ref 116), (1, .int a1)], [.int (-1)], (0, 0), mi_G) (by rfl) ?_
    exact mi_sem_ret (cal := fun _ _ _ => none) mi_in205 (by rfl)

set_option maxRecDepth 100000 in
set_option maxHeartbeats 4000000 in
theorem mp_led (a1 : Int32) : mi_P 105 205 [.int a1] := by
  have b0 := Int32.toInt_lt (a1)
  have c0 := Int32.le_toInt (a1)
  rcases Int.lt_or_le (a1).toInt 0 with _hh | _hh
  ·
    exact mp_led_0 a1 ⟨by omega, by omega⟩
  ·
    rcases Int.lt_or_le (a1).toInt 5 with _hh | _hh
    ·
      rcases Int.lt_or_le (a1).toInt 1 with _hh | _hh
      ·
        have e_a1 : a1 = 0 := Int32.toInt_inj.mp ((by omega : (a1).toInt = 0).trans (by decide))
        subst e_a1
        exact mp_led_1  
      ·
        rcases Int.lt_or_le (a1).toInt 2 with _hh | _hh
        ·
          have e_a1 : a1 = 1 := Int32.toInt_inj.mp ((by omega : (a1).toInt = 1).trans (by decide))
          subst e_a1
          exact mp_led_2  
        ·
          rcases Int.lt_or_le (a1).toInt 3 with _hh | _hh
          ·
            have e_a1 : a1 = 2 := Int32.toInt_inj.mp ((by omega : (a1).toInt = 2).trans (by decide))
            subst e_a1
            exact mp_led_3  
          ·
            rcases Int.lt_or_le (a1).toInt 4 with _hh | _hh
            ·
              have e_a1 : a1 = 3 := Int32.toInt_inj.mp ((by omega : (a1).toInt = 3).trans (by decide))
              subst e_a1
              exact mp_led_4  
            ·
              have e_a1 : a1 = 4 := Int32.toInt_inj.mp ((by omega : (a1).toInt = 4).trans (by decide))
              subst e_a1
              exact mp_led_5  
    ·
      exact mp_led_6 a1 ⟨by omega, by omega⟩

set_option maxRecDepth 100000 in
set_option maxHeartbeats 4000000 in
theorem mp_image_0   : mi_P 106 206 [] := by
  refine ⟨.int 0, (mi_G.set 0 (.inl (8, [.ref 1, .ref 25, .int 1, .ref 49, .ref 89, .ref 94, .ref 97, .ref 98]))), ((mi_G.set 0 (.inl (8, [.ref 1, .ref 25, .int 1, .ref 49, .ref 89, .ref 94, .ref 97, .ref 98]))).set 116 (.inl (9, [.int 0, .ref 117, .int 3, .int 1, .ref 118, .int 0, .ref 119, .int 0, .int 0, .ref 120, .ref 121, .ref 122, .ref 123, .int 0, .int 0, .int 0, .int 0, .ref 124, .ref 125, .ref 126, .ref 127, .ref 128, .ref 129, .ref 130, .int 1, .int 0, .ref 131, .ref 132, .int 0, .int 0, .ref 133, .int 0, .ref 134, .int 0, .ref 135, .ref 136, .ref 137, .ref 138, .ref 139, .ref 140, .int 0, .int 0, .int 0, .int 0, .ref 141, .int 0, .ref 142, .ref 143, .ref 144, .ref 145, .ref 146, .ref 147, .int 0, .ref 148]))), (mi_h106, mi_c106), (mi_h206, mi_c206), 3, 2, rfl, rfl, rfl, by decide, by decide, ?_, ?_⟩
  · exact mi_fun_ok mi_N0 3 106 (mi_h106, mi_c106) _ _ _ _ rfl (mi_eR_ok (by decide +kernel))
  · exact mi_fun_ok mi_N0 2 206 (mi_h206, mi_c206) _ _ _ _ rfl (mi_eR_ok (by decide +kernel))

set_option maxRecDepth 100000 in
set_option maxHeartbeats 4000000 in
theorem mp_image  : mi_P 106 206 [] := by
  exact mp_image_0  

set_option maxRecDepth 100000 in
set_option maxHeartbeats 4000000 in
theorem mp_back_0   : mi_P 107 207 [] := by
  refine ⟨.int (-5), mi_G, mi_G, (mi_h107, mi_c107), (mi_h207, mi_c207), 1, 1, rfl, rfl, rfl, by decide, by decide, ?_, ?_⟩
  · exact mi_fun_ok mi_N0 1 107 (mi_h107, mi_c107) _ _ _ _ rfl (mi_eR_ok (by decide +kernel))
  · exact mi_fun_ok mi_N0 1 207 (mi_h207, mi_c207) _ _ _ _ rfl (mi_eR_ok (by decide +kernel))

set_option maxRecDepth 100000 in
set_option maxHeartbeats 4000000 in
theorem mp_back  : mi_P 107 207 [] := by
  exact mp_back_0  

set_option maxRecDepth 100000 in
set_option maxHeartbeats 4000000 in
theorem mp_undo_0   : mi_P 108 144 [] := by
  refine ⟨.int (-5), mi_G, mi_G, (mi_h108, mi_c108), (mi_h144, mi_c144), 1, 1, rfl, rfl, rfl, by decide, by decide, ?_, ?_⟩
  · exact mi_fun_ok mi_N0 1 108 (mi_h108, mi_c108) _ _ _ _ rfl (mi_eR_ok (by decide +kernel))
  · exact mi_fun_ok mi_N0 1 144 (mi_h144, mi_c144) _ _ _ _ rfl (mi_eR_ok (by decide +kernel))

set_option maxRecDepth 100000 in
set_option maxHeartbeats 4000000 in
theorem mp_undo  : mi_P 108 144 [] := by
  exact mp_undo_0  

set_option maxRecDepth 100000 in
set_option maxHeartbeats 4000000 in
theorem mp_redo_0   : mi_P 109 145 [] := by
  refine ⟨.int (-5), mi_G, mi_G, (mi_h109, mi_c109), (mi_h145, mi_c145), 1, 1, rfl, rfl, rfl, by decide, by decide, ?_, ?_⟩
  · exact mi_fun_ok mi_N0 1 109 (mi_h109, mi_c109) _ _ _ _ rfl (mi_eR_ok (by decide +kernel))
  · exact mi_fun_ok mi_N0 1 145 (mi_h145, mi_c145) _ _ _ _ rfl (mi_eR_ok (by decide +kernel))

set_option maxRecDepth 100000 in
set_option maxHeartbeats 4000000 in
theorem mp_redo  : mi_P 109 145 [] := by
  exact mp_redo_0  

set_option maxRecDepth 100000 in
set_option maxHeartbeats 4000000 in
theorem mp_body_0 (a1 : Int32) (r0 : (-2147483648) ≤ (a1).toInt ∧ (a1).toInt ≤ (-1)) : mi_P 110 214 [.int a1] := by
  refine ⟨.int (-1), mi_G, mi_G, (mi_h110, mi_c110), (mi_h214, mi_c214), 2, 2, rfl, rfl, rfl, by decide, by decide, ?_, ?_⟩
  · refine mi_met_of (y := 110) (q := (mi_h110, mi_c110)) rfl (by decide) (Nat.le_of_ble_eq_true rfl) ?_
    refine mi_sem_steps mi_in110 (mi_calok_none _ _) 3 _ (4, [(0, .ref 0), (1, .int a1)], [.int 7, .int 0, .int a1], (0, 0), mi_G) (by rfl) ?_
    have hM1543 : mi_Met mi_N0 1 mi_h120 [.int a1, .int 0, .int 7] mi_G (some (.int 0)) mi_G := by
      refine mi_met_of (y := 120) (q := (mi_h120, mi_c120)) rfl (by decide) (Nat.le_of_ble_eq_true rfl) ?_
      refine mi_sem_steps mi_in120 (mi_calok_none _ _) 2 _ (2, [(0, .int a1), (1, .int 0), (2, .int 7)], [.int 0, .int a1], (0, 0), mi_G) (by rfl) ?_
      refine mi_sem_b mi_in120 (decide (a1 < 0)) true (mi_ltT (0) (by decide) (by omega)) 14 5 ([(0, .int a1), (1, .int 0), (2, .int 7)], [], (0, 0), mi_G) (by rfl) ?_
      refine mi_sem_steps mi_in120 (mi_calok_none _ _) 1 _ (15, [(0, .int a1), (1, .int 0), (2, .int 7)], [.int 0], (0, 0), mi_G) (by rfl) ?_
      exact mi_sem_ret (cal := fun _ _ _ => none) mi_in120 (by rfl)
    refine mi_sem_call mi_in110 (i := (.invokestatic 74, 3, 120, 0, 9, 0, 152)) (by rfl) (by rfl) hM1543 (by decide) ⟨Nat.le_of_ble_eq_true rfl, Nat.le_of_ble_eq_true rfl⟩ ?_
    refine mi_sem_steps mi_in110 (mi_calok_none _ _) 2 _ (11, [(0, .ref 0), (1, .int a1)], [.int (-1)], (0, 0), mi_G) (by rfl) ?_
    exact mi_sem_ret (cal := fun _ _ _ => none) mi_in110 (by rfl)
  · refine mi_met_of (y := 214) (q := (mi_h214, mi_c214)) rfl (by decide) (Nat.le_of_ble_eq_true rfl) ?_
    refine mi_sem_steps mi_in214 (mi_calok_none _ _) 3 _ (4, [(0, .ref 116), (1, .int a1)], [.int 7, .int 0, .int a1], (0, 0), mi_G) (by rfl) ?_
    have hM1544 : mi_Met mi_N0 1 mi_h131 [.int a1, .int 0, .int 7] mi_G (some (.int 0)) mi_G := by
      refine mi_met_of (y := 131) (q := (mi_h131, mi_c131)) rfl (by decide) (Nat.le_of_ble_eq_true rfl) ?_
      refine mi_sem_steps mi_in131 (mi_calok_none _ _) 2 _ (2, [(0, .int a1), (1, .int 0), (2, .int 7)], [.int 0, .int a1], (0, 0), mi_G) (by rfl) ?_
      refine mi_sem_b mi_in131 (decide (a1 < 0)) true (mi_ltT (0) (by decide) (by omega)) 14 5 ([(0, .int a1), (1, .int 0), (2, .int 7)], [], (0, 0), mi_G) (by rfl) ?_
      refine mi_sem_steps mi_in131 (mi_calok_none _ _) 1 _ (15, [(0, .int a1), (1, .int 0), (2, .int 7)], [.int 0], (0, 0), mi_G) (by rfl) ?_
      exact mi_sem_ret (cal := fun _ _ _ => none) mi_in131 (by rfl)
    refine mi_sem_call mi_in214 (i := (.invokestatic 119, 3, 131, 0, 9, 0, 379)) (by rfl) (by rfl) hM1544 (by decide) ⟨Nat.le_of_ble_eq_true rfl, Nat.le_of_ble_eq_true rfl⟩ ?_
    refine mi_sem_steps mi_in214 (mi_calok_none _ _) 2 _ (11, [(0, .ref 116), (1, .int a1)], [.int (-1)], (0, 0), mi_G) (by rfl) ?_
    exact mi_sem_ret (cal := fun _ _ _ => none) mi_in214 (by rfl)

set_option maxRecDepth 100000 in
set_option maxHeartbeats 4000000 in
theorem mp_body_1 (a1 : Int32) (r0 : 0 ≤ (a1).toInt ∧ (a1).toInt ≤ 7) : mi_P 110 214 [.int a1] := by
  refine ⟨.int 0, ((mi_G.set 95 (.inr (.int, .inl [a1, 0, 0, 0, 0, 0, 0, 0, 0, 0, 0, 0, 0, 0, 0, 0, 0, 0, 0, 0, 0, 0, 0, 0, 0, 0, 0, 0, 0, 0, 0, 0, 0, 0, 0, 0, 0, 0, 0, 0, 0, 0, 0, 0, 0, 0, 0, 0, 0, 0]))).set 94 (.inl (2, [.ref 95, .int 1, .ref 96, .int 0]))), ((((mi_G.set 95 (.inr (.int, .inl [a1, 0, 0, 0, 0, 0, 0, 0, 0, 0, 0, 0, 0, 0, 0, 0, 0, 0, 0, 0, 0, 0, 0, 0, 0, 0, 0, 0, 0, 0, 0, 0, 0, 0, 0, 0, 0, 0, 0, 0, 0, 0, 0, 0, 0, 0, 0, 0, 0, 0]))).set 94 (.inl (2, [.ref 95, .int 1, .ref 96, .int 0]))).set 134 (.inr (.int, .inl [a1, 0, 0, 0, 0, 0, 0, 0, 0, 0, 0, 0, 0, 0, 0, 0, 0, 0, 0, 0, 0, 0, 0, 0, 0, 0, 0, 0, 0, 0, 0, 0, 0, 0, 0, 0, 0, 0, 0, 0, 0, 0, 0, 0, 0, 0, 0, 0, 0, 0]))).set 116 (.inl (9, [.int 0, .ref 117, .int 3, .int 1, .ref 118, .int 0, .ref 119, .int 0, .int 0, .ref 120, .ref 121, .ref 122, .ref 123, .int 0, .int 0, .int 0, .int 0, .ref 124, .ref 125, .ref 126, .ref 127, .ref 128, .ref 129, .ref 130, .int 0, .int 0, .ref 131, .ref 132, .int 0, .int 0, .ref 133, .int 1, .ref 134, .int 0, .ref 135, .ref 136, .ref 137, .ref 138, .ref 139, .ref 140, .int 0, .int 0, .int 0, .int 0, .ref 141, .int 0, .ref 142, .ref 143, .ref 144, .ref 145, .ref 146, .ref 147, .int 0, .ref 148]))), (mi_h110, mi_c110), (mi_h214, mi_c214), 2, 2, rfl, rfl, rfl, by decide, by decide, ?_, ?_⟩
  · refine mi_met_of (y := 110) (q := (mi_h110, mi_c110)) rfl (by decide) (Nat.le_of_ble_eq_true rfl) ?_
    refine mi_sem_steps mi_in110 (mi_calok_none _ _) 3 _ (4, [(0, .ref 0), (1, .int a1)], [.int 7, .int 0, .int a1], (0, 0), mi_G) (by rfl) ?_
    have hM1545 : mi_Met mi_N0 1 mi_h120 [.int a1, .int 0, .int 7] mi_G (some (.int 1)) mi_G := by
      refine mi_met_of (y := 120) (q := (mi_h120, mi_c120)) rfl (by decide) (Nat.le_of_ble_eq_true rfl) ?_
      refine mi_sem_steps mi_in120 (mi_calok_none _ _) 2 _ (2, [(0, .int a1), (1, .int 0), (2, .int 7)], [.int 0, .int a1], (0, 0), mi_G) (by rfl) ?_
      refine mi_sem_b mi_in120 (decide (a1 < 0)) false (mi_ltF (0) (by decide) (by omega)) 14 5 ([(0, .int a1), (1, .int 0), (2, .int 7)], [], (0, 0), mi_G) (by rfl) ?_
      refine mi_sem_steps mi_in120 (mi_calok_none _ _) 2 _ (7, [(0, .int a1), (1, .int 0), (2, .int 7)], [.int 7, .int a1], (0, 0), mi_G) (by rfl) ?_
      refine mi_sem_b mi_in120 (decide (7 < a1)) false (mi_ltF2 (7) (by decide) (by omega)) 14 10 ([(0, .int a1), (1, .int 0), (2, .int 7)], [], (0, 0), mi_G) (by rfl) ?_
      refine mi_sem_steps mi_in120 (mi_calok_none _ _) 2 _ (15, [(0, .int a1), (1, .int 0), (2, .int 7)], [.int 1], (0, 0), mi_G) (by rfl) ?_
      exact mi_sem_ret (cal := fun _ _ _ => none) mi_in120 (by rfl)
    refine mi_sem_call mi_in110 (i := (.invokestatic 74, 3, 120, 0, 9, 0, 152)) (by rfl) (by rfl) hM1545 (by decide) ⟨Nat.le_of_ble_eq_true rfl, Nat.le_of_ble_eq_true rfl⟩ ?_
    refine mi_sem_steps mi_in110 (mi_calok_none _ _) 9 _ (34, [(0, .ref 0), (1, .int a1)], [.int a1, .ref 94], (0, 0), mi_G) (by rfl) ?_
    have hM1546 : mi_Met mi_N0 1 mi_h9 [.ref 94, .int a1] mi_G (some (.int 0)) ((mi_G.set 95 (.inr (.int, .inl [a1, 0, 0, 0, 0, 0, 0, 0, 0, 0, 0, 0, 0, 0, 0, 0, 0, 0, 0, 0, 0, 0, 0, 0, 0, 0, 0, 0, 0, 0, 0, 0, 0, 0, 0, 0, 0, 0, 0, 0, 0, 0, 0, 0, 0, 0, 0, 0, 0, 0]))).set 94 (.inl (2, [.ref 95, .int 1, .ref 96, .int 0]))) := by
      refine mi_met_of (y := 9) (q := (mi_h9, mi_c9)) rfl (by decide) (Nat.le_of_ble_eq_true rfl) ?_
      refine mi_sem_steps mi_in9 (mi_calok_none _ _) 20 _ (38, [(0, .ref 94), (1, .int a1)], [.int 0], (0, 0), ((mi_G.set 95 (.inr (.int, .inl [a1, 0, 0, 0, 0, 0, 0, 0, 0, 0, 0, 0, 0, 0, 0, 0, 0, 0, 0, 0, 0, 0, 0, 0, 0, 0, 0, 0, 0, 0, 0, 0, 0, 0, 0, 0, 0, 0, 0, 0, 0, 0, 0, 0, 0, 0, 0, 0, 0, 0]))).set 94 (.inl (2, [.ref 95, .int 1, .ref 96, .int 0])))) (by rfl) ?_
      exact mi_sem_ret (cal := fun _ _ _ => none) mi_in9 (by rfl)
    refine mi_sem_call mi_in110 (i := (.invokevirtual 291, 3, 9, 0, 9, 0, 293)) (by rfl) (by rfl) hM1546 (by decide) ⟨Nat.le_of_ble_eq_true rfl, Nat.le_of_ble_eq_true rfl⟩ ?_
    exact mi_sem_ret (cal := fun _ _ _ => none) mi_in110 (by rfl)
  · refine mi_met_of (y := 214) (q := (mi_h214, mi_c214)) rfl (by decide) (Nat.le_of_ble_eq_true rfl) ?_
    refine mi_sem_steps mi_in214 (mi_calok_none _ _) 3 _ (4, [(0, .ref 116), (1, .int a1)], [.int 7, .int 0, .int a1], (0, 0), ((mi_G.set 95 (.inr (.int, .inl [a1, 0, 0, 0, 0, 0, 0, 0, 0, 0, 0, 0, 0, 0, 0, 0, 0, 0, 0, 0, 0, 0, 0, 0, 0, 0, 0, 0, 0, 0, 0, 0, 0, 0, 0, 0, 0, 0, 0, 0, 0, 0, 0, 0, 0, 0, 0, 0, 0, 0]))).set 94 (.inl (2, [.ref 95, .int 1, .ref 96, .int 0])))) (by rfl) ?_
    have hM1547 : mi_Met mi_N0 1 mi_h131 [.int a1, .int 0, .int 7] ((mi_G.set 95 (.inr (.int, .inl [a1, 0, 0, 0, 0, 0, 0, 0, 0, 0, 0, 0, 0, 0, 0, 0, 0, 0, 0, 0, 0, 0, 0, 0, 0, 0, 0, 0, 0, 0, 0, 0, 0, 0, 0, 0, 0, 0, 0, 0, 0, 0, 0, 0, 0, 0, 0, 0, 0, 0]))).set 94 (.inl (2, [.ref 95, .int 1, .ref 96, .int 0]))) (some (.int 1)) ((mi_G.set 95 (.inr (.int, .inl [a1, 0, 0, 0, 0, 0, 0, 0, 0, 0, 0, 0, 0, 0, 0, 0, 0, 0, 0, 0, 0, 0, 0, 0, 0, 0, 0, 0, 0, 0, 0, 0, 0, 0, 0, 0, 0, 0, 0, 0, 0, 0, 0, 0, 0, 0, 0, 0, 0, 0]))).set 94 (.inl (2, [.ref 95, .int 1, .ref 96, .int 0]))) := by
      refine mi_met_of (y := 131) (q := (mi_h131, mi_c131)) rfl (by decide) (Nat.le_of_ble_eq_true rfl) ?_
      refine mi_sem_steps mi_in131 (mi_calok_none _ _) 2 _ (2, [(0, .int a1), (1, .int 0), (2, .int 7)], [.int 0, .int a1], (0, 0), ((mi_G.set 95 (.inr (.int, .inl [a1, 0, 0, 0, 0, 0, 0, 0, 0, 0, 0, 0, 0, 0, 0, 0, 0, 0, 0, 0, 0, 0, 0, 0, 0, 0, 0, 0, 0, 0, 0, 0, 0, 0, 0, 0, 0, 0, 0, 0, 0, 0, 0, 0, 0, 0, 0, 0, 0, 0]))).set 94 (.inl (2, [.ref 95, .int 1, .ref 96, .int 0])))) (by rfl) ?_
      refine mi_sem_b mi_in131 (decide (a1 < 0)) false (mi_ltF (0) (by decide) (by omega)) 14 5 ([(0, .int a1), (1, .int 0), (2, .int 7)], [], (0, 0), ((mi_G.set 95 (.inr (.int, .inl [a1, 0, 0, 0, 0, 0, 0, 0, 0, 0, 0, 0, 0, 0, 0, 0, 0, 0, 0, 0, 0, 0, 0, 0, 0, 0, 0, 0, 0, 0, 0, 0, 0, 0, 0, 0, 0, 0, 0, 0, 0, 0, 0, 0, 0, 0, 0, 0, 0, 0]))).set 94 (.inl (2, [.ref 95, .int 1, .ref 96, .int 0])))) (by rfl) ?_
      refine mi_sem_steps mi_in131 (mi_calok_none _ _) 2 _ (7, [(0, .int a1), (1, .int 0), (2, .int 7)], [.int 7, .int a1], (0, 0), ((mi_G.set 95 (.inr (.int, .inl [a1, 0, 0, 0, 0, 0, 0, 0, 0, 0, 0, 0, 0, 0, 0, 0, 0, 0, 0, 0, 0, 0, 0, 0, 0, 0, 0, 0, 0, 0, 0, 0, 0, 0, 0, 0, 0, 0, 0, 0, 0, 0, 0, 0, 0, 0, 0, 0, 0, 0]))).set 94 (.inl (2, [.ref 95, .int 1, .ref 96, .int 0])))) (by rfl) ?_
      refine mi_sem_b mi_in131 (decide (7 < a1)) false (mi_ltF2 (7) (by decide) (by omega)) 14 10 ([(0, .int a1), (1, .int 0), (2, .int 7)], [], (0, 0), ((mi_G.set 95 (.inr (.int, .inl [a1, 0, 0, 0, 0, 0, 0, 0, 0, 0, 0, 0, 0, 0, 0, 0, 0, 0, 0, 0, 0, 0, 0, 0, 0, 0, 0, 0, 0, 0, 0, 0, 0, 0, 0, 0, 0, 0, 0, 0, 0, 0, 0, 0, 0, 0, 0, 0, 0, 0]))).set 94 (.inl (2, [.ref 95, .int 1, .ref 96, .int 0])))) (by rfl) ?_
      refine mi_sem_steps mi_in131 (mi_calok_none _ _) 2 _ (15, [(0, .int a1), (1, .int 0), (2, .int 7)], [.int 1], (0, 0), ((mi_G.set 95 (.inr (.int, .inl [a1, 0, 0, 0, 0, 0, 0, 0, 0, 0, 0, 0, 0, 0, 0, 0, 0, 0, 0, 0, 0, 0, 0, 0, 0, 0, 0, 0, 0, 0, 0, 0, 0, 0, 0, 0, 0, 0, 0, 0, 0, 0, 0, 0, 0, 0, 0, 0, 0, 0]))).set 94 (.inl (2, [.ref 95, .int 1, .ref 96, .int 0])))) (by rfl) ?_
      exact mi_sem_ret (cal := fun _ _ _ => none) mi_in131 (by rfl)
    refine mi_sem_call mi_in214 (i := (.invokestatic 119, 3, 131, 0, 9, 0, 379)) (by rfl) (by rfl) hM1547 (by decide) ⟨Nat.le_of_ble_eq_true rfl, Nat.le_of_ble_eq_true rfl⟩ ?_
    refine mi_sem_steps mi_in214 (mi_calok_none _ _) 18 _ (45, [(0, .ref 116), (1, .int a1)], [.int 0], (0, 0), ((((mi_G.set 95 (.inr (.int, .inl [a1, 0, 0, 0, 0, 0, 0, 0, 0, 0, 0, 0, 0, 0, 0, 0, 0, 0, 0, 0, 0, 0, 0, 0, 0, 0, 0, 0, 0, 0, 0, 0, 0, 0, 0, 0, 0, 0, 0, 0, 0, 0, 0, 0, 0, 0, 0, 0, 0, 0]))).set 94 (.inl (2, [.ref 95, .int 1, .ref 96, .int 0]))).set 134 (.inr (.int, .inl [a1, 0, 0, 0, 0, 0, 0, 0, 0, 0, 0, 0, 0, 0, 0, 0, 0, 0, 0, 0, 0, 0, 0, 0, 0, 0, 0, 0, 0, 0, 0, 0, 0, 0, 0, 0, 0, 0, 0, 0, 0, 0, 0, 0, 0, 0, 0, 0, 0, 0]))).set 116 (.inl (9, [.int 0, .ref 117, .int 3, .int 1, .ref 118, .int 0, .ref 119, .int 0, .int 0, .ref 120, .ref 121, .ref 122, .ref 123, .int 0, .int 0, .int 0, .int 0, .ref 124, .ref 125, .ref 126, .ref 127, .ref 128, .ref 129, .ref 130, .int 0, .int 0, .ref 131, .ref 132, .int 0, .int 0, .ref 133, .int 1, .ref 134, .int 0, .ref 135, .ref 136, .ref 137, .ref 138, .ref 139, .ref 140, .int 0, .int 0, .int 0, .int 0, .ref 141, .int 0, .ref 142, .ref 143, .ref 144, .ref 145, .ref 146, .ref 147, .int 0, .ref 148])))) (by rfl) ?_
    exact mi_sem_ret (cal := fun _ _ _ => none) mi_in214 (by rfl)

set_option maxRecDepth 100000 in
set_option maxHeartbeats 4000000 in
theorem mp_body_2 (a1 : Int32) (r0 : 8 ≤ (a1).toInt ∧ (a1).toInt ≤ 2147483647) : mi_P 110 214 [.int a1] := by
  refine ⟨.int (-1), mi_G, mi_G, (mi_h110, mi_c110), (mi_h214, mi_c214), 2, 2, rfl, rfl, rfl, by decide, by decide, ?_, ?_⟩
  · refine mi_met_of (y := 110) (q := (mi_h110, mi_c110)) rfl (by decide) (Nat.le_of_ble_eq_true rfl) ?_
    refine mi_sem_steps mi_in110 (mi_calok_none _ _) 3 _ (4, [(0, .ref 0), (1, .int a1)], [.int 7, .int 0, .int a1], (0, 0), mi_G) (by rfl) ?_
    have hM1548 : mi_Met mi_N0 1 mi_h120 [.int a1, .int 0, .int 7] mi_G (some (.int 0)) mi_G := by
      refine mi_met_of (y := 120) (q := (mi_h120, mi_c120)) rfl (by decide) (Nat.le_of_ble_eq_true rfl) ?_
      refine mi_sem_steps mi_in120 (mi_calok_none _ _) 2 _ (2, [(0, .int a1), (1, .int 0), (2, .int 7)], [.int 0, .int a1], (0, 0), mi_G) (by rfl) ?_
      refine mi_sem_b mi_in120 (decide (a1 < 0)) false (mi_ltF (0) (by decide) (by omega)) 14 5 ([(0, .int a1), (1, .int 0), (2, .int 7)], [], (0, 0), mi_G) (by rfl) ?_
      refine mi_sem_steps mi_in120 (mi_calok_none _ _) 2 _ (7, [(0, .int a1), (1, .int 0), (2, .int 7)], [.int 7, .int a1], (0, 0), mi_G) (by rfl) ?_
      refine mi_sem_b mi_in120 (decide (7 < a1)) true (mi_ltT2 (7) (by decide) (by omega)) 14 10 ([(0, .int a1), (1, .int 0), (2, .int 7)], [], (0, 0), mi_G) (by rfl) ?_
      refine mi_sem_steps mi_in120 (mi_calok_none _ _) 1 _ (15, [(0, .int a1), (1, .int 0), (2, .int 7)], [.int 0], (0, 0), mi_G) (by rfl) ?_
      exact mi_sem_ret (cal := fun _ _ _ => none) mi_in120 (by rfl)
    refine mi_sem_call mi_in110 (i := (.invokestatic 74, 3, 120, 0, 9, 0, 152)) (by rfl) (by rfl) hM1548 (by decide) ⟨Nat.le_of_ble_eq_true rfl, Nat.le_of_ble_eq_true rfl⟩ ?_
    refine mi_sem_steps mi_in110 (mi_calok_none _ _) 2 _ (11, [(0, .ref 0), (1, .int a1)], [.int (-1)], (0, 0), mi_G) (by rfl) ?_
    exact mi_sem_ret (cal := fun _ _ _ => none) mi_in110 (by rfl)
  · refine mi_met_of (y := 214) (q := (mi_h214, mi_c214)) rfl (by decide) (Nat.le_of_ble_eq_true rfl) ?_
    refine mi_sem_steps mi_in214 (mi_calok_none _ _) 3 _ (4, [(0, .ref 116), (1, .int a1)], [.int 7, .int 0, .int a1], (0, 0), mi_G) (by rfl) ?_
    have hM1549 : mi_Met mi_N0 1 mi_h131 [.int a1, .int 0, .int 7] mi_G (some (.int 0)) mi_G := by
      refine mi_met_of (y := 131) (q := (mi_h131, mi_c131)) rfl (by decide) (Nat.le_of_ble_eq_true rfl) ?_
      refine mi_sem_steps mi_in131 (mi_calok_none _ _) 2 _ (2, [(0, .int a1), (1, .int 0), (2, .int 7)], [.int 0, .int a1], (0, 0), mi_G) (by rfl) ?_
      refine mi_sem_b mi_in131 (decide (a1 < 0)) false (mi_ltF (0) (by decide) (by omega)) 14 5 ([(0, .int a1), (1, .int 0), (2, .int 7)], [], (0, 0), mi_G) (by rfl) ?_
      refine mi_sem_steps mi_in131 (mi_calok_none _ _) 2 _ (7, [(0, .int a1), (1, .int 0), (2, .int 7)], [.int 7, .int a1], (0, 0), mi_G) (by rfl) ?_
      refine mi_sem_b mi_in131 (decide (7 < a1)) true (mi_ltT2 (7) (by decide) (by omega)) 14 10 ([(0, .int a1), (1, .int 0), (2, .int 7)], [], (0, 0), mi_G) (by rfl) ?_
      refine mi_sem_steps mi_in131 (mi_calok_none _ _) 1 _ (15, [(0, .int a1), (1, .int 0), (2, .int 7)], [.int 0], (0, 0), mi_G) (by rfl) ?_
      exact mi_sem_ret (cal := fun _ _ _ => none) mi_in131 (by rfl)
    refine mi_sem_call mi_in214 (i := (.invokestatic 119, 3, 131, 0, 9, 0, 379)) (by rfl) (by rfl) hM1549 (by decide) ⟨Nat.le_of_ble_eq_true rfl, Nat.le_of_ble_eq_true rfl⟩ ?_
    refine mi_sem_steps mi_in214 (mi_calok_none _ _) 2 _ (11, [(0, .ref 116), (1, .int a1)], [.int (-1)], (0, 0), mi_G) (by rfl) ?_
    exact mi_sem_ret (cal := fun _ _ _ => none) mi_in214 (by rfl)

set_option maxRecDepth 100000 in
set_option maxHeartbeats 4000000 in
theorem mp_body (a1 : Int32) : mi_P 110 214 [.int a1] := by
  have b0 := Int32.toInt_lt (a1)
  have c0 := Int32.le_toInt (a1)
  rcases Int.lt_or_le (a1).toInt 0 with _hh | _hh
  ·
    exact mp_body_0 a1 ⟨by omega, by omega⟩
  ·
    rcases Int.lt_or_le (a1).toInt 8 with _hh | _hh
    ·
      exact mp_body_1 a1 ⟨by omega, by omega⟩
    ·
      exact mp_body_2 a1 ⟨by omega, by omega⟩

set_option maxRecDepth 100000 in
set_option maxHeartbeats 4000000 in
theorem mp_act_0 (a1 : Int32) (a2 : Int32) (a3 : Int32) (r0 : (-2147483648) ≤ (a1).toInt ∧ (a1).toInt ≤ (-1)) : mi_P 111 215 [.int a1, .int a2, .int a3] := by
  refine ⟨.int 0, (mi_G.set 94 (.inl (2, [.ref 95, .int 0, .ref 96, .int 0]))), ((mi_G.set 94 (.inl (2, [.ref 95, .int 0, .ref 96, .int 0]))).set 116 (.inl (9, [.int 0, .ref 117, .int 3, .int 1, .ref 118, .int 0, .ref 119, .int 0, .int 0, .ref 120, .ref 121, .ref 122, .ref 123, .int 0, .int 0, .int 0, .int 0, .ref 124, .ref 125, .ref 126, .ref 127, .ref 128, .ref 129, .ref 130, .int 0, .int 0, .ref 131, .ref 132, .int 0, .int 0, .ref 133, .int 0, .ref 134, .int 0, .ref 135, .ref 136, .ref 137, .ref 138, .ref 139, .ref 140, .int 0, .int 0, .int 0, .int 0, .ref 141, .int 0, .ref 142, .ref 143, .ref 144, .ref 145, .ref 146, .ref 147, .int 0, .ref 148]))), (mi_h111, mi_c111), (mi_h215, mi_c215), 3, 2, rfl, rfl, rfl, by decide, by decide, ?_, ?_⟩
  · refine mi_met_of (y := 111) (q := (mi_h111, mi_c111)) rfl (by decide) (Nat.le_of_ble_eq_true rfl) ?_
    refine mi_sem_steps mi_in111 (mi_calok_none _ _) 5 _ (7, [(0, .ref 0), (1, .int a1), (2, .int a2), (3, .int a3)], [.int a3, .int a2, .int a1, .ref 94], (0, 0), mi_G) (by rfl) ?_
    have hM1551 : mi_Met mi_N0 2 mi_h12 [.ref 94, .int a1, .int a2, .int a3] mi_G (some (.int 0)) (mi_G.set 94 (.inl (2, [.ref 95, .int 0, .ref 96, .int 0]))) := by
      refine mi_met_of (y := 12) (q := (mi_h12, mi_c12)) rfl (by decide) (Nat.le_of_ble_eq_true rfl) ?_
      refine mi_sem_steps mi_in12 (mi_calok_none _ _) 5 _ (7, [(0, .ref 94), (1, .int a1), (2, .int a2), (3, .int a3)], [.int a1, .ref 94], (0, 0), (mi_G.set 94 (.inl (2, [.ref 95, .int 0, .ref 96, .int 0])))) (by rfl) ?_
      have hM1550 : mi_Met mi_N0 1 mi_h8 [.ref 94, .int a1] (mi_G.set 94 (.inl (2, [.ref 95, .int 0, .ref 96, .int 0]))) (some (.int 0)) (mi_G.set 94 (.inl (2, [.ref 95, .int 0, .ref 96, .int 0]))) := by
        refine mi_met_of (y := 8) (q := (mi_h8, mi_c8)) rfl (by decide) (Nat.le_of_ble_eq_true rfl) ?_
        refine mi_sem_steps mi_in8 (mi_calok_none _ _) 1 _ (1, [(0, .ref 94), (1, .int a1)], [.int a1], (0, 0), (mi_G.set 94 (.inl (2, [.ref 95, .int 0, .ref 96, .int 0])))) (by rfl) ?_
        refine mi_sem_b mi_in8 (decide (a1 < 0)) true (mi_ltT (0) (by decide) (by omega)) 22 4 ([(0, .ref 94), (1, .int a1)], [], (0, 0), (mi_G.set 94 (.inl (2, [.ref 95, .int 0, .ref 96, .int 0])))) (by rfl) ?_
        refine mi_sem_steps mi_in8 (mi_calok_none _ _) 1 _ (23, [(0, .ref 94), (1, .int a1)], [.int 0], (0, 0), (mi_G.set 94 (.inl (2, [.ref 95, .int 0, .ref 96, .int 0])))) (by rfl) ?_
        exact mi_sem_ret (cal := fun _ _ _ => none) mi_in8 (by rfl)
      refine mi_sem_call mi_in12 (i := (.invokevirtual 31, 3, 8, 0, 9, 0, 296)) (by rfl) (by rfl) hM1550 (by decide) ⟨Nat.le_of_ble_eq_true rfl, Nat.le_of_ble_eq_true rfl⟩ ?_
      refine mi_sem_steps mi_in12 (mi_calok_none _ _) 2 _ (23, [(0, .ref 94), (1, .int a1), (2, .int a2), (3, .int a3)], [.int 0], (0, 0), (mi_G.set 94 (.inl (2, [.ref 95, .int 0, .ref 96, .int 0])))) (by rfl) ?_
      exact mi_sem_ret (cal := fun _ _ _ => none) mi_in12 (by rfl)
    refine mi_sem_call mi_in111 (i := (.invokevirtual 292, 3, 12, 0, 9, 0, 295)) (by rfl) (by rfl) hM1551 (by decide) ⟨Nat.le_of_ble_eq_true rfl, Nat.le_of_ble_eq_true rfl⟩ ?_
    exact mi_sem_ret (cal := fun _ _ _ => none) mi_in111 (by rfl)
  · refine mi_met_of (y := 215) (q := (mi_h215, mi_c215)) rfl (by decide) (Nat.le_of_ble_eq_true rfl) ?_
    refine mi_sem_steps mi_in215 (mi_calok_none _ _) 9 _ (13, [(0, .ref 116), (1, .int a1), (2, .int a2), (3, .int a3)], [.int (-1), .int 0, .int a1], (0, 0), ((mi_G.set 94 (.inl (2, [.ref 95, .int 0, .ref 96, .int 0]))).set 116 (.inl (9, [.int 0, .ref 117, .int 3, .int 1, .ref 118, .int 0, .ref 119, .int 0, .int 0, .ref 120, .ref 121, .ref 122, .ref 123, .int 0, .int 0, .int 0, .int 0, .ref 124, .ref 125, .ref 126, .ref 127, .ref 128, .ref 129, .ref 130, .int 0, .int 0, .ref 131, .ref 132, .int 0, .int 0, .ref 133, .int 0, .ref 134, .int 0, .ref 135, .ref 136, .ref 137, .ref 138, .ref 139, .ref 140, .int 0, .int 0, .int 0, .int 0, .ref 141, .int 0, .ref 142, .ref 143, .ref 144, .ref 145, .ref 146, .ref 147, .int 0, .ref 148])))) (by rfl) ?_
    have hM1552 : mi_Met mi_N0 1 mi_h131 [.int a1, .int 0, .int (-1)] ((mi_G.set 94 (.inl (2, [.ref 95, .int 0, .ref 96, .int 0]))).set 116 (.inl (9, [.int 0, .ref 117, .int 3, .int 1, .ref 118, .int 0, .ref 119, .int 0, .int 0, .ref 120, .ref 121, .ref 122, .ref 123, .int 0, .int 0, .int 0, .int 0, .ref 124, .ref 125, .ref 126, .ref 127, .ref 128, .ref 129, .ref 130, .int 0, .int 0, .ref 131, .ref 132, .int 0, .int 0, .ref 133, .int 0, .ref 134, .int 0, .ref 135, .ref 136, .ref 137, .ref 138, .ref 139, .ref 140, .int 0, .int 0, .int 0, .int 0, .ref 141, .int 0, .ref 142, .ref 143, .ref 144, .ref 145, .ref 146, .ref 147, .int 0, .ref 148]))) (some (.int 0)) ((mi_G.set 94 (.inl (2, [.ref 95, .int 0, .ref 96, .int 0]))).set 116 (.inl (9, [.int 0, .ref 117, .int 3, .int 1, .ref 118, .int 0, .ref 119, .int 0, .int 0, .ref 120, .ref 121, .ref 122, .ref 123, .int 0, .int 0, .int 0, .int 0, .ref 124, .ref 125, .ref 126, .ref 127, .ref 128, .ref 129, .ref 130, .int 0, .int 0, .ref 131, .ref 132, .int 0, .int 0, .ref 133, .int 0, .ref 134, .int 0, .ref 135, .ref 136, .ref 137, .ref 138, .ref 139, .ref 140, .int 0, .int 0, .int 0, .int 0, .ref 141, .int 0, .ref 142, .ref 143, .ref 144, .ref 145, .ref 146, .ref 147, .int 0, .ref 148]))) := by
      refine mi_met_of (y := 131) (q := (mi_h131, mi_c131)) rfl (by decide) (Nat.le_of_ble_eq_true rfl) ?_
      refine mi_sem_steps mi_in131 (mi_calok_none _ _) 2 _ (2, [(0, .int a1), (1, .int 0), (2, .int (-1))], [.int 0, .int a1], (0, 0), ((mi_G.set 94 (.inl (2, [.ref 95, .int 0, .ref 96, .int 0]))).set 116 (.inl (9, [.int 0, .ref 117, .int 3, .int 1, .ref 118, .int 0, .ref 119, .int 0, .int 0, .ref 120, .ref 121, .ref 122, .ref 123, .int 0, .int 0, .int 0, .int 0, .ref 124, .ref 125, .ref 126, .ref 127, .ref 128, .ref 129, .ref 130, .int 0, .int 0, .ref 131, .ref 132, .int 0, .int 0, .ref 133, .int 0, .ref 134, .int 0, .ref 135, .ref 136, .ref 137, .ref 138, .ref 139, .ref 140, .int 0, .int 0, .int 0, .int 0, .ref 141, .int 0, .ref 142, .ref 143, .ref 144, .ref 145, .ref 146, .ref 147, .int 0, .ref 148])))) (by rfl) ?_
      refine mi_sem_b mi_in131 (decide (a1 < 0)) true (mi_ltT (0) (by decide) (by omega)) 14 5 ([(0, .int a1), (1, .int 0), (2, .int (-1))], [], (0, 0), ((mi_G.set 94 (.inl (2, [.ref 95, .int 0, .ref 96, .int 0]))).set 116 (.inl (9, [.int 0, .ref 117, .int 3, .int 1, .ref 118, .int 0, .ref 119, .int 0, .int 0, .ref 120, .ref 121, .ref 122, .ref 123, .int 0, .int 0, .int 0, .int 0, .ref 124, .ref 125, .ref 126, .ref 127, .ref 128, .ref 129, .ref 130, .int 0, .int 0, .ref 131, .ref 132, .int 0, .int 0, .ref 133, .int 0, .ref 134, .int 0, .ref 135, .ref 136, .ref 137, .ref 138, .ref 139, .ref 140, .int 0, .int 0, .int 0, .int 0, .ref 141, .int 0, .ref 142, .ref 143, .ref 144, .ref 145, .ref 146, .ref 147, .int 0, .ref 148])))) (by rfl) ?_
      refine mi_sem_steps mi_in131 (mi_calok_none _ _) 1 _ (15, [(0, .int a1), (1, .int 0), (2, .int (-1))], [.int 0], (0, 0), ((mi_G.set 94 (.inl (2, [.ref 95, .int 0, .ref 96, .int 0]))).set 116 (.inl (9, [.int 0, .ref 117, .int 3, .int 1, .ref 118, .int 0, .ref 119, .int 0, .int 0, .ref 120, .ref 121, .ref 122, .ref 123, .int 0, .int 0, .int 0, .int 0, .ref 124, .ref 125, .ref 126, .ref 127, .ref 128, .ref 129, .ref 130, .int 0, .int 0, .ref 131, .ref 132, .int 0, .int 0, .ref 133, .int 0, .ref 134, .int 0, .ref 135, .ref 136, .ref 137, .ref 138, .ref 139, .ref 140, .int 0, .int 0, .int 0, .int 0, .ref 141, .int 0, .ref 142, .ref 143, .ref 144, .ref 145, .ref 146, .ref 147, .int 0, .ref 148])))) (by rfl) ?_
      exact mi_sem_ret (cal := fun _ _ _ => none) mi_in131 (by rfl)
    refine mi_sem_call mi_in215 (i := (.invokestatic 119, 3, 131, 0, 9, 0, 379)) (by rfl) (by rfl) hM1552 (by decide) ⟨Nat.le_of_ble_eq_true rfl, Nat.le_of_ble_eq_true rfl⟩ ?_
    refine mi_sem_steps mi_in215 (mi_calok_none _ _) 2 _ (29, [(0, .ref 116), (1, .int a1), (2, .int a2), (3, .int a3)], [.int 0], (0, 0), ((mi_G.set 94 (.inl (2, [.ref 95, .int 0, .ref 96, .int 0]))).set 116 (.inl (9, [.int 0, .ref 117, .int 3, .int 1, .ref 118, .int 0, .ref 119, .int 0, .int 0, .ref 120, .ref 121, .ref 122, .ref 123, .int 0, .int 0, .int 0, .int 0, .ref 124, .ref 125, .ref 126, .ref 127, .ref 128, .ref 129, .ref 130, .int 0, .int 0, .ref 131, .ref 132, .int 0, .int 0, .ref 133, .int 0, .ref 134, .int 0, .ref 135, .ref 136, .ref 137, .ref 138, .ref 139, .ref 140, .int 0, .int 0, .int 0, .int 0, .ref 141, .int 0, .ref 142, .ref 143, .ref 144, .ref 145, .ref 146, .ref 147, .int 0, .ref 148])))) (by rfl) ?_
    exact mi_sem_ret (cal := fun _ _ _ => none) mi_in215 (by rfl)

set_option maxRecDepth 100000 in
set_option maxHeartbeats 4000000 in
theorem mp_act_1 (a1 : Int32) (a2 : Int32) (a3 : Int32) (r0 : 0 ≤ (a1).toInt ∧ (a1).toInt ≤ 2147483647) : mi_P 111 215 [.int a1, .int a2, .int a3] := by
  refine ⟨.int 0, (mi_G.set 94 (.inl (2, [.ref 95, .int 0, .ref 96, .int 0]))), ((mi_G.set 94 (.inl (2, [.ref 95, .int 0, .ref 96, .int 0]))).set 116 (.inl (9, [.int 0, .ref 117, .int 3, .int 1, .ref 118, .int 0, .ref 119, .int 0, .int 0, .ref 120, .ref 121, .ref 122, .ref 123, .int 0, .int 0, .int 0, .int 0, .ref 124, .ref 125, .ref 126, .ref 127, .ref 128, .ref 129, .ref 130, .int 0, .int 0, .ref 131, .ref 132, .int 0, .int 0, .ref 133, .int 0, .ref 134, .int 0, .ref 135, .ref 136, .ref 137, .ref 138, .ref 139, .ref 140, .int 0, .int 0, .int 0, .int 0, .ref 141, .int 0, .ref 142, .ref 143, .ref 144, .ref 145, .ref 146, .ref 147, .int 0, .ref 148]))), (mi_h111, mi_c111), (mi_h215, mi_c215), 3, 2, rfl, rfl, rfl, by decide, by decide, ?_, ?_⟩
  · refine mi_met_of (y := 111) (q := (mi_h111, mi_c111)) rfl (by decide) (Nat.le_of_ble_eq_true rfl) ?_
    refine mi_sem_steps mi_in111 (mi_calok_none _ _) 5 _ (7, [(0, .ref 0), (1, .int a1), (2, .int a2), (3, .int a3)], [.int a3, .int a2, .int a1, .ref 94], (0, 0), mi_G) (by rfl) ?_
    have hM1554 : mi_Met mi_N0 2 mi_h12 [.ref 94, .int a1, .int a2, .int a3] mi_G (some (.int 0)) (mi_G.set 94 (.inl (2, [.ref 95, .int 0, .ref 96, .int 0]))) := by
      refine mi_met_of (y := 12) (q := (mi_h12, mi_c12)) rfl (by decide) (Nat.le_of_ble_eq_true rfl) ?_
      refine mi_sem_steps mi_in12 (mi_calok_none _ _) 5 _ (7, [(0, .ref 94), (1, .int a1), (2, .int a2), (3, .int a3)], [.int a1, .ref 94], (0, 0), (mi_G.set 94 (.inl (2, [.ref 95, .int 0, .ref 96, .int 0])))) (by rfl) ?_
      have hM1553 : mi_Met mi_N0 1 mi_h8 [.ref 94, .int a1] (mi_G.set 94 (.inl (2, [.ref 95, .int 0, .ref 96, .int 0]))) (some (.int 0)) (mi_G.set 94 (.inl (2, [.ref 95, .int 0, .ref 96, .int 0]))) := by
        refine mi_met_of (y := 8) (q := (mi_h8, mi_c8)) rfl (by decide) (Nat.le_of_ble_eq_true rfl) ?_
        refine mi_sem_steps mi_in8 (mi_calok_none _ _) 1 _ (1, [(0, .ref 94), (1, .int a1)], [.int a1], (0, 0), (mi_G.set 94 (.inl (2, [.ref 95, .int 0, .ref 96, .int 0])))) (by rfl) ?_
        refine mi_sem_b mi_in8 (decide (a1 < 0)) false (mi_ltF (0) (by decide) (by omega)) 22 4 ([(0, .ref 94), (1, .int a1)], [], (0, 0), (mi_G.set 94 (.inl (2, [.ref 95, .int 0, .ref 96, .int 0])))) (by rfl) ?_
        refine mi_sem_steps mi_in8 (mi_calok_none _ _) 3 _ (9, [(0, .ref 94), (1, .int a1)], [.int 0, .int a1], (0, 0), (mi_G.set 94 (.inl (2, [.ref 95, .int 0, .ref 96, .int 0])))) (by rfl) ?_
        refine mi_sem_b mi_in8 (decide (0 ≤ a1)) true (mi_leT2 (0) (by decide) (by omega)) 22 12 ([(0, .ref 94), (1, .int a1)], [], (0, 0), (mi_G.set 94 (.inl (2, [.ref 95, .int 0, .ref 96, .int 0])))) (by rfl) ?_
        refine mi_sem_steps mi_in8 (mi_calok_none _ _) 1 _ (23, [(0, .ref 94), (1, .int a1)], [.int 0], (0, 0), (mi_G.set 94 (.inl (2, [.ref 95, .int 0, .ref 96, .int 0])))) (by rfl) ?_
        exact mi_sem_ret (cal := fun _ _ _ => none) mi_in8 (by rfl)
      refine mi_sem_call mi_in12 (i := (.invokevirtual 31, 3, 8, 0, 9, 0, 296)) (by rfl) (by rfl) hM1553 (by decide) ⟨Nat.le_of_ble_eq_true rfl, Nat.le_of_ble_eq_true rfl⟩ ?_
      refine mi_sem_steps mi_in12 (mi_calok_none _ _) 2 _ (23, [(0, .ref 94), (1, .int a1), (2, .int a2), (3, .int a3)], [.int 0], (0, 0), (mi_G.set 94 (.inl (2, [.ref 95, .int 0, .ref 96, .int 0])))) (by rfl) ?_
      exact mi_sem_ret (cal := fun _ _ _ => none) mi_in12 (by rfl)
    refine mi_sem_call mi_in111 (i := (.invokevirtual 292, 3, 12, 0, 9, 0, 295)) (by rfl) (by rfl) hM1554 (by decide) ⟨Nat.le_of_ble_eq_true rfl, Nat.le_of_ble_eq_true rfl⟩ ?_
    exact mi_sem_ret (cal := fun _ _ _ => none) mi_in111 (by rfl)
  · refine mi_met_of (y := 215) (q := (mi_h215, mi_c215)) rfl (by decide) (Nat.le_of_ble_eq_true rfl) ?_
    refine mi_sem_steps mi_in215 (mi_calok_none _ _) 9 _ (13, [(0, .ref 116), (1, .int a1), (2, .int a2), (3, .int a3)], [.int (-1), .int 0, .int a1], (0, 0), ((mi_G.set 94 (.inl (2, [.ref 95, .int 0, .ref 96, .int 0]))).set 116 (.inl (9, [.int 0, .ref 117, .int 3, .int 1, .ref 118, .int 0, .ref 119, .int 0, .int 0, .ref 120, .ref 121, .ref 122, .ref 123, .int 0, .int 0, .int 0, .int 0, .ref 124, .ref 125, .ref 126, .ref 127, .ref 128, .ref 129, .ref 130, .int 0, .int 0, .ref 131, .ref 132, .int 0, .int 0, .ref 133, .int 0, .ref 134, .int 0, .ref 135, .ref 136, .ref 137, .ref 138, .ref 139, .ref 140, .int 0, .int 0, .int 0, .int 0, .ref 141, .int 0, .ref 142, .ref 143, .ref 144, .ref 145, .ref 146, .ref 147, .int 0, .ref 148])))) (by rfl) ?_
    have hM1555 : mi_Met mi_N0 1 mi_h131 [.int a1, .int 0, .int (-1)] ((mi_G.set 94 (.inl (2, [.ref 95, .int 0, .ref 96, .int 0]))).set 116 (.inl (9, [.int 0, .ref 117, .int 3, .int 1, .ref 118, .int 0, .ref 119, .int 0, .int 0, .ref 120, .ref 121, .ref 122, .ref 123, .int 0, .int 0, .int 0, .int 0, .ref 124, .ref 125, .ref 126, .ref 127, .ref 128, .ref 129, .ref 130, .int 0, .int 0, .ref 131, .ref 132, .int 0, .int 0, .ref 133, .int 0, .ref 134, .int 0, .ref 135, .ref 136, .ref 137, .ref 138, .ref 139, .ref 140, .int 0, .int 0, .int 0, .int 0, .ref 141, .int 0, .ref 142, .ref 143, .ref 144, .ref 145, .ref 146, .ref 147, .int 0, .ref 148]))) (some (.int 0)) ((mi_G.set 94 (.inl (2, [.ref 95, .int 0, .ref 96, .int 0]))).set 116 (.inl (9, [.int 0, .ref 117, .int 3, .int 1, .ref 118, .int 0, .ref 119, .int 0, .int 0, .ref 120, .ref 121, .ref 122, .ref 123, .int 0, .int 0, .int 0, .int 0, .ref 124, .ref 125, .ref 126, .ref 127, .ref 128, .ref 129, .ref 130, .int 0, .int 0, .ref 131, .ref 132, .int 0, .int 0, .ref 133, .int 0, .ref 134, .int 0, .ref 135, .ref 136, .ref 137, .ref 138, .ref 139, .ref 140, .int 0, .int 0, .int 0, .int 0, .ref 141, .int 0, .ref 142, .ref 143, .ref 144, .ref 145, .ref 146, .ref 147, .int 0, .ref 148]))) := by
      refine mi_met_of (y := 131) (q := (mi_h131, mi_c131)) rfl (by decide) (Nat.le_of_ble_eq_true rfl) ?_
      refine mi_sem_steps mi_in131 (mi_calok_none _ _) 2 _ (2, [(0, .int a1), (1, .int 0), (2, .int (-1))], [.int 0, .int a1], (0, 0), ((mi_G.set 94 (.inl (2, [.ref 95, .int 0, .ref 96, .int 0]))).set 116 (.inl (9, [.int 0, .ref 117, .int 3, .int 1, .ref 118, .int 0, .ref 119, .int 0, .int 0, .ref 120, .ref 121, .ref 122, .ref 123, .int 0, .int 0, .int 0, .int 0, .ref 124, .ref 125, .ref 126, .ref 127, .ref 128, .ref 129, .ref 130, .int 0, .int 0, .ref 131, .ref 132, .int 0, .int 0, .ref 133, .int 0, .ref 134, .int 0, .ref 135, .ref 136, .ref 137, .ref 138, .ref 139, .ref 140, .int 0, .int 0, .int 0, .int 0, .ref 141, .int 0, .ref 142, .ref 143, .ref 144, .ref 145, .ref 146, .ref 147, .int 0, .ref 148])))) (by rfl) ?_
      refine mi_sem_b mi_in131 (decide (a1 < 0)) false (mi_ltF (0) (by decide) (by omega)) 14 5 ([(0, .int a1), (1, .int 0), (2, .int (-1))], [], (0, 0), ((mi_G.set 94 (.inl (2, [.ref 95, .int 0, .ref 96, .int 0]))).set 116 (.inl (9, [.int 0, .ref 117, .int 3, .int 1, .ref 118, .int 0, .ref 119, .int 0, .int 0, .ref 120, .ref 121, .ref 122, .ref 123, .int 0, .int 0, .int 0, .int 0, .ref 124, .ref 125, .ref 126, .ref 127, .ref 128, .ref 129, .ref 130, .int 0, .int 0, .ref 131, .ref 132, .int 0, .int 0, .ref 133, .int 0, .ref 134, .int 0, .ref 135, .ref 136, .ref 137, .ref 138, .ref 139, .ref 140, .int 0, .int 0, .int 0, .int 0, .ref 141, .int 0, .ref 142, .ref 143, .ref 144, .ref 145, .ref 146, .ref 147, .int 0, .ref 148])))) (by rfl) ?_
      refine mi_sem_steps mi_in131 (mi_calok_none _ _) 2 _ (7, [(0, .int a1), (1, .int 0), (2, .int (-1))], [.int (-1), .int a1], (0, 0), ((mi_G.set 94 (.inl (2, [.ref 95, .int 0, .ref 96, .int 0]))).set 116 (.inl (9, [.int 0, .ref 117, .int 3, .int 1, .ref 118, .int 0, .ref 119, .int 0, .int 0, .ref 120, .ref 121, .ref 122, .ref 123, .int 0, .int 0, .int 0, .int 0, .ref 124, .ref 125, .ref 126, .ref 127, .ref 128, .ref 129, .ref 130, .int 0, .int 0, .ref 131, .ref 132, .int 0, .int 0, .ref 133, .int 0, .ref 134, .int 0, .ref 135, .ref 136, .ref 137, .ref 138, .ref 139, .ref 140, .int 0, .int 0, .int 0, .int 0, .ref 141, .int 0, .ref 142, .ref 143, .ref 144, .ref 145, .ref 146, .ref 147, .int 0, .ref 148])))) (by rfl) ?_
      refine mi_sem_b mi_in131 (decide ((-1) < a1)) true (mi_ltT2 (-1) (by decide) (by omega)) 14 10 ([(0, .int a1), (1, .int 0), (2, .int (-1))], [], (0, 0), ((mi_G.set 94 (.inl (2, [.ref 95, .int 0, .ref 96, .int 0]))).set 116 (.inl (9, [.int 0, .ref 117, .int 3, .int 1, .ref 118, .int 0, .ref 119, .int 0, .int 0, .ref 120, .ref 121, .ref 122, .ref 123, .int 0, .int 0, .int 0, .int 0, .ref 124, .ref 125, .ref 126, .ref 127, .ref 128, .ref 129, .ref 130, .int 0, .int 0, .ref 131, .ref 132, .int 0, .int 0, .ref 133, .int 0, .ref 134, .int 0, .ref 135, .ref 136, .ref 137, .ref 138, .ref 139, .ref 140, .int 0, .int 0, .int 0, .int 0, .ref 141, .int 0, .ref 142, .ref 143, .ref 144, .ref 145, .ref 146, .ref 147, .int 0, .ref 148])))) (by rfl) ?_
      refine mi_sem_steps mi_in131 (mi_calok_none _ _) 1 _ (15, [(0, .int a1), (1, .int 0), (2, .int (-1))], [.int 0], (0, 0), ((mi_G.set 94 (.inl (2, [.ref 95, .int 0, .ref 96, .int 0]))).set 116 (.inl (9, [.int 0, .ref 117, .int 3, .int 1, .ref 118, .int 0, .ref 119, .int 0, .int 0, .ref 120, .ref 121, .ref 122, .ref 123, .int 0, .int 0, .int 0, .int 0, .ref 124, .ref 125, .ref 126, .ref 127, .ref 128, .ref 129, .ref 130, .int 0, .int 0, .ref 131, .ref 132, .int 0, .int 0, .ref 133, .int 0, .ref 134, .int 0, .ref 135, .ref 136, .ref 137, .ref 138, .ref 139, .ref 140, .int 0, .int 0, .int 0, .int 0, .ref 141, .int 0, .ref 142, .ref 143, .ref 144, .ref 145, .ref 146, .ref 147, .int 0, .ref 148])))) (by rfl) ?_
      exact mi_sem_ret (cal := fun _ _ _ => none) mi_in131 (by rfl)
    refine mi_sem_call mi_in215 (i := (.invokestatic 119, 3, 131, 0, 9, 0, 379)) (by rfl) (by rfl) hM1555 (by decide) ⟨Nat.le_of_ble_eq_true rfl, Nat.le_of_ble_eq_true rfl⟩ ?_
    refine mi_sem_steps mi_in215 (mi_calok_none _ _) 2 _ (29, [(0, .ref 116), (1, .int a1), (2, .int a2), (3, .int a3)], [.int 0], (0, 0), ((mi_G.set 94 (.inl (2, [.ref 95, .int 0, .ref 96, .int 0]))).set 116 (.inl (9, [.int 0, .ref 117, .int 3, .int 1, .ref 118, .int 0, .ref 119, .int 0, .int 0, .ref 120, .ref 121, .ref 122, .ref 123, .int 0, .int 0, .int 0, .int 0, .ref 124, .ref 125, .ref 126, .ref 127, .ref 128, .ref 129, .ref 130, .int 0, .int 0, .ref 131, .ref 132, .int 0, .int 0, .ref 133, .int 0, .ref 134, .int 0, .ref 135, .ref 136, .ref 137, .ref 138, .ref 139, .ref 140, .int 0, .int 0, .int 0, .int 0, .ref 141, .int 0, .ref 142, .ref 143, .ref 144, .ref 145, .ref 146, .ref 147, .int 0, .ref 148])))) (by rfl) ?_
    exact mi_sem_ret (cal := fun _ _ _ => none) mi_in215 (by rfl)

set_option maxRecDepth 100000 in
set_option maxHeartbeats 4000000 in
theorem mp_act (a1 : Int32) (a2 : Int32) (a3 : Int32) : mi_P 111 215 [.int a1, .int a2, .int a3] := by
  have b0 := Int32.toInt_lt (a1)
  have c0 := Int32.le_toInt (a1)
  rcases Int.lt_or_le (a1).toInt 0 with _hh | _hh
  ·
    exact mp_act_0 a1 a2 a3 ⟨by omega, by omega⟩
  ·
    exact mp_act_1 a1 a2 a3 ⟨by omega, by omega⟩

set_option maxRecDepth 100000 in
set_option maxHeartbeats 4000000 in
theorem mp_trace_0 (a1 : Int32) (r0 : (-2147483648) ≤ (a1).toInt ∧ (a1).toInt ≤ (-1)) : mi_P 112 216 [.int a1] := by
  refine ⟨.int (-1), mi_G, mi_G, (mi_h112, mi_c112), (mi_h216, mi_c216), 2, 2, rfl, rfl, rfl, by decide, by decide, ?_, ?_⟩
  · refine mi_met_of (y := 112) (q := (mi_h112, mi_c112)) rfl (by decide) (Nat.le_of_ble_eq_true rfl) ?_
    refine mi_sem_steps mi_in112 (mi_calok_none _ _) 9 _ (16, [(0, .ref 0), (1, .int a1)], [.int (-1), .int 0, .int a1], (0, 0), mi_G) (by rfl) ?_
    have hM1556 : mi_Met mi_N0 1 mi_h120 [.int a1, .int 0, .int (-1)] mi_G (some (.int 0)) mi_G := by
      refine mi_met_of (y := 120) (q := (mi_h120, mi_c120)) rfl (by decide) (Nat.le_of_ble_eq_true rfl) ?_
      refine mi_sem_steps mi_in120 (mi_calok_none _ _) 2 _ (2, [(0, .int a1), (1, .int 0), (2, .int (-1))], [.int 0, .int a1], (0, 0), mi_G) (by rfl) ?_
      refine mi_sem_b mi_in120 (decide (a1 < 0)) true (mi_ltT (0) (by decide) (by omega)) 14 5 ([(0, .int a1), (1, .int 0), (2, .int (-1))], [], (0, 0), mi_G) (by rfl) ?_
      refine mi_sem_steps mi_in120 (mi_calok_none _ _) 1 _ (15, [(0, .int a1), (1, .int 0), (2, .int (-1))], [.int 0], (0, 0), mi_G) (by rfl) ?_
      exact mi_sem_ret (cal := fun _ _ _ => none) mi_in120 (by rfl)
    refine mi_sem_call mi_in112 (i := (.invokestatic 74, 3, 120, 0, 9, 0, 152)) (by rfl) (by rfl) hM1556 (by decide) ⟨Nat.le_of_ble_eq_true rfl, Nat.le_of_ble_eq_true rfl⟩ ?_
    refine mi_sem_steps mi_in112 (mi_calok_none _ _) 2 _ (35, [(0, .ref 0), (1, .int a1)], [.int (-1)], (0, 0), mi_G) (by rfl) ?_
    exact mi_sem_ret (cal := fun _ _ _ => none) mi_in112 (by rfl)
  · refine mi_met_of (y := 216) (q := (mi_h216, mi_c216)) rfl (by decide) (Nat.le_of_ble_eq_true rfl) ?_
    refine mi_sem_steps mi_in216 (mi_calok_none _ _) 8 _ (13, [(0, .ref 116), (1, .int a1)], [.int (-1), .int 0, .int a1], (0, 0), mi_G) (by rfl) ?_
    have hM1557 : mi_Met mi_N0 1 mi_h131 [.int a1, .int 0, .int (-1)] mi_G (some (.int 0)) mi_G := by
      refine mi_met_of (y := 131) (q := (mi_h131, mi_c131)) rfl (by decide) (Nat.le_of_ble_eq_true rfl) ?_
      refine mi_sem_steps mi_in131 (mi_calok_none _ _) 2 _ (2, [(0, .int a1), (1, .int 0), (2, .int (-1))], [.int 0, .int a1], (0, 0), mi_G) (by rfl) ?_
      refine mi_sem_b mi_in131 (decide (a1 < 0)) true (mi_ltT (0) (by decide) (by omega)) 14 5 ([(0, .int a1), (1, .int 0), (2, .int (-1))], [], (0, 0), mi_G) (by rfl) ?_
      refine mi_sem_steps mi_in131 (mi_calok_none _ _) 1 _ (15, [(0, .int a1), (1, .int 0), (2, .int (-1))], [.int 0], (0, 0), mi_G) (by rfl) ?_
      exact mi_sem_ret (cal := fun _ _ _ => none) mi_in131 (by rfl)
    refine mi_sem_call mi_in216 (i := (.invokestatic 119, 3, 131, 0, 9, 0, 379)) (by rfl) (by rfl) hM1557 (by decide) ⟨Nat.le_of_ble_eq_true rfl, Nat.le_of_ble_eq_true rfl⟩ ?_
    refine mi_sem_steps mi_in216 (mi_calok_none _ _) 2 _ (29, [(0, .ref 116), (1, .int a1)], [.int (-1)], (0, 0), mi_G) (by rfl) ?_
    exact mi_sem_ret (cal := fun _ _ _ => none) mi_in216 (by rfl)

set_option maxRecDepth 100000 in
set_option maxHeartbeats 4000000 in
theorem mp_trace_1 (a1 : Int32) (r0 : 0 ≤ (a1).toInt ∧ (a1).toInt ≤ 2147483647) : mi_P 112 216 [.int a1] := by
  refine ⟨.int (-1), mi_G, mi_G, (mi_h112, mi_c112), (mi_h216, mi_c216), 2, 2, rfl, rfl, rfl, by decide, by decide, ?_, ?_⟩
  · refine mi_met_of (y := 112) (q := (mi_h112, mi_c112)) rfl (by decide) (Nat.le_of_ble_eq_true rfl) ?_
    refine mi_sem_steps mi_in112 (mi_calok_none _ _) 9 _ (16, [(0, .ref 0), (1, .int a1)], [.int (-1), .int 0, .int a1], (0, 0), mi_G) (by rfl) ?_
    have hM1558 : mi_Met mi_N0 1 mi_h120 [.int a1, .int 0, .int (-1)] mi_G (some (.int 0)) mi_G := by
      refine mi_met_of (y := 120) (q := (mi_h120, mi_c120)) rfl (by decide) (Nat.le_of_ble_eq_true rfl) ?_
      refine mi_sem_steps mi_in120 (mi_calok_none _ _) 2 _ (2, [(0, .int a1), (1, .int 0), (2, .int (-1))], [.int 0, .int a1], (0, 0), mi_G) (by rfl) ?_
      refine mi_sem_b mi_in120 (decide (a1 < 0)) false (mi_ltF (0) (by decide) (by omega)) 14 5 ([(0, .int a1), (1, .int 0), (2, .int (-1))], [], (0, 0), mi_G) (by rfl) ?_
      refine mi_sem_steps mi_in120 (mi_calok_none _ _) 2 _ (7, [(0, .int a1), (1, .int 0), (2, .int (-1))], [.int (-1), .int a1], (0, 0), mi_G) (by rfl) ?_
      refine mi_sem_b mi_in120 (decide ((-1) < a1)) true (mi_ltT2 (-1) (by decide) (by omega)) 14 10 ([(0, .int a1), (1, .int 0), (2, .int (-1))], [], (0, 0), mi_G) (by rfl) ?_
      refine mi_sem_steps mi_in120 (mi_calok_none _ _) 1 _ (15, [(0, .int a1), (1, .int 0), (2, .int (-1))], [.int 0], (0, 0), mi_G) (by rfl) ?_
      exact mi_sem_ret (cal := fun _ _ _ => none) mi_in120 (by rfl)
    refine mi_sem_call mi_in112 (i := (.invokestatic 74, 3, 120, 0, 9, 0, 152)) (by rfl) (by rfl) hM1558 (by decide) ⟨Nat.le_of_ble_eq_true rfl, Nat.le_of_ble_eq_true rfl⟩ ?_
    refine mi_sem_steps mi_in112 (mi_calok_none _ _) 2 _ (35, [(0, .ref 0), (1, .int a1)], [.int (-1)], (0, 0), mi_G) (by rfl) ?_
    exact mi_sem_ret (cal := fun _ _ _ => none) mi_in112 (by rfl)
  · refine mi_met_of (y := 216) (q := (mi_h216, mi_c216)) rfl (by decide) (Nat.le_of_ble_eq_true rfl) ?_
    refine mi_sem_steps mi_in216 (mi_calok_none _ _) 8 _ (13, [(0, .ref 116), (1, .int a1)], [.int (-1), .int 0, .int a1], (0, 0), mi_G) (by rfl) ?_
    have hM1559 : mi_Met mi_N0 1 mi_h131 [.int a1, .int 0, .int (-1)] mi_G (some (.int 0)) mi_G := by
      refine mi_met_of (y := 131) (q := (mi_h131, mi_c131)) rfl (by decide) (Nat.le_of_ble_eq_true rfl) ?_
      refine mi_sem_steps mi_in131 (mi_calok_none _ _) 2 _ (2, [(0, .int a1), (1, .int 0), (2, .int (-1))], [.int 0, .int a1], (0, 0), mi_G) (by rfl) ?_
      refine mi_sem_b mi_in131 (decide (a1 < 0)) false (mi_ltF (0) (by decide) (by omega)) 14 5 ([(0, .int a1), (1, .int 0), (2, .int (-1))], [], (0, 0), mi_G) (by rfl) ?_
      refine mi_sem_steps mi_in131 (mi_calok_none _ _) 2 _ (7, [(0, .int a1), (1, .int 0), (2, .int (-1))], [.int (-1), .int a1], (0, 0), mi_G) (by rfl) ?_
      refine mi_sem_b mi_in131 (decide ((-1) < a1)) true (mi_ltT2 (-1) (by decide) (by omega)) 14 10 ([(0, .int a1), (1, .int 0), (2, .int (-1))], [], (0, 0), mi_G) (by rfl) ?_
      refine mi_sem_steps mi_in131 (mi_calok_none _ _) 1 _ (15, [(0, .int a1), (1, .int 0), (2, .int (-1))], [.int 0], (0, 0), mi_G) (by rfl) ?_
      exact mi_sem_ret (cal := fun _ _ _ => none) mi_in131 (by rfl)
    refine mi_sem_call mi_in216 (i := (.invokestatic 119, 3, 131, 0, 9, 0, 379)) (by rfl) (by rfl) hM1559 (by decide) ⟨Nat.le_of_ble_eq_true rfl, Nat.le_of_ble_eq_true rfl⟩ ?_
    refine mi_sem_steps mi_in216 (mi_calok_none _ _) 2 _ (29, [(0, .ref 116), (1, .int a1)], [.int (-1)], (0, 0), mi_G) (by rfl) ?_
    exact mi_sem_ret (cal := fun _ _ _ => none) mi_in216 (by rfl)

set_option maxRecDepth 100000 in
set_option maxHeartbeats 4000000 in
theorem mp_trace (a1 : Int32) : mi_P 112 216 [.int a1] := by
  have b0 := Int32.toInt_lt (a1)
  have c0 := Int32.le_toInt (a1)
  rcases Int.lt_or_le (a1).toInt 0 with _hh | _hh
  ·
    exact mp_trace_0 a1 ⟨by omega, by omega⟩
  ·
    exact mp_trace_1 a1 ⟨by omega, by omega⟩

set_option maxRecDepth 100000 in
set_option maxHeartbeats 4000000 in
theorem mp_keep_0 (a1 : Int32) (a2 : Int32) (r0 : (-2147483648) ≤ (a1).toInt ∧ (a1).toInt ≤ (-1)) : mi_P 113 217 [.int a1, .int a2] := by
  refine ⟨.int (-1), mi_G, mi_G, (mi_h113, mi_c113), (mi_h217, mi_c217), 3, 3, rfl, rfl, rfl, by decide, by decide, ?_, ?_⟩
  · refine mi_met_of (y := 113) (q := (mi_h113, mi_c113)) rfl (by decide) (Nat.le_of_ble_eq_true rfl) ?_
    refine mi_sem_steps mi_in113 (mi_calok_none _ _) 1 _ (1, [(0, .ref 0), (1, .int a1), (2, .int a2)], [.int a1], (0, 0), mi_G) (by rfl) ?_
    have hM1561 : mi_Met mi_N0 2 mi_h121 [.int a1] mi_G (some (.int 0)) mi_G := by
      refine mi_met_of (y := 121) (q := (mi_h121, mi_c121)) rfl (by decide) (Nat.le_of_ble_eq_true rfl) ?_
      refine mi_sem_steps mi_in121 (mi_calok_none _ _) 3 _ (3, [(0, .int a1)], [.int 5, .int 0, .int a1], (0, 0), mi_G) (by rfl) ?_
      have hM1560 : mi_Met mi_N0 1 mi_h120 [.int a1, .int 0, .int 5] mi_G (some (.int 0)) mi_G := by
        refine mi_met_of (y := 120) (q := (mi_h120, mi_c120)) rfl (by decide) (Nat.le_of_ble_eq_true rfl) ?_
        refine mi_sem_steps mi_in120 (mi_calok_none _ _) 2 _ (2, [(0, .int a1), (1, .int 0), (2, .int 5)], [.int 0, .int a1], (0, 0), mi_G) (by rfl) ?_
        refine mi_sem_b mi_in120 (decide (a1 < 0)) true (mi_ltT (0) (by decide) (by omega)) 14 5 ([(0, .int a1), (1, .int 0), (2, .int 5)], [], (0, 0), mi_G) (by rfl) ?_
        refine mi_sem_steps mi_in120 (mi_calok_none _ _) 1 _ (15, [(0, .int a1), (1, .int 0), (2, .int 5)], [.int 0], (0, 0), mi_G) (by rfl) ?_
        exact mi_sem_ret (cal := fun _ _ _ => none) mi_in120 (by rfl)
      refine mi_sem_call mi_in121 (i := (.invokestatic 74, 3, 120, 0, 9, 0, 152)) (by rfl) (by rfl) hM1560 (by decide) ⟨Nat.le_of_ble_eq_true rfl, Nat.le_of_ble_eq_true rfl⟩ ?_
      exact mi_sem_ret (cal := fun _ _ _ => none) mi_in121 (by rfl)
    refine mi_sem_call mi_in113 (i := (.invokestatic 70, 3, 121, 0, 9, 0, 157)) (by rfl) (by rfl) hM1561 (by decide) ⟨Nat.le_of_ble_eq_true rfl, Nat.le_of_ble_eq_true rfl⟩ ?_
    refine mi_sem_steps mi_in113 (mi_calok_none _ _) 2 _ (24, [(0, .ref 0), (1, .int a1), (2, .int a2)], [.int (-1)], (0, 0), mi_G) (by rfl) ?_
    exact mi_sem_ret (cal := fun _ _ _ => none) mi_in113 (by rfl)
  · refine mi_met_of (y := 217) (q := (mi_h217, mi_c217)) rfl (by decide) (Nat.le_of_ble_eq_true rfl) ?_
    refine mi_sem_steps mi_in217 (mi_calok_none _ _) 1 _ (1, [(0, .ref 116), (1, .int a1), (2, .int a2)], [.int a1], (0, 0), mi_G) (by rfl) ?_
    have hM1563 : mi_Met mi_N0 2 mi_h133 [.int a1] mi_G (some (.int 0)) mi_G := by
      refine mi_met_of (y := 133) (q := (mi_h133, mi_c133)) rfl (by decide) (Nat.le_of_ble_eq_true rfl) ?_
      refine mi_sem_steps mi_in133 (mi_calok_none _ _) 3 _ (3, [(0, .int a1)], [.int 5, .int 0, .int a1], (0, 0), mi_G) (by rfl) ?_
      have hM1562 : mi_Met mi_N0 1 mi_h131 [.int a1, .int 0, .int 5] mi_G (some (.int 0)) mi_G := by
        refine mi_met_of (y := 131) (q := (mi_h131, mi_c131)) rfl (by decide) (Nat.le_of_ble_eq_true rfl) ?_
        refine mi_sem_steps mi_in131 (mi_calok_none _ _) 2 _ (2, [(0, .int a1), (1, .int 0), (2, .int 5)], [.int 0, .int a1], (0, 0), mi_G) (by rfl) ?_
        refine mi_sem_b mi_in131 (decide (a1 < 0)) true (mi_ltT (0) (by decide) (by omega)) 14 5 ([(0, .int a1), (1, .int 0), (2, .int 5)], [], (0, 0), mi_G) (by rfl) ?_
        refine mi_sem_steps mi_in131 (mi_calok_none _ _) 1 _ (15, [(0, .int a1), (1, .int 0), (2, .int 5)], [.int 0], (0, 0), mi_G) (by rfl) ?_
        exact mi_sem_ret (cal := fun _ _ _ => none) mi_in131 (by rfl)
      refine mi_sem_call mi_in133 (i := (.invokestatic 119, 3, 131, 0, 9, 0, 379)) (by rfl) (by rfl) hM1562 (by decide) ⟨Nat.le_of_ble_eq_true rfl, Nat.le_of_ble_eq_true rfl⟩ ?_
      exact mi_sem_ret (cal := fun _ _ _ => none) mi_in133 (by rfl)
    refine mi_sem_call mi_in217 (i := (.invokestatic 127, 3, 133, 0, 9, 0, 382)) (by rfl) (by rfl) hM1563 (by decide) ⟨Nat.le_of_ble_eq_true rfl, Nat.le_of_ble_eq_true rfl⟩ ?_
    refine mi_sem_steps mi_in217 (mi_calok_none _ _) 2 _ (22, [(0, .ref 116), (1, .int a1), (2, .int a2)], [.int (-1)], (0, 0), mi_G) (by rfl) ?_
    exact mi_sem_ret (cal := fun _ _ _ => none) mi_in217 (by rfl)

set_option maxRecDepth 100000 in
set_option maxHeartbeats 4000000 in
theorem mp_keep_1 (a1 : Int32) (a2 : Int32) (r0 : 0 ≤ (a1).toInt ∧ (a1).toInt ≤ 5) (r1 : (-2147483648) ≤ (a2).toInt ∧ (a2).toInt ≤ (-2)) : mi_P 113 217 [.int a1, .int a2] := by
  refine ⟨.int (-1), mi_G, mi_G, (mi_h113, mi_c113), (mi_h217, mi_c217), 3, 3, rfl, rfl, rfl, by decide, by decide, ?_, ?_⟩
  · refine mi_met_of (y := 113) (q := (mi_h113, mi_c113)) rfl (by decide) (Nat.le_of_ble_eq_true rfl) ?_
    refine mi_sem_steps mi_in113 (mi_calok_none _ _) 1 _ (1, [(0, .ref 0), (1, .int a1), (2, .int a2)], [.int a1], (0, 0), mi_G) (by rfl) ?_
    have hM1567 : mi_Met mi_N0 2 mi_h121 [.int a1] mi_G (some (.int 1)) mi_G := by
      refine mi_met_of (y := 121) (q := (mi_h121, mi_c121)) rfl (by decide) (Nat.le_of_ble_eq_true rfl) ?_
      refine mi_sem_steps mi_in121 (mi_calok_none _ _) 3 _ (3, [(0, .int a1)], [.int 5, .int 0, .int a1], (0, 0), mi_G) (by rfl) ?_
      have hM1566 : mi_Met mi_N0 1 mi_h120 [.int a1, .int 0, .int 5] mi_G (some (.int 1)) mi_G := by
        refine mi_met_of (y := 120) (q := (mi_h120, mi_c120)) rfl (by decide) (Nat.le_of_ble_eq_true rfl) ?_
        refine mi_sem_steps mi_in120 (mi_calok_none _ _) 2 _ (2, [(0, .int a1), (1, .int 0), (2, .int 5)], [.int 0, .int a1], (0, 0), mi_G) (by rfl) ?_
        refine mi_sem_b mi_in120 (decide (a1 < 0)) false (mi_ltF (0) (by decide) (by omega)) 14 5 ([(0, .int a1), (1, .int 0), (2, .int 5)], [], (0, 0), mi_G) (by rfl) ?_
        refine mi_sem_steps mi_in120 (mi_calok_none _ _) 2 _ (7, [(0, .int a1), (1, .int 0), (2, .int 5)], [.int 5, .int a1], (0, 0), mi_G) (by rfl) ?_
        refine mi_sem_b mi_in120 (decide (5 < a1)) false (mi_ltF2 (5) (by decide) (by omega)) 14 10 ([(0, .int a1), (1, .int 0), (2, .int 5)], [], (0, 0), mi_G) (by rfl) ?_
        refine mi_sem_steps mi_in120 (mi_calok_none _ _) 2 _ (15, [(0, .int a1), (1, .int 0), (2, .int 5)], [.int 1], (0, 0), mi_G) (by rfl) ?_
        exact mi_sem_ret (cal := fun _ _ _ => none) mi_in120 (by rfl)
      refine mi_sem_call mi_in121 (i := (.invokestatic 74, 3, 120, 0, 9, 0, 152)) (by rfl) (by rfl) hM1566 (by decide) ⟨Nat.le_of_ble_eq_true rfl, Nat.le_of_ble_eq_true rfl⟩ ?_
      exact mi_sem_ret (cal := fun _ _ _ => none) mi_in121 (by rfl)
    refine mi_sem_call mi_in113 (i := (.invokestatic 70, 3, 121, 0, 9, 0, 157)) (by rfl) (by rfl) hM1567 (by decide) ⟨Nat.le_of_ble_eq_true rfl, Nat.le_of_ble_eq_true rfl⟩ ?_
    refine mi_sem_steps mi_in113 (mi_calok_none _ _) 3 _ (9, [(0, .ref 0), (1, .int a1), (2, .int a2)], [.int (-1), .int a2], (0, 0), mi_G) (by rfl) ?_
    refine mi_sem_b mi_in113 ((a2 == (-1))) false (mi_eqF (-1) (by decide) (by omega)) 25 12 ([(0, .ref 0), (1, .int a1), (2, .int a2)], [], (0, 0), mi_G) (by rfl) ?_
    refine mi_sem_steps mi_in113 (mi_calok_none _ _) 3 _ (17, [(0, .ref 0), (1, .int a1), (2, .int a2)], [.int a2, .ref 94], (0, 0), mi_G) (by rfl) ?_
    have hM1568 : mi_Met mi_N0 1 mi_h8 [.ref 94, .int a2] mi_G (some (.int 0)) mi_G := by
      refine mi_met_of (y := 8) (q := (mi_h8, mi_c8)) rfl (by decide) (Nat.le_of_ble_eq_true rfl) ?_
      refine mi_sem_steps mi_in8 (mi_calok_none _ _) 1 _ (1, [(0, .ref 94), (1, .int a2)], [.int a2], (0, 0), mi_G) (by rfl) ?_
      refine mi_sem_b mi_in8 (decide (a2 < 0)) true (mi_ltT (0) (by decide) (by omega)) 22 4 ([(0, .ref 94), (1, .int a2)], [], (0, 0), mi_G) (by rfl) ?_
      refine mi_sem_steps mi_in8 (mi_calok_none _ _) 1 _ (23, [(0, .ref 94), (1, .int a2)], [.int 0], (0, 0), mi_G) (by rfl) ?_
      exact mi_sem_ret (cal := fun _ _ _ => none) mi_in8 (by rfl)
    refine mi_sem_call mi_in113 (i := (.invokevirtual 301, 3, 8, 0, 9, 0, 304)) (by rfl) (by rfl) hM1568 (by decide) ⟨Nat.le_of_ble_eq_true rfl, Nat.le_of_ble_eq_true rfl⟩ ?_
    refine mi_sem_steps mi_in113 (mi_calok_none _ _) 2 _ (24, [(0, .ref 0), (1, .int a1), (2, .int a2)], [.int (-1)], (0, 0), mi_G) (by rfl) ?_
    exact mi_sem_ret (cal := fun _ _ _ => none) mi_in113 (by rfl)
  · refine mi_met_of (y := 217) (q := (mi_h217, mi_c217)) rfl (by decide) (Nat.le_of_ble_eq_true rfl) ?_
    refine mi_sem_steps mi_in217 (mi_calok_none _ _) 1 _ (1, [(0, .ref 116), (1, .int a1), (2, .int a2)], [.int a1], (0, 0), mi_G) (by rfl) ?_
    have hM1570 : mi_Met mi_N0 2 mi_h133 [.int a1] mi_G (some (.int 1)) mi_G := by
      refine mi_met_of (y := 133) (q := (mi_h133, mi_c133)) rfl (by decide) (Nat.le_of_ble_eq_true rfl) ?_
      refine mi_sem_steps mi_in133 (mi_calok_none _ _) 3 _ (3, [(0, .int a1)], [.int 5, .int 0, .int a1], (0, 0), mi_G) (by rfl) ?_
      have hM1569 : mi_Met mi_N0 1 mi_h131 [.int a1, .int 0, .int 5] mi_G (some (.int 1)) mi_G := by
        refine mi_met_of (y := 131) (q := (mi_h131, mi_c131)) rfl (by decide) (Nat.le_of_ble_eq_true rfl) ?_
        refine mi_sem_steps mi_in131 (mi_calok_none _ _) 2 _ (2, [(0, .int a1), (1, .int 0), (2, .int 5)], [.int 0, .int a1], (0, 0), mi_G) (by rfl) ?_
        refine mi_sem_b mi_in131 (decide (a1 < 0)) false (mi_ltF (0) (by decide) (by omega)) 14 5 ([(0, .int a1), (1, .int 0), (2, .int 5)], [], (0, 0), mi_G) (by rfl) ?_
        refine mi_sem_steps mi_in131 (mi_calok_none _ _) 2 _ (7, [(0, .int a1), (1, .int 0), (2, .int 5)], [.int 5, .int a1], (0, 0), mi_G) (by rfl) ?_
        refine mi_sem_b mi_in131 (decide (5 < a1)) false (mi_ltF2 (5) (by decide) (by omega)) 14 10 ([(0, .int a1), (1, .int 0), (2, .int 5)], [], (0, 0), mi_G) (by rfl) ?_
        refine mi_sem_steps mi_in131 (mi_calok_none _ _) 2 _ (15, [(0, .int a1), (1, .int 0), (2, .int 5)], [.int 1], (0, 0), mi_G) (by rfl) ?_
        exact mi_sem_ret (cal := fun _ _ _ => none) mi_in131 (by rfl)
      refine mi_sem_call mi_in133 (i := (.invokestatic 119, 3, 131, 0, 9, 0, 379)) (by rfl) (by rfl) hM1569 (by decide) ⟨Nat.le_of_ble_eq_true rfl, Nat.le_of_ble_eq_true rfl⟩ ?_
      exact mi_sem_ret (cal := fun _ _ _ => none) mi_in133 (by rfl)
    refine mi_sem_call mi_in217 (i := (.invokestatic 127, 3, 133, 0, 9, 0, 382)) (by rfl) (by rfl) hM1570 (by decide) ⟨Nat.le_of_ble_eq_true rfl, Nat.le_of_ble_eq_true rfl⟩ ?_
    refine mi_sem_steps mi_in217 (mi_calok_none _ _) 7 _ (15, [(0, .ref 116), (1, .int a1), (2, .int a2)], [.int (-1), .int (-1), .int a2], (0, 0), mi_G) (by rfl) ?_
    have hM1571 : mi_Met mi_N0 1 mi_h131 [.int a2, .int (-1), .int (-1)] mi_G (some (.int 0)) mi_G := by
      refine mi_met_of (y := 131) (q := (mi_h131, mi_c131)) rfl (by decide) (Nat.le_of_ble_eq_true rfl) ?_
      refine mi_sem_steps mi_in131 (mi_calok_none _ _) 2 _ (2, [(0, .int a2), (1, .int (-1)), (2, .int (-1))], [.int (-1), .int a2], (0, 0), mi_G) (by rfl) ?_
      refine mi_sem_b mi_in131 (decide (a2 < (-1))) true (mi_ltT (-1) (by decide) (by omega)) 14 5 ([(0, .int a2), (1, .int (-1)), (2, .int (-1))], [], (0, 0), mi_G) (by rfl) ?_
      refine mi_sem_steps mi_in131 (mi_calok_none _ _) 1 _ (15, [(0, .int a2), (1, .int (-1)), (2, .int (-1))], [.int 0], (0, 0), mi_G) (by rfl) ?_
      exact mi_sem_ret (cal := fun _ _ _ => none) mi_in131 (by rfl)
    refine mi_sem_call mi_in217 (i := (.invokestatic 119, 3, 131, 0, 9, 0, 379)) (by rfl) (by rfl) hM1571 (by decide) ⟨Nat.le_of_ble_eq_true rfl, Nat.le_of_ble_eq_true rfl⟩ ?_
    refine mi_sem_steps mi_in217 (mi_calok_none _ _) 2 _ (22, [(0, .ref 116), (1, .int a1), (2, .int a2)], [.int (-1)], (0, 0), mi_G) (by rfl) ?_
    exact mi_sem_ret (cal := fun _ _ _ => none) mi_in217 (by rfl)

set_option maxRecDepth 100000 in
set_option maxHeartbeats 4000000 in
theorem mp_keep_2   : mi_P 113 217 [.int 0, .int (-1)] := by
  refine ⟨.int 1, mi_G, mi_G, (mi_h113, mi_c113), (mi_h217, mi_c217), 3, 3, rfl, rfl, rfl, by decide, by decide, ?_, ?_⟩
  · exact mi_fun_ok mi_N0 3 113 (mi_h113, mi_c113) _ _ _ _ rfl (mi_eR_ok (by decide +kernel))
  · exact mi_fun_ok mi_N0 3 217 (mi_h217, mi_c217) _ _ _ _ rfl (mi_eR_ok (by decide +kernel))

set_option maxRecDepth 100000 in
set_option maxHeartbeats 4000000 in
theorem mp_keep_3   : mi_P 113 217 [.int 1, .int (-1)] := by
  refine ⟨.int 1, mi_G, mi_G, (mi_h113, mi_c113), (mi_h217, mi_c217), 3, 3, rfl, rfl, rfl, by decide, by decide, ?_, ?_⟩
  · exact mi_fun_ok mi_N0 3 113 (mi_h113, mi_c113) _ _ _ _ rfl (mi_eR_ok (by decide +kernel))
  · exact mi_fun_ok mi_N0 3 217 (mi_h217, mi_c217) _ _ _ _ rfl (mi_eR_ok (by decide +kernel))

set_option maxRecDepth 100000 in
set_option maxHeartbeats 4000000 in
theorem mp_keep_4   : mi_P 113 217 [.int 2, .int (-1)] := by
  refine ⟨.int 1, mi_G, mi_G, (mi_h113, mi_c113), (mi_h217, mi_c217), 3, 3, rfl, rfl, rfl, by decide, by decide, ?_, ?_⟩
  · exact mi_fun_ok mi_N0 3 113 (mi_h113, mi_c113) _ _ _ _ rfl (mi_eR_ok (by decide +kernel))
  · exact mi_fun_ok mi_N0 3 217 (mi_h217, mi_c217) _ _ _ _ rfl (mi_eR_ok (by decide +kernel))

set_option maxRecDepth 100000 in
set_option maxHeartbeats 4000000 in
theorem mp_keep_5   : mi_P 113 217 [.int 3, .int (-1)] := by
  refine ⟨.int 1, mi_G, mi_G, (mi_h113, mi_c113), (mi_h217, mi_c217), 3, 3, rfl, rfl, rfl, by decide, by decide, ?_, ?_⟩
  · exact mi_fun_ok mi_N0 3 113 (mi_h113, mi_c113) _ _ _ _ rfl (mi_eR_ok (by decide +kernel))
  · exact mi_fun_ok mi_N0 3 217 (mi_h217, mi_c217) _ _ _ _ rfl (mi_eR_ok (by decide +kernel))

set_option maxRecDepth 100000 in
set_option maxHeartbeats 4000000 in
theorem mp_keep_6   : mi_P 113 217 [.int 4, .int (-1)] := by
  refine ⟨.int 1, mi_G, mi_G, (mi_h113, mi_c113), (mi_h217, mi_c217), 3, 3, rfl, rfl, rfl, by decide, by decide, ?_, ?_⟩
  · exact mi_fun_ok mi_N0 3 113 (mi_h113, mi_c113) _ _ _ _ rfl (mi_eR_ok (by decide +kernel))
  · exact mi_fun_ok mi_N0 3 217 (mi_h217, mi_c217) _ _ _ _ rfl (mi_eR_ok (by decide +kernel))

set_option maxRecDepth 100000 in
set_option maxHeartbeats 4000000 in
theorem mp_keep_7   : mi_P 113 217 [.int 5, .int (-1)] := by
  refine ⟨.int 1, mi_G, mi_G, (mi_h113, mi_c113), (mi_h217, mi_c217), 3, 3, rfl, rfl, rfl, by decide, by decide, ?_, ?_⟩
  · exact mi_fun_ok mi_N0 3 113 (mi_h113, mi_c113) _ _ _ _ rfl (mi_eR_ok (by decide +kernel))
  · exact mi_fun_ok mi_N0 3 217 (mi_h217, mi_c217) _ _ _ _ rfl (mi_eR_ok (by decide +kernel))

set_option maxRecDepth 100000 in
set_option maxHeartbeats 4000000 in
theorem mp_keep_8 (a1 : Int32) (a2 : Int32) (r0 : 0 ≤ (a1).toInt ∧ (a1).toInt ≤ 5) (r1 : 0 ≤ (a2).toInt ∧ (a2).toInt ≤ 2147483647) : mi_P 113 217 [.int a1, .int a2] := by
  refine ⟨.int (-1), mi_G, mi_G, (mi_h113, mi_c113), (mi_h217, mi_c217), 3, 3, rfl, rfl, rfl, by decide, by decide, ?_, ?_⟩
  · refine mi_met_of (y := 113) (q := (mi_h113, mi_c113)) rfl (by decide) (Nat.le_of_ble_eq_true rfl) ?_
    refine mi_sem_steps mi_in113 (mi_calok_none _ _) 1 _ (1, [(0, .ref 0), (1, .int a1), (2, .int a2)], [.int a1], (0, 0), mi_G) (by rfl) ?_
    have hM1585 : mi_Met mi_N0 2 mi_h121 [.int a1] mi_G (some (.int 1)) mi_G := by
      refine mi_met_of (y := 121) (q := (mi_h121, mi_c121)) rfl (by decide) (Nat.le_of_ble_eq_true rfl) ?_
      refine mi_sem_steps mi_in121 (mi_calok_none _ _) 3 _ (3, [(0, .int a1)], [.int 5, .int 0, .int a1], (0, 0), mi_G) (by rfl) ?_
      have hM1584 : mi_Met mi_N0 1 mi_h120 [.int a1, .int 0, .int 5] mi_G (some (.int 1)) mi_G := by
        refine mi_met_of (y := 120) (q := (mi_h120, mi_c120)) rfl (by decide) (Nat.le_of_ble_eq_true rfl) ?_
        refine mi_sem_steps mi_in120 (mi_calok_none _ _) 2 _ (2, [(0, .int a1), (1, .int 0), (2, .int 5)], [.int 0, .int a1], (0, 0), mi_G) (by rfl) ?_
        refine mi_sem_b mi_in120 (decide (a1 < 0)) false (mi_ltF (0) (by decide) (by omega)) 14 5 ([(0, .int a1), (1, .int 0), (2, .int 5)], [], (0, 0), mi_G) (by rfl) ?_
        refine mi_sem_steps mi_in120 (mi_calok_none _ _) 2 _ (7, [(0, .int a1), (1, .int 0), (2, .int 5)], [.int 5, .int a1], (0, 0), mi_G) (by rfl) ?_
        refine mi_sem_b mi_in120 (decide (5 < a1)) false (mi_ltF2 (5) (by decide) (by omega)) 14 10 ([(0, .int a1), (1, .int 0), (2, .int 5)], [], (0, 0), mi_G) (by rfl) ?_
        refine mi_sem_steps mi_in120 (mi_calok_none _ _) 2 _ (15, [(0, .int a1), (1, .int 0), (2, .int 5)], [.int 1], (0, 0), mi_G) (by rfl) ?_
        exact mi_sem_ret (cal := fun _ _ _ => none) mi_in120 (by rfl)
      refine mi_sem_call mi_in121 (i := (.invokestatic 74, 3, 120, 0, 9, 0, 152)) (by rfl) (by rfl) hM1584 (by decide) ⟨Nat.le_of_ble_eq_true rfl, Nat.le_of_ble_eq_true rfl⟩ ?_
      exact mi_sem_ret (cal := fun _ _ _ => none) mi_in121 (by rfl)
    refine mi_sem_call mi_in113 (i := (.invokestatic 70, 3, 121, 0, 9, 0, 157)) (by rfl) (by rfl) hM1585 (by decide) ⟨Nat.le_of_ble_eq_true rfl, Nat.le_of_ble_eq_true rfl⟩ ?_
    refine mi_sem_steps mi_in113 (mi_calok_none _ _) 3 _ (9, [(0, .ref 0), (1, .int a1), (2, .int a2)], [.int (-1), .int a2], (0, 0), mi_G) (by rfl) ?_
    refine mi_sem_b mi_in113 ((a2 == (-1))) false (mi_eqF (-1) (by decide) (by omega)) 25 12 ([(0, .ref 0), (1, .int a1), (2, .int a2)], [], (0, 0), mi_G) (by rfl) ?_
    refine mi_sem_steps mi_in113 (mi_calok_none _ _) 3 _ (17, [(0, .ref 0), (1, .int a1), (2, .int a2)], [.int a2, .ref 94], (0, 0), mi_G) (by rfl) ?_
    have hM1586 : mi_Met mi_N0 1 mi_h8 [.ref 94, .int a2] mi_G (some (.int 0)) mi_G := by
      refine mi_met_of (y := 8) (q := (mi_h8, mi_c8)) rfl (by decide) (Nat.le_of_ble_eq_true rfl) ?_
      refine mi_sem_steps mi_in8 (mi_calok_none _ _) 1 _ (1, [(0, .ref 94), (1, .int a2)], [.int a2], (0, 0), mi_G) (by rfl) ?_
      refine mi_sem_b mi_in8 (decide (a2 < 0)) false (mi_ltF (0) (by decide) (by omega)) 22 4 ([(0, .ref 94), (1, .int a2)], [], (0, 0), mi_G) (by rfl) ?_
      refine mi_sem_steps mi_in8 (mi_calok_none _ _) 3 _ (9, [(0, .ref 94), (1, .int a2)], [.int 0, .int a2], (0, 0), mi_G) (by rfl) ?_
      refine mi_sem_b mi_in8 (decide (0 ≤ a2)) true (mi_leT2 (0) (by decide) (by omega)) 22 12 ([(0, .ref 94), (1, .int a2)], [], (0, 0), mi_G) (by rfl) ?_
      refine mi_sem_steps mi_in8 (mi_calok_none _ _) 1 _ (23, [(0, .ref 94), (1, .int a2)], [.int 0], (0, 0), mi_G) (by rfl) ?_
      exact mi_sem_ret (cal := fun _ _ _ => none) mi_in8 (by rfl)
    refine mi_sem_call mi_in113 (i := (.invokevirtual 301, 3, 8, 0, 9, 0, 304)) (by rfl) (by rfl) hM1586 (by decide) ⟨Nat.le_of_ble_eq_true rfl, Nat.le_of_ble_eq_true rfl⟩ ?_
    refine mi_sem_steps mi_in113 (mi_calok_none _ _) 2 _ (24, [(0, .ref 0), (1, .int a1), (2, .int a2)], [.int (-1)], (0, 0), mi_G) (by rfl) ?_
    exact mi_sem_ret (cal := fun _ _ _ => none) mi_in113 (by rfl)
  · refine mi_met_of (y := 217) (q := (mi_h217, mi_c217)) rfl (by decide) (Nat.le_of_ble_eq_true rfl) ?_
    refine mi_sem_steps mi_in217 (mi_calok_none _ _) 1 _ (1, [(0, .ref 116), (1, .int a1), (2, .int a2)], [.int a1], (0, 0), mi_G) (by rfl) ?_
    have hM1588 : mi_Met mi_N0 2 mi_h133 [.int a1] mi_G (some (.int 1)) mi_G := by
      refine mi_met_of (y := 133) (q := (mi_h133, mi_c133)) rfl (by decide) (Nat.le_of_ble_eq_true rfl) ?_
      refine mi_sem_steps mi_in133 (mi_calok_none _ _) 3 _ (3, [(0, .int a1)], [.int 5, .int 0, .int a1], (0, 0), mi_G) (by rfl) ?_
      have hM1587 : mi_Met mi_N0 1 mi_h131 [.int a1, .int 0, .int 5] mi_G (some (.int 1)) mi_G := by
        refine mi_met_of (y := 131) (q := (mi_h131, mi_c131)) rfl (by decide) (Nat.le_of_ble_eq_true rfl) ?_
        refine mi_sem_steps mi_in131 (mi_calok_none _ _) 2 _ (2, [(0, .int a1), (1, .int 0), (2, .int 5)], [.int 0, .int a1], (0, 0), mi_G) (by rfl) ?_
        refine mi_sem_b mi_in131 (decide (a1 < 0)) false (mi_ltF (0) (by decide) (by omega)) 14 5 ([(0, .int a1), (1, .int 0), (2, .int 5)], [], (0, 0), mi_G) (by rfl) ?_
        refine mi_sem_steps mi_in131 (mi_calok_none _ _) 2 _ (7, [(0, .int a1), (1, .int 0), (2, .int 5)], [.int 5, .int a1], (0, 0), mi_G) (by rfl) ?_
        refine mi_sem_b mi_in131 (decide (5 < a1)) false (mi_ltF2 (5) (by decide) (by omega)) 14 10 ([(0, .int a1), (1, .int 0), (2, .int 5)], [], (0, 0), mi_G) (by rfl) ?_
        refine mi_sem_steps mi_in131 (mi_calok_none _ _) 2 _ (15, [(0, .int a1), (1, .int 0), (2, .int 5)], [.int 1], (0, 0), mi_G) (by rfl) ?_
        exact mi_sem_ret (cal := fun _ _ _ => none) mi_in131 (by rfl)
      refine mi_sem_call mi_in133 (i := (.invokestatic 119, 3, 131, 0, 9, 0, 379)) (by rfl) (by rfl) hM1587 (by decide) ⟨Nat.le_of_ble_eq_true rfl, Nat.le_of_ble_eq_true rfl⟩ ?_
      exact mi_sem_ret (cal := fun _ _ _ => none) mi_in133 (by rfl)
    refine mi_sem_call mi_in217 (i := (.invokestatic 127, 3, 133, 0, 9, 0, 382)) (by rfl) (by rfl) hM1588 (by decide) ⟨Nat.le_of_ble_eq_true rfl, Nat.le_of_ble_eq_true rfl⟩ ?_
    refine mi_sem_steps mi_in217 (mi_calok_none _ _) 7 _ (15, [(0, .ref 116), (1, .int a1), (2, .int a2)], [.int (-1), .int (-1), .int a2], (0, 0), mi_G) (by rfl) ?_
    have hM1589 : mi_Met mi_N0 1 mi_h131 [.int a2, .int (-1), .int (-1)] mi_G (some (.int 0)) mi_G := by
      refine mi_met_of (y := 131) (q := (mi_h131, mi_c131)) rfl (by decide) (Nat.le_of_ble_eq_true rfl) ?_
      refine mi_sem_steps mi_in131 (mi_calok_none _ _) 2 _ (2, [(0, .int a2), (1, .int (-1)), (2, .int (-1))], [.int (-1), .int a2], (0, 0), mi_G) (by rfl) ?_
      refine mi_sem_b mi_in131 (decide (a2 < (-1))) false (mi_ltF (-1) (by decide) (by omega)) 14 5 ([(0, .int a2), (1, .int (-1)), (2, .int (-1))], [], (0, 0), mi_G) (by rfl) ?_
      refine mi_sem_steps mi_in131 (mi_calok_none _ _) 2 _ (7, [(0, .int a2), (1, .int (-1)), (2, .int (-1))], [.int (-1), .int a2], (0, 0), mi_G) (by rfl) ?_
      refine mi_sem_b mi_in131 (decide ((-1) < a2)) true (mi_ltT2 (-1) (by decide) (by omega)) 14 10 ([(0, .int a2), (1, .int (-1)), (2, .int (-1))], [], (0, 0), mi_G) (by rfl) ?_
      refine mi_sem_steps mi_in131 (mi_calok_none _ _) 1 _ (15, [(0, .int a2), (1, .int (-1)), (2, .int (-1))], [.int 0], (0, 0), mi_G) (by rfl) ?_
      exact mi_sem_ret (cal := fun _ _ _ => none) mi_in131 (by rfl)
    refine mi_sem_call mi_in217 (i := (.invokestatic 119, 3, 131, 0, 9, 0, 379)) (by rfl) (by rfl) hM1589 (by decide) ⟨Nat.le_of_ble_eq_true rfl, Nat.le_of_ble_eq_true rfl⟩ ?_
    refine mi_sem_steps mi_in217 (mi_calok_none _ _) 2 _ (22, [(0, .ref 116), (1, .int a1), (2, .int a2)], [.int (-1)], (0, 0), mi_G) (by rfl) ?_
    exact mi_sem_ret (cal := fun _ _ _ => none) mi_in217 (by rfl)

set_option maxRecDepth 100000 in
set_option maxHeartbeats 4000000 in
theorem mp_keep_9 (a1 : Int32) (a2 : Int32) (r0 : 6 ≤ (a1).toInt ∧ (a1).toInt ≤ 2147483647) : mi_P 113 217 [.int a1, .int a2] := by
  refine ⟨.int (-1), mi_G, mi_G, (mi_h113, mi_c113), (mi_h217, mi_c217), 3, 3, rfl, rfl, rfl, by decide, by decide, ?_, ?_⟩
  · refine mi_met_of (y := 113) (q := (mi_h113, mi_c113)) rfl (by decide) (Nat.le_of_ble_eq_true rfl) ?_
    refine mi_sem_steps mi_in113 (mi_calok_none _ _) 1 _ (1, [(0, .ref 0), (1, .int a1), (2, .int a2)], [.int a1], (0, 0), mi_G) (by rfl) ?_
    have hM1591 : mi_Met mi_N0 2 mi_h121 [.int a1] mi_G (some (.int 0)) mi_G := by
      refine mi_met_of (y := 121) (q := (mi_h121, mi_c121)) rfl (by decide) (Nat.le_of_ble_eq_true rfl) ?_
      refine mi_sem_steps mi_in121 (mi_calok_none _ _) 3 _ (3, [(0, .int a1)], [.int 5, .int 0, .int a1], (0, 0), mi_G) (by rfl) ?_
      have hM1590 : mi_Met mi_N0 1 mi_h120 [.int a1, .int 0, .int 5] mi_G (some (.int 0)) mi_G := by
        refine mi_met_of (y := 120) (q := (mi_h120, mi_c120)) rfl (by decide) (Nat.le_of_ble_eq_true rfl) ?_
        refine mi_sem_steps mi_in120 (mi_calok_none _ _) 2 _ (2, [(0, .int a1), (1, .int 0), (2, .int 5)], [.int 0, .int a1], (0, 0), mi_G) (by rfl) ?_
        refine mi_sem_b mi_in120 (decide (a1 < 0)) false (mi_ltF (0) (by decide) (by omega)) 14 5 ([(0, .int a1), (1, .int 0), (2, .int 5)], [], (0, 0), mi_G) (by rfl) ?_
        refine mi_sem_steps mi_in120 (mi_calok_none _ _) 2 _ (7, [(0, .int a1), (1, .int 0), (2, .int 5)], [.int 5, .int a1], (0, 0), mi_G) (by rfl) ?_
        refine mi_sem_b mi_in120 (decide (5 < a1)) true (mi_ltT2 (5) (by decide) (by omega)) 14 10 ([(0, .int a1), (1, .int 0), (2, .int 5)], [], (0, 0), mi_G) (by rfl) ?_
        refine mi_sem_steps mi_in120 (mi_calok_none _ _) 1 _ (15, [(0, .int a1), (1, .int 0), (2, .int 5)], [.int 0], (0, 0), mi_G) (by rfl) ?_
        exact mi_sem_ret (cal := fun _ _ _ => none) mi_in120 (by rfl)
      refine mi_sem_call mi_in121 (i := (.invokestatic 74, 3, 120, 0, 9, 0, 152)) (by rfl) (by rfl) hM1590 (by decide) ⟨Nat.le_of_ble_eq_true rfl, Nat.le_of_ble_eq_true rfl⟩ ?_
      exact mi_sem_ret (cal := fun _ _ _ => none) mi_in121 (by rfl)
    refine mi_sem_call mi_in113 (i := (.invokestatic 70, 3, 121, 0, 9, 0, 157)) (by rfl) (by rfl) hM1591 (by decide) ⟨Nat.le_of_ble_eq_true rfl, Nat.le_of_ble_eq_true rfl⟩ ?_
    refine mi_sem_steps mi_in113 (mi_calok_none _ _) 2 _ (24, [(0, .ref 0), (1, .int a1), (2, .int a2)], [.int (-1)], (0, 0), mi_G) (by rfl) ?_
    exact mi_sem_ret (cal := fun _ _ _ => none) mi_in113 (by rfl)
  · refine mi_met_of (y := 217) (q := (mi_h217, mi_c217)) rfl (by decide) (Nat.le_of_ble_eq_true rfl) ?_
    refine mi_sem_steps mi_in217 (mi_calok_none _ _) 1 _ (1, [(0, .ref 116), (1, .int a1), (2, .int a2)], [.int a1], (0, 0), mi_G) (by rfl) ?_
    have hM1593 : mi_Met mi_N0 2 mi_h133 [.int a1] mi_G (some (.int 0)) mi_G := by
      refine mi_met_of (y := 133) (q := (mi_h133, mi_c133)) rfl (by decide) (Nat.le_of_ble_eq_true rfl) ?_
      refine mi_sem_steps mi_in133 (mi_calok_none _ _) 3 _ (3, [(0, .int a1)], [.int 5, .int 0, .int a1], (0, 0), mi_G) (by rfl) ?_
      have hM1592 : mi_Met mi_N0 1 mi_h131 [.int a1, .int 0, .int 5] mi_G (some (.int 0)) mi_G := by
        refine mi_met_of (y := 131) (q := (mi_h131, mi_c131)) rfl (by decide) (Nat.le_of_ble_eq_true rfl) ?_
        refine mi_sem_steps mi_in131 (mi_calok_none _ _) 2 _ (2, [(0, .int a1), (1, .int 0), (2, .int 5)], [.int 0, .int a1], (0, 0), mi_G) (by rfl) ?_
        refine mi_sem_b mi_in131 (decide (a1 < 0)) false (mi_ltF (0) (by decide) (by omega)) 14 5 ([(0, .int a1), (1, .int 0), (2, .int 5)], [], (0, 0), mi_G) (by rfl) ?_
        refine mi_sem_steps mi_in131 (mi_calok_none _ _) 2 _ (7, [(0, .int a1), (1, .int 0), (2, .int 5)], [.int 5, .int a1], (0, 0), mi_G) (by rfl) ?_
        refine mi_sem_b mi_in131 (decide (5 < a1)) true (mi_ltT2 (5) (by decide) (by omega)) 14 10 ([(0, .int a1), (1, .int 0), (2, .int 5)], [], (0, 0), mi_G) (by rfl) ?_
        refine mi_sem_steps mi_in131 (mi_calok_none _ _) 1 _ (15, [(0, .int a1), (1, .int 0), (2, .int 5)], [.int 0], (0, 0), mi_G) (by rfl) ?_
        exact mi_sem_ret (cal := fun _ _ _ => none) mi_in131 (by rfl)
      refine mi_sem_call mi_in133 (i := (.invokestatic 119, 3, 131, 0, 9, 0, 379)) (by rfl) (by rfl) hM1592 (by decide) ⟨Nat.le_of_ble_eq_true rfl, Nat.le_of_ble_eq_true rfl⟩ ?_
      exact mi_sem_ret (cal := fun _ _ _ => none) mi_in133 (by rfl)
    refine mi_sem_call mi_in217 (i := (.invokestatic 127, 3, 133, 0, 9, 0, 382)) (by rfl) (by rfl) hM1593 (by decide) ⟨Nat.le_of_ble_eq_true rfl, Nat.le_of_ble_eq_true rfl⟩ ?_
    refine mi_sem_steps mi_in217 (mi_calok_none _ _) 2 _ (22, [(0, .ref 116), (1, .int a1), (2, .int a2)], [.int (-1)], (0, 0), mi_G) (by rfl) ?_
    exact mi_sem_ret (cal := fun _ _ _ => none) mi_in217 (by rfl)

set_option maxRecDepth 100000 in
set_option maxHeartbeats 4000000 in
theorem mp_keep (a1 : Int32) (a2 : Int32) : mi_P 113 217 [.int a1, .int a2] := by
  have b0 := Int32.toInt_lt (a1)
  have c0 := Int32.le_toInt (a1)
  have b1 := Int32.toInt_lt (a2)
  have c1 := Int32.le_toInt (a2)
  rcases Int.lt_or_le (a1).toInt 0 with _hh | _hh
  ·
    exact mp_keep_0 a1 a2 ⟨by omega, by omega⟩
  ·
    rcases Int.lt_or_le (a1).toInt 6 with _hh | _hh
    ·
      rcases Int.lt_or_le (a2).toInt (-1) with _hh | _hh
      ·
        exact mp_keep_1 a1 a2 ⟨by omega, by omega⟩ ⟨by omega, by omega⟩
      ·
        rcases Int.lt_or_le (a2).toInt 0 with _hh | _hh
        ·
          rcases Int.lt_or_le (a1).toInt 1 with _hh | _hh
          ·
            have e_a1 : a1 = 0 := Int32.toInt_inj.mp ((by omega : (a1).toInt = 0).trans (by decide))
            subst e_a1
            have e_a2 : a2 = (-1) := Int32.toInt_inj.mp ((by omega : (a2).toInt = -1).trans (by decide))
            subst e_a2
            exact mp_keep_2  
          ·
            rcases Int.lt_or_le (a1).toInt 2 with _hh | _hh
            ·
              have e_a1 : a1 = 1 := Int32.toInt_inj.mp ((by omega : (a1).toInt = 1).trans (by decide))
              subst e_a1
              have e_a2 : a2 = (-1) := Int32.toInt_inj.mp ((by omega : (a2).toInt = -1).trans (by decide))
              subst e_a2
              exact mp_keep_3  
            ·
              rcases Int.lt_or_le (a1).toInt 3 with _hh | _hh
              ·
                have e_a1 : a1 = 2 := Int32.toInt_inj.mp ((by omega : (a1).toInt = 2).trans (by decide))
                subst e_a1
                have e_a2 : a2 = (-1) := Int32.toInt_inj.mp ((by omega : (a2).toInt = -1).trans (by decide))
                subst e_a2
                exact mp_keep_4  
              ·
                rcases Int.lt_or_le (a1).toInt 4 with _hh | _hh
                ·
                  have e_a1 : a1 = 3 := Int32.toInt_inj.mp ((by omega : (a1).toInt = 3).trans (by decide))
                  subst e_a1
                  have e_a2 : a2 = (-1) := Int32.toInt_inj.mp ((by omega : (a2).toInt = -1).trans (by decide))
                  subst e_a2
                  exact mp_keep_5  
                ·
                  rcases Int.lt_or_le (a1).toInt 5 with _hh | _hh
                  ·
                    have e_a1 : a1 = 4 := Int32.toInt_inj.mp ((by omega : (a1).toInt = 4).trans (by decide))
                    subst e_a1
                    have e_a2 : a2 = (-1) := Int32.toInt_inj.mp ((by omega : (a2).toInt = -1).trans (by decide))
                    subst e_a2
                    exact mp_keep_6  
                  ·
                    have e_a1 : a1 = 5 := Int32.toInt_inj.mp ((by omega : (a1).toInt = 5).trans (by decide))
                    subst e_a1
                    have e_a2 : a2 = (-1) := Int32.toInt_inj.mp ((by omega : (a2).toInt = -1).trans (by decide))
                    subst e_a2
                    exact mp_keep_7  
        ·
          exact mp_keep_8 a1 a2 ⟨by omega, by omega⟩ ⟨by omega, by omega⟩
    ·
      exact mp_keep_9 a1 a2 ⟨by omega, by omega⟩
