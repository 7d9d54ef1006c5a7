set_option maxRecDepth 100000 in
set_option maxHeartbeats 4000000 in
theorem mp_buyer_0 (a1 : Int32) (a2 : Int32) (r0 : (-2147483648) ≤ (a1).toInt ∧ (a1).toInt ≤ (-1)) : mi_P 80 135 [.int a1, .int a2] := by
  refine ⟨.int (-1), mi_G, mi_G, (mi_h80, mi_c80), (mi_h135, mi_c135), 3, 2, rfl, rfl, rfl, by decide, by decide, ?_, ?_⟩
  · refine mi_met_of (y := 80) (q := (mi_h80, mi_c80)) rfl (by decide) (Nat.le_of_ble_eq_true rfl) ?_
    refine mi_sem_steps mi_in80 (mi_calok_none _ _) 2 _ (2, [(0, .ref 0), (1, .int a1), (2, .int a2)], [.int a1, .int 1], (0, 0), mi_G) (by rfl) ?_
    have hM4 : mi_Met mi_N0 2 mi_h126 [.int 1, .int a1] mi_G (some (.int 0)) mi_G := by
      refine mi_met_of (y := 126) (q := (mi_h126, mi_c126)) rfl (by decide) (Nat.le_of_ble_eq_true rfl) ?_
      refine mi_sem_steps mi_in126 (mi_calok_none _ _) 3 _ (4, [(0, .int 1), (1, .int a1)], [.int 6, .int 0, .int 1], (0, 0), mi_G) (by rfl) ?_
      have hM2 : mi_Met mi_N0 1 mi_h120 [.int 1, .int 0, .int 6] mi_G (some (.int 1)) mi_G := mi_fun_ok mi_N0 1 120 (mi_h120, mi_c120) _ _ _ _ rfl (mi_eR_ok (by decide +kernel))
      refine mi_sem_call mi_in126 (i := (.invokestatic 74, 3, 120, 0, 9, 0, 152)) (by rfl) (by rfl) hM2 (by decide) ⟨Nat.le_of_ble_eq_true rfl, Nat.le_of_ble_eq_true rfl⟩ ?_
      refine mi_sem_steps mi_in126 (mi_calok_none _ _) 8 _ (21, [(0, .int 1), (1, .int a1)], [.int 9, .int 0, .int a1], (0, 0), mi_G) (by rfl) ?_
      have hM3 : mi_Met mi_N0 1 mi_h120 [.int a1, .int 0, .int 9] mi_G (some (.int 0)) mi_G := by
        refine mi_met_of (y := 120) (q := (mi_h120, mi_c120)) rfl (by decide) (Nat.le_of_ble_eq_true rfl) ?_
        refine mi_sem_steps mi_in120 (mi_calok_none _ _) 2 _ (2, [(0, .int a1), (1, .int 0), (2, .int 9)], [.int 0, .int a1], (0, 0), mi_G) (by rfl) ?_
        refine mi_sem_b mi_in120 (decide (a1 < 0)) true (mi_ltT (0) (by decide) (by omega)) 14 5 ([(0, .int a1), (1, .int 0), (2, .int 9)], [], (0, 0), mi_G) (by rfl) ?_
        refine mi_sem_steps mi_in120 (mi_calok_none _ _) 1 _ (15, [(0, .int a1), (1, .int 0), (2, .int 9)], [.int 0], (0, 0), mi_G) (by rfl) ?_
        exact mi_sem_ret (cal := fun _ _ _ => none) mi_in120 (by rfl)
      refine mi_sem_call mi_in126 (i := (.invokestatic 74, 3, 120, 0, 9, 0, 152)) (by rfl) (by rfl) hM3 (by decide) ⟨Nat.le_of_ble_eq_true rfl, Nat.le_of_ble_eq_true rfl⟩ ?_
      refine mi_sem_steps mi_in126 (mi_calok_none _ _) 2 _ (32, [(0, .int 1), (1, .int a1)], [.int 0], (0, 0), mi_G) (by rfl) ?_
      exact mi_sem_ret (cal := fun _ _ _ => none) mi_in126 (by rfl)
    refine mi_sem_call mi_in80 (i := (.invokestatic 58, 3, 126, 0, 9, 0, 151)) (by rfl) (by rfl) hM4 (by decide) ⟨Nat.le_of_ble_eq_true rfl, Nat.le_of_ble_eq_true rfl⟩ ?_
    refine mi_sem_steps mi_in80 (mi_calok_none _ _) 2 _ (17, [(0, .ref 0), (1, .int a1), (2, .int a2)], [.int (-1)], (0, 0), mi_G) (by rfl) ?_
    exact mi_sem_ret (cal := fun _ _ _ => none) mi_in80 (by rfl)
  · refine mi_met_of (y := 135) (q := (mi_h135, mi_c135)) rfl (by decide) (Nat.le_of_ble_eq_true rfl) ?_
    refine mi_sem_steps mi_in135 (mi_calok_none _ _) 3 _ (4, [(0, .ref 116), (1, .int a1), (2, .int a2)], [.int 9, .int 0, .int a1], (0, 0), mi_G) (by rfl) ?_
    have hM5 : mi_Met mi_N0 1 mi_h131 [.int a1, .int 0, .int 9] mi_G (some (.int 0)) mi_G := by
      refine mi_met_of (y := 131) (q := (mi_h131, mi_c131)) rfl (by decide) (Nat.le_of_ble_eq_true rfl) ?_
      refine mi_sem_steps mi_in131 (mi_calok_none _ _) 2 _ (2, [(0, .int a1), (1, .int 0), (2, .int 9)], [.int 0, .int a1], (0, 0), mi_G) (by rfl) ?_
      refine mi_sem_b mi_in131 (decide (a1 < 0)) true (mi_ltT (0) (by decide) (by omega)) 14 5 ([(0, .int a1), (1, .int 0), (2, .int 9)], [], (0, 0), mi_G) (by rfl) ?_
      refine mi_sem_steps mi_in131 (mi_calok_none _ _) 1 _ (15, [(0, .int a1), (1, .int 0), (2, .int 9)], [.int 0], (0, 0), mi_G) (by rfl) ?_
      exact mi_sem_ret (cal := fun _ _ _ => none) mi_in131 (by rfl)
    refine mi_sem_call mi_in135 (i := (.invokestatic 119, 3, 131, 0, 9, 0, 379)) (by rfl) (by rfl) hM5 (by decide) ⟨Nat.le_of_ble_eq_true rfl, Nat.le_of_ble_eq_true rfl⟩ ?_
    refine mi_sem_steps mi_in135 (mi_calok_none _ _) 2 _ (21, [(0, .ref 116), (1, .int a1), (2, .int a2)], [.int (-1)], (0, 0), mi_G) (by rfl) ?_
    exact mi_sem_ret (cal := fun _ _ _ => none) mi_in135 (by rfl)

set_option maxRecDepth 100000 in
set_option maxHeartbeats 4000000 in
theorem mp_buyer_1 (a1 : Int32) (a2 : Int32) (r0 : 0 ≤ (a1).toInt ∧ (a1).toInt ≤ 9) (r1 : (-2147483648) ≤ (a2).toInt ∧ (a2).toInt ≤ (-1)) : mi_P 80 135 [.int a1, .int a2] := by
  refine ⟨.int (-1), mi_G, mi_G, (mi_h80, mi_c80), (mi_h135, mi_c135), 3, 2, rfl, rfl, rfl, by decide, by decide, ?_, ?_⟩
  · refine mi_met_of (y := 80) (q := (mi_h80, mi_c80)) rfl (by decide) (Nat.le_of_ble_eq_true rfl) ?_
    refine mi_sem_steps mi_in80 (mi_calok_none _ _) 2 _ (2, [(0, .ref 0), (1, .int a1), (2, .int a2)], [.int a1, .int 1], (0, 0), mi_G) (by rfl) ?_
    have hM13 : mi_Met mi_N0 2 mi_h126 [.int 1, .int a1] mi_G (some (.int 1)) mi_G := by
      refine mi_met_of (y := 126) (q := (mi_h126, mi_c126)) rfl (by decide) (Nat.le_of_ble_eq_true rfl) ?_
      refine mi_sem_steps mi_in126 (mi_calok_none _ _) 3 _ (4, [(0, .int 1), (1, .int a1)], [.int 6, .int 0, .int 1], (0, 0), mi_G) (by rfl) ?_
      have hM11 : mi_Met mi_N0 1 mi_h120 [.int 1, .int 0, .int 6] mi_G (some (.int 1)) mi_G := mi_fun_ok mi_N0 1 120 (mi_h120, mi_c120) _ _ _ _ rfl (mi_eR_ok (by decide +kernel))
      refine mi_sem_call mi_in126 (i := (.invokestatic 74, 3, 120, 0, 9, 0, 152)) (by rfl) (by rfl) hM11 (by decide) ⟨Nat.le_of_ble_eq_true rfl, Nat.le_of_ble_eq_true rfl⟩ ?_
      refine mi_sem_steps mi_in126 (mi_calok_none _ _) 8 _ (21, [(0, .int 1), (1, .int a1)], [.int 9, .int 0, .int a1], (0, 0), mi_G) (by rfl) ?_
      have hM12 : mi_Met mi_N0 1 mi_h120 [.int a1, .int 0, .int 9] mi_G (some (.int 1)) mi_G := by
        refine mi_met_of (y := 120) (q := (mi_h120, mi_c120)) rfl (by decide) (Nat.le_of_ble_eq_true rfl) ?_
        refine mi_sem_steps mi_in120 (mi_calok_none _ _) 2 _ (2, [(0, .int a1), (1, .int 0), (2, .int 9)], [.int 0, .int a1], (0, 0), mi_G) (by rfl) ?_
        refine mi_sem_b mi_in120 (decide (a1 < 0)) false (mi_ltF (0) (by decide) (by omega)) 14 5 ([(0, .int a1), (1, .int 0), (2, .int 9)], [], (0, 0), mi_G) (by rfl) ?_
        refine mi_sem_steps mi_in120 (mi_calok_none _ _) 2 _ (7, [(0, .int a1), (1, .int 0), (2, .int 9)], [.int 9, .int a1], (0, 0), mi_G) (by rfl) ?_
        refine mi_sem_b mi_in120 (decide (9 < a1)) false (mi_ltF2 (9) (by decide) (by omega)) 14 10 ([(0, .int a1), (1, .int 0), (2, .int 9)], [], (0, 0), mi_G) (by rfl) ?_
        refine mi_sem_steps mi_in120 (mi_calok_none _ _) 2 _ (15, [(0, .int a1), (1, .int 0), (2, .int 9)], [.int 1], (0, 0), mi_G) (by rfl) ?_
        exact mi_sem_ret (cal := fun _ _ _ => none) mi_in120 (by rfl)
      refine mi_sem_call mi_in126 (i := (.invokestatic 74, 3, 120, 0, 9, 0, 152)) (by rfl) (by rfl) hM12 (by decide) ⟨Nat.le_of_ble_eq_true rfl, Nat.le_of_ble_eq_true rfl⟩ ?_
      refine mi_sem_steps mi_in126 (mi_calok_none _ _) 3 _ (32, [(0, .int 1), (1, .int a1)], [.int 1], (0, 0), mi_G) (by rfl) ?_
      exact mi_sem_ret (cal := fun _ _ _ => none) mi_in126 (by rfl)
    refine mi_sem_call mi_in80 (i := (.invokestatic 58, 3, 126, 0, 9, 0, 151)) (by rfl) (by rfl) hM13 (by decide) ⟨Nat.le_of_ble_eq_true rfl, Nat.le_of_ble_eq_true rfl⟩ ?_
    refine mi_sem_steps mi_in80 (mi_calok_none _ _) 3 _ (10, [(0, .ref 0), (1, .int a1), (2, .int a2)], [.int a2, .int 2], (0, 0), mi_G) (by rfl) ?_
    have hM16 : mi_Met mi_N0 2 mi_h126 [.int 2, .int a2] mi_G (some (.int 0)) mi_G := by
      refine mi_met_of (y := 126) (q := (mi_h126, mi_c126)) rfl (by decide) (Nat.le_of_ble_eq_true rfl) ?_
      refine mi_sem_steps mi_in126 (mi_calok_none _ _) 3 _ (4, [(0, .int 2), (1, .int a2)], [.int 6, .int 0, .int 2], (0, 0), mi_G) (by rfl) ?_
      have hM14 : mi_Met mi_N0 1 mi_h120 [.int 2, .int 0, .int 6] mi_G (some (.int 1)) mi_G := mi_fun_ok mi_N0 1 120 (mi_h120, mi_c120) _ _ _ _ rfl (mi_eR_ok (by decide +kernel))
      refine mi_sem_call mi_in126 (i := (.invokestatic 74, 3, 120, 0, 9, 0, 152)) (by rfl) (by rfl) hM14 (by decide) ⟨Nat.le_of_ble_eq_true rfl, Nat.le_of_ble_eq_true rfl⟩ ?_
      refine mi_sem_steps mi_in126 (mi_calok_none _ _) 8 _ (21, [(0, .int 2), (1, .int a2)], [.int 9, .int 0, .int a2], (0, 0), mi_G) (by rfl) ?_
      have hM15 : mi_Met mi_N0 1 mi_h120 [.int a2, .int 0, .int 9] mi_G (some (.int 0)) mi_G := by
        refine mi_met_of (y := 120) (q := (mi_h120, mi_c120)) rfl (by decide) (Nat.le_of_ble_eq_true rfl) ?_
        refine mi_sem_steps mi_in120 (mi_calok_none _ _) 2 _ (2, [(0, .int a2), (1, .int 0), (2, .int 9)], [.int 0, .int a2], (0, 0), mi_G) (by rfl) ?_
        refine mi_sem_b mi_in120 (decide (a2 < 0)) true (mi_ltT (0) (by decide) (by omega)) 14 5 ([(0, .int a2), (1, .int 0), (2, .int 9)], [], (0, 0), mi_G) (by rfl) ?_
        refine mi_sem_steps mi_in120 (mi_calok_none _ _) 1 _ (15, [(0, .int a2), (1, .int 0), (2, .int 9)], [.int 0], (0, 0), mi_G) (by rfl) ?_
        exact mi_sem_ret (cal := fun _ _ _ => none) mi_in120 (by rfl)
      refine mi_sem_call mi_in126 (i := (.invokestatic 74, 3, 120, 0, 9, 0, 152)) (by rfl) (by rfl) hM15 (by decide) ⟨Nat.le_of_ble_eq_true rfl, Nat.le_of_ble_eq_true rfl⟩ ?_
      refine mi_sem_steps mi_in126 (mi_calok_none _ _) 2 _ (32, [(0, .int 2), (1, .int a2)], [.int 0], (0, 0), mi_G) (by rfl) ?_
      exact mi_sem_ret (cal := fun _ _ _ => none) mi_in126 (by rfl)
    refine mi_sem_call mi_in80 (i := (.invokestatic 58, 3, 126, 0, 9, 0, 151)) (by rfl) (by rfl) hM16 (by decide) ⟨Nat.le_of_ble_eq_true rfl, Nat.le_of_ble_eq_true rfl⟩ ?_
    refine mi_sem_steps mi_in80 (mi_calok_none _ _) 2 _ (17, [(0, .ref 0), (1, .int a1), (2, .int a2)], [.int (-1)], (0, 0), mi_G) (by rfl) ?_
    exact mi_sem_ret (cal := fun _ _ _ => none) mi_in80 (by rfl)
  · refine mi_met_of (y := 135) (q := (mi_h135, mi_c135)) rfl (by decide) (Nat.le_of_ble_eq_true rfl) ?_
    refine mi_sem_steps mi_in135 (mi_calok_none _ _) 3 _ (4, [(0, .ref 116), (1, .int a1), (2, .int a2)], [.int 9, .int 0, .int a1], (0, 0), mi_G) (by rfl) ?_
    have hM17 : mi_Met mi_N0 1 mi_h131 [.int a1, .int 0, .int 9] mi_G (some (.int 1)) mi_G := by
      refine mi_met_of (y := 131) (q := (mi_h131, mi_c131)) rfl (by decide) (Nat.le_of_ble_eq_true rfl) ?_
      refine mi_sem_steps mi_in131 (mi_calok_none _ _) 2 _ (2, [(0, .int a1), (1, .int 0), (2, .int 9)], [.int 0, .int a1], (0, 0), mi_G) (by rfl) ?_
      refine mi_sem_b mi_in131 (decide (a1 < 0)) false (mi_ltF (0) (by decide) (by omega)) 14 5 ([(0, .int a1), (1, .int 0), (2, .int 9)], [], (0, 0), mi_G) (by rfl) ?_
      refine mi_sem_steps mi_in131 (mi_calok_none _ _) 2 _ (7, [(0, .int a1), (1, .int 0), (2, .int 9)], [.int 9, .int a1], (0, 0), mi_G) (by rfl) ?_
      refine mi_sem_b mi_in131 (decide (9 < a1)) false (mi_ltF2 (9) (by decide) (by omega)) 14 10 ([(0, .int a1), (1, .int 0), (2, .int 9)], [], (0, 0), mi_G) (by rfl) ?_
      refine mi_sem_steps mi_in131 (mi_calok_none _ _) 2 _ (15, [(0, .int a1), (1, .int 0), (2, .int 9)], [.int 1], (0, 0), mi_G) (by rfl) ?_
      exact mi_sem_ret (cal := fun _ _ _ => none) mi_in131 (by rfl)
    refine mi_sem_call mi_in135 (i := (.invokestatic 119, 3, 131, 0, 9, 0, 379)) (by rfl) (by rfl) hM17 (by decide) ⟨Nat.le_of_ble_eq_true rfl, Nat.le_of_ble_eq_true rfl⟩ ?_
    refine mi_sem_steps mi_in135 (mi_calok_none _ _) 4 _ (14, [(0, .ref 116), (1, .int a1), (2, .int a2)], [.int 9, .int 0, .int a2], (0, 0), mi_G) (by rfl) ?_
    have hM18 : mi_Met mi_N0 1 mi_h131 [.int a2, .int 0, .int 9] mi_G (some (.int 0)) mi_G := by
      refine mi_met_of (y := 131) (q := (mi_h131, mi_c131)) rfl (by decide) (Nat.le_of_ble_eq_true rfl) ?_
      refine mi_sem_steps mi_in131 (mi_calok_none _ _) 2 _ (2, [(0, .int a2), (1, .int 0), (2, .int 9)], [.int 0, .int a2], (0, 0), mi_G) (by rfl) ?_
      refine mi_sem_b mi_in131 (decide (a2 < 0)) true (mi_ltT (0) (by decide) (by omega)) 14 5 ([(0, .int a2), (1, .int 0), (2, .int 9)], [], (0, 0), mi_G) (by rfl) ?_
      refine mi_sem_steps mi_in131 (mi_calok_none _ _) 1 _ (15, [(0, .int a2), (1, .int 0), (2, .int 9)], [.int 0], (0, 0), mi_G) (by rfl) ?_
      exact mi_sem_ret (cal := fun _ _ _ => none) mi_in131 (by rfl)
    refine mi_sem_call mi_in135 (i := (.invokestatic 119, 3, 131, 0, 9, 0, 379)) (by rfl) (by rfl) hM18 (by decide) ⟨Nat.le_of_ble_eq_true rfl, Nat.le_of_ble_eq_true rfl⟩ ?_
    refine mi_sem_steps mi_in135 (mi_calok_none _ _) 2 _ (21, [(0, .ref 116), (1, .int a1), (2, .int a2)], [.int (-1)], (0, 0), mi_G) (by rfl) ?_
    exact mi_sem_ret (cal := fun _ _ _ => none) mi_in135 (by rfl)

set_option maxRecDepth 100000 in
set_option maxHeartbeats 4000000 in
theorem mp_buyer_2 (a1 : Int32) (a2 : Int32) (r0 : 0 ≤ (a1).toInt ∧ (a1).toInt ≤ 9) (r1 : 0 ≤ (a2).toInt ∧ (a2).toInt ≤ 9) : mi_P 80 135 [.int a1, .int a2] := by
  refine ⟨.int 0, ((((((mi_G.set 2 (.inr (.int, .inl [100, 0, 0, 0, 0, 0, 0, 0]))).set 3 (.inr (.int, .inl [a1, 0, 0, 0, 0, 0, 0, 0]))).set 4 (.inr (.int, .inl [a2, 0, 0, 0, 0, 0, 0, 0]))).set 5 (.inr (.int, .inl (List.replicate 8 0)))).set 6 (.inr (.int, .inl (List.replicate 8 0)))).set 1 (.inl (4, [.int 1, .ref 2, .ref 3, .ref 4, .ref 5, .ref 6, .int 3, .int 1, .int 0, .int 0, .ref 7, .ref 10, .ref 14, .ref 15, .int 8, .int 0, .int 0, .ref 24]))), ((((((((((mi_G.set 2 (.inr (.int, .inl [100, 0, 0, 0, 0, 0, 0, 0]))).set 3 (.inr (.int, .inl [a1, 0, 0, 0, 0, 0, 0, 0]))).set 4 (.inr (.int, .inl [a2, 0, 0, 0, 0, 0, 0, 0]))).set 5 (.inr (.int, .inl (List.replicate 8 0)))).set 6 (.inr (.int, .inl (List.replicate 8 0)))).set 1 (.inl (4, [.int 1, .ref 2, .ref 3, .ref 4, .ref 5, .ref 6, .int 3, .int 1, .int 0, .int 0, .ref 7, .ref 10, .ref 14, .ref 15, .int 8, .int 0, .int 0, .ref 24]))).set 118 (.inr (.int, .inl [100, 0, 0, 0, 0, 0, 0, 0, 0, 0, 0, 0, 0, 0, 0, 0, 0, 0, 0, 0, 0, 0, 0, 0, 0, 0, 0, 0, 0, 0, 0]))).set 117 (.inr (.int, .inl [a1, 0, 0, 0, 0, 0, 0, 0, 0, 0, 0, 0, 0, 0, 0, 0, 0, 0, 0, 0, 0, 0, 0, 0]))).set 117 (.inr (.int, .inl [a1, 0, 0, 0, 0, 0, 0, 0, a2, 0, 0, 0, 0, 0, 0, 0, 0, 0, 0, 0, 0, 0, 0, 0]))).set 116 (.inl (9, [.int 1, .ref 117, .int 3, .int 1, .ref 118, .int 0, .ref 119, .int 0, .int 0, .ref 120, .ref 121, .ref 122, .ref 123, .int 0, .int 0, .int 0, .int 0, .ref 124, .ref 125, .ref 126, .ref 127, .ref 128, .ref 129, .ref 130, .int 0, .int 0, .ref 131, .ref 132, .int 0, .int 0, .ref 133, .int 0, .ref 134, .int 0, .ref 135, .ref 136, .ref 137, .ref 138, .ref 139, .ref 140, .int 0, .int 0, .int 0, .int 0, .ref 141, .int 0, .ref 142, .ref 143, .ref 144, .ref 145, .ref 146, .ref 147, .int 0, .ref 148]))), (mi_h80, mi_c80), (mi_h135, mi_c135), 3, 2, rfl, rfl, rfl, by decide, by decide, ?_, ?_⟩
  · refine mi_met_of (y := 80) (q := (mi_h80, mi_c80)) rfl (by decide) (Nat.le_of_ble_eq_true rfl) ?_
    refine mi_sem_steps mi_in80 (mi_calok_none _ _) 2 _ (2, [(0, .ref 0), (1, .int a1), (2, .int a2)], [.int a1, .int 1], (0, 0), mi_G) (by rfl) ?_
    have hM25 : mi_Met mi_N0 2 mi_h126 [.int 1, .int a1] mi_G (some (.int 1)) mi_G := by
      refine mi_met_of (y := 126) (q := (mi_h126, mi_c126)) rfl (by decide) (Nat.le_of_ble_eq_true rfl) ?_
      refine mi_sem_steps mi_in126 (mi_calok_none _ _) 3 _ (4, [(0, .int 1), (1, .int a1)], [.int 6, .int 0, .int 1], (0, 0), mi_G) (by rfl) ?_
      have hM23 : mi_Met mi_N0 1 mi_h120 [.int 1, .int 0, .int 6] mi_G (some (.int 1)) mi_G := mi_fun_ok mi_N0 1 120 (mi_h120, mi_c120) _ _ _ _ rfl (mi_eR_ok (by decide +kernel))
      refine mi_sem_call mi_in126 (i := (.invokestatic 74, 3, 120, 0, 9, 0, 152)) (by rfl) (by rfl) hM23 (by decide) ⟨Nat.le_of_ble_eq_true rfl, Nat.le_of_ble_eq_true rfl⟩ ?_
      refine mi_sem_steps mi_in126 (mi_calok_none _ _) 8 _ (21, [(0, .int 1), (1, .int a1)], [.int 9, .int 0, .int a1], (0, 0), mi_G) (by rfl) ?_
      have hM24 : mi_Met mi_N0 1 mi_h120 [.int a1, .int 0, .int 9] mi_G (some (.int 1)) mi_G := by
        refine mi_met_of (y := 120) (q := (mi_h120, mi_c120)) rfl (by decide) (Nat.le_of_ble_eq_true rfl) ?_
        refine mi_sem_steps mi_in120 (mi_calok_none _ _) 2 _ (2, [(0, .int a1), (1, .int 0), (2, .int 9)], [.int 0, .int a1], (0, 0), mi_G) (by rfl) ?_
        refine mi_sem_b mi_in120 (decide (a1 < 0)) false (mi_ltF (0) (by decide) (by omega)) 14 5 ([(0, .int a1), (1, .int 0), (2, .int 9)], [], (0, 0), mi_G) (by rfl) ?_
        refine mi_sem_steps mi_in120 (mi_calok_none _ _) 2 _ (7, [(0, .int a1), (1, .int 0), (2, .int 9)], [.int 9, .int a1], (0, 0), mi_G) (by rfl) ?_
        refine mi_sem_b mi_in120 (decide (9 < a1)) false (mi_ltF2 (9) (by decide) (by omega)) 14 10 ([(0, .int a1), (1, .int 0), (2, .int 9)], [], (0, 0), mi_G) (by rfl) ?_
        refine mi_sem_steps mi_in120 (mi_calok_none _ _) 2 _ (15, [(0, .int a1), (1, .int 0), (2, .int 9)], [.int 1], (0, 0), mi_G) (by rfl) ?_
        exact mi_sem_ret (cal := fun _ _ _ => none) mi_in120 (by rfl)
      refine mi_sem_call mi_in126 (i := (.invokestatic 74, 3, 120, 0, 9, 0, 152)) (by rfl) (by rfl) hM24 (by decide) ⟨Nat.le_of_ble_eq_true rfl, Nat.le_of_ble_eq_true rfl⟩ ?_
      refine mi_sem_steps mi_in126 (mi_calok_none _ _) 3 _ (32, [(0, .int 1), (1, .int a1)], [.int 1], (0, 0), mi_G) (by rfl) ?_
      exact mi_sem_ret (cal := fun _ _ _ => none) mi_in126 (by rfl)
    refine mi_sem_call mi_in80 (i := (.invokestatic 58, 3, 126, 0, 9, 0, 151)) (by rfl) (by rfl) hM25 (by decide) ⟨Nat.le_of_ble_eq_true rfl, Nat.le_of_ble_eq_true rfl⟩ ?_
    refine mi_sem_steps mi_in80 (mi_calok_none _ _) 3 _ (10, [(0, .ref 0), (1, .int a1), (2, .int a2)], [.int a2, .int 2], (0, 0), mi_G) (by rfl) ?_
    have hM28 : mi_Met mi_N0 2 mi_h126 [.int 2, .int a2] mi_G (some (.int 1)) mi_G := by
      refine mi_met_of (y := 126) (q := (mi_h126, mi_c126)) rfl (by decide) (Nat.le_of_ble_eq_true rfl) ?_
      refine mi_sem_steps mi_in126 (mi_calok_none _ _) 3 _ (4, [(0, .int 2), (1, .int a2)], [.int 6, .int 0, .int 2], (0, 0), mi_G) (by rfl) ?_
      have hM26 : mi_Met mi_N0 1 mi_h120 [.int 2, .int 0, .int 6] mi_G (some (.int 1)) mi_G := mi_fun_ok mi_N0 1 120 (mi_h120, mi_c120) _ _ _ _ rfl (mi_eR_ok (by decide +kernel))
      refine mi_sem_call mi_in126 (i := (.invokestatic 74, 3, 120, 0, 9, 0, 152)) (by rfl) (by rfl) hM26 (by decide) ⟨Nat.le_of_ble_eq_true rfl, Nat.le_of_ble_eq_true rfl⟩ ?_
      refine mi_sem_steps mi_in126 (mi_calok_none _ _) 8 _ (21, [(0, .int 2), (1, .int a2)], [.int 9, .int 0, .int a2], (0, 0), mi_G) (by rfl) ?_
      have hM27 : mi_Met mi_N0 1 mi_h120 [.int a2, .int 0, .int 9] mi_G (some (.int 1)) mi_G := by
        refine mi_met_of (y := 120) (q := (mi_h120, mi_c120)) rfl (by decide) (Nat.le_of_ble_eq_true rfl) ?_
        refine mi_sem_steps mi_in120 (mi_calok_none _ _) 2 _ (2, [(0, .int a2), (1, .int 0), (2, .int 9)], [.int 0, .int a2], (0, 0), mi_G) (by rfl) ?_
        refine mi_sem_b mi_in120 (decide (a2 < 0)) false (mi_ltF (0) (by decide) (by omega)) 14 5 ([(0, .int a2), (1, .int 0), (2, .int 9)], [], (0, 0), mi_G) (by rfl) ?_
        refine mi_sem_steps mi_in120 (mi_calok_none _ _) 2 _ (7, [(0, .int a2), (1, .int 0), (2, .int 9)], [.int 9, .int a2], (0, 0), mi_G) (by rfl) ?_
        refine mi_sem_b mi_in120 (decide (9 < a2)) false (mi_ltF2 (9) (by decide) (by omega)) 14 10 ([(0, .int a2), (1, .int 0), (2, .int 9)], [], (0, 0), mi_G) (by rfl) ?_
        refine mi_sem_steps mi_in120 (mi_calok_none _ _) 2 _ (15, [(0, .int a2), (1, .int 0), (2, .int 9)], [.int 1], (0, 0), mi_G) (by rfl) ?_
        exact mi_sem_ret (cal := fun _ _ _ => none) mi_in120 (by rfl)
      refine mi_sem_call mi_in126 (i := (.invokestatic 74, 3, 120, 0, 9, 0, 152)) (by rfl) (by rfl) hM27 (by decide) ⟨Nat.le_of_ble_eq_true rfl, Nat.le_of_ble_eq_true rfl⟩ ?_
      refine mi_sem_steps mi_in126 (mi_calok_none _ _) 3 _ (32, [(0, .int 2), (1, .int a2)], [.int 1], (0, 0), mi_G) (by rfl) ?_
      exact mi_sem_ret (cal := fun _ _ _ => none) mi_in126 (by rfl)
    refine mi_sem_call mi_in80 (i := (.invokestatic 58, 3, 126, 0, 9, 0, 151)) (by rfl) (by rfl) hM28 (by decide) ⟨Nat.le_of_ble_eq_true rfl, Nat.le_of_ble_eq_true rfl⟩ ?_
    refine mi_sem_steps mi_in80 (mi_calok_none _ _) 11 _ (43, [(0, .ref 0), (1, .int a1), (2, .int a2)], [.int a2, .int a1, .int 100, .ref 1], (0, 0), mi_G) (by rfl) ?_
    have hM29 : mi_Met mi_N0 1 mi_h25 [.ref 1, .int 100, .int a1, .int a2] mi_G (some (.int 0)) ((((((mi_G.set 2 (.inr (.int, .inl [100, 0, 0, 0, 0, 0, 0, 0]))).set 3 (.inr (.int, .inl [a1, 0, 0, 0, 0, 0, 0, 0]))).set 4 (.inr (.int, .inl [a2, 0, 0, 0, 0, 0, 0, 0]))).set 5 (.inr (.int, .inl (List.replicate 8 0)))).set 6 (.inr (.int, .inl (List.replicate 8 0)))).set 1 (.inl (4, [.int 1, .ref 2, .ref 3, .ref 4, .ref 5, .ref 6, .int 3, .int 1, .int 0, .int 0, .ref 7, .ref 10, .ref 14, .ref 15, .int 8, .int 0, .int 0, .ref 24]))) := by
      refine mi_met_of (y := 25) (q := (mi_h25, mi_c25)) rfl (by decide) (Nat.le_of_ble_eq_true rfl) ?_
      refine mi_sem_steps mi_in25 (mi_calok_none _ _) 44 _ (78, [(0, .ref 1), (1, .int 100), (2, .int a1), (3, .int a2)], [.int 0], (0, 0), ((((((mi_G.set 2 (.inr (.int, .inl [100, 0, 0, 0, 0, 0, 0, 0]))).set 3 (.inr (.int, .inl [a1, 0, 0, 0, 0, 0, 0, 0]))).set 4 (.inr (.int, .inl [a2, 0, 0, 0, 0, 0, 0, 0]))).set 5 (.inr (.int, .inl (List.replicate 8 0)))).set 6 (.inr (.int, .inl (List.replicate 8 0)))).set 1 (.inl (4, [.int 1, .ref 2, .ref 3, .ref 4, .ref 5, .ref 6, .int 3, .int 1, .int 0, .int 0, .ref 7, .ref 10, .ref 14, .ref 15, .int 8, .int 0, .int 0, .ref 24])))) (by rfl) ?_
      exact mi_sem_ret (cal := fun _ _ _ => none) mi_in25 (by rfl)
    refine mi_sem_call mi_in80 (i := (.invokevirtual 66, 3, 25, 0, 9, 0, 155)) (by rfl) (by rfl) hM29 (by decide) ⟨Nat.le_of_ble_eq_true rfl, Nat.le_of_ble_eq_true rfl⟩ ?_
    exact mi_sem_ret (cal := fun _ _ _ => none) mi_in80 (by rfl)
  · refine mi_met_of (y := 135) (q := (mi_h135, mi_c135)) rfl (by decide) (Nat.le_of_ble_eq_true rfl) ?_
    refine mi_sem_steps mi_in135 (mi_calok_none _ _) 3 _ (4, [(0, .ref 116), (1, .int a1), (2, .int a2)], [.int 9, .int 0, .int a1], (0, 0), ((((((mi_G.set 2 (.inr (.int, .inl [100, 0, 0, 0, 0, 0, 0, 0]))).set 3 (.inr (.int, .inl [a1, 0, 0, 0, 0, 0, 0, 0]))).set 4 (.inr (.int, .inl [a2, 0, 0, 0, 0, 0, 0, 0]))).set 5 (.inr (.int, .inl (List.replicate 8 0)))).set 6 (.inr (.int, .inl (List.replicate 8 0)))).set 1 (.inl (4, [.int 1, .ref 2, .ref 3, .ref 4, .ref 5, .ref 6, .int 3, .int 1, .int 0, .int 0, .ref 7, .ref 10, .ref 14, .ref 15, .int 8, .int 0, .int 0, .ref 24])))) (by rfl) ?_
    have hM30 : mi_Met mi_N0 1 mi_h131 [.int a1, .int 0, .int 9] ((((((mi_G.set 2 (.inr (.int, .inl [100, 0, 0, 0, 0, 0, 0, 0]))).set 3 (.inr (.int, .inl [a1, 0, 0, 0, 0, 0, 0, 0]))).set 4 (.inr (.int, .inl [a2, 0, 0, 0, 0, 0, 0, 0]))).set 5 (.inr (.int, .inl (List.replicate 8 0)))).set 6 (.inr (.int, .inl (List.replicate 8 0)))).set 1 (.inl (4, [.int 1, .ref 2, .ref 3, .ref 4, .ref 5, .ref 6, .int 3, .int 1, .int 0, .int 0, .ref 7, .ref 10, .ref 14, .ref 15, .int 8, .int 0, .int 0, .ref 24]))) (some (.int 1)) ((((((mi_G.set 2 (.inr (.int, .inl [100, 0, 0, 0, 0, 0, 0, 0]))).set 3 (.inr (.int, .inl [a1, 0, 0, 0, 0, 0, 0, 0]))).set 4 (.inr (.int, .inl [a2, 0, 0, 0, 0, 0, 0, 0]))).set 5 (.inr (.int, .inl (List.replicate 8 0)))).set 6 (.inr (.int, .inl (List.replicate 8 0)))).set 1 (.inl (4, [.int 1, .ref 2, .ref 3, .ref 4, .ref 5, .ref 6, .int 3, .int 1, .int 0, .int 0, .ref 7, .ref 10, .ref 14, .ref 15, .int 8, .int 0, .int 0, .ref 24]))) := by
      refine mi_met_of (y := 131) (q := (mi_h131, mi_c131)) rfl (by decide) (Nat.le_of_ble_eq_true rfl) ?_
      refine mi_sem_steps mi_in131 (mi_calok_none _ _) 2 _ (2, [(0, .int a1), (1, .int 0), (2, .int 9)], [.int 0, .int a1], (0, 0), ((((((mi_G.set 2 (.inr (.int, .inl [100, 0, 0, 0, 0, 0, 0, 0]))).set 3 (.inr (.int, .inl [a1, 0, 0, 0, 0, 0, 0, 0]))).set 4 (.inr (.int, .inl [a2, 0, 0, 0, 0, 0, 0, 0]))).set 5 (.inr (.int, .inl (List.replicate 8 0)))).set 6 (.inr (.int, .inl (List.replicate 8 0)))).set 1 (.inl (4, [.int 1, .ref 2, .ref 3, .ref 4, .ref 5, .ref 6, .int 3, .int 1, .int 0, .int 0, .ref 7, .ref 10, .ref 14, .ref 15, .int 8, .int 0, .int 0, .ref 24])))) (by rfl) ?_
      refine mi_sem_b mi_in131 (decide (a1 < 0)) false (mi_ltF (0) (by decide) (by omega)) 14 5 ([(0, .int a1), (1, .int 0), (2, .int 9)], [], (0, 0), ((((((mi_G.set 2 (.inr (.int, .inl [100, 0, 0, 0, 0, 0, 0, 0]))).set 3 (.inr (.int, .inl [a1, 0, 0, 0, 0, 0, 0, 0]))).set 4 (.inr (.int, .inl [a2, 0, 0, 0, 0, 0, 0, 0]))).set 5 (.inr (.int, .inl (List.replicate 8 0)))).set 6 (.inr (.int, .inl (List.replicate 8 0)))).set 1 (.inl (4, [.int 1, .ref 2, .ref 3, .ref 4, .ref 5, .ref 6, .int 3, .int 1, .int 0, .int 0, .ref 7, .ref 10, .ref 14, .ref 15, .int 8, .int 0, .int 0, .ref 24])))) (by rfl) ?_
      refine mi_sem_steps mi_in131 (mi_calok_none _ _) 2 _ (7, [(0, .int a1), (1, .int 0), (2, .int 9)], [.int 9, .int a1], (0, 0), ((((((mi_G.set 2 (.inr (.int, .inl [100, 0, 0, 0, 0, 0, 0, 0]))).set 3 (.inr (.int, .inl [a1, 0, 0, 0, 0, 0, 0, 0]))).set 4 (.inr (.int, .inl [a2, 0, 0, 0, 0, 0, 0, 0]))).set 5 (.inr (.int, .inl (List.replicate 8 0)))).set 6 (.inr (.int, .inl (List.replicate 8 0)))).set 1 (.inl (4, [.int 1, .ref 2, .ref 3, .ref 4, .ref 5, .ref 6, .int 3, .int 1, .int 0, .int 0, .ref 7, .ref 10, .ref 14, .ref 15, .int 8, .int 0, .int 0, .ref 24])))) (by rfl) ?_
      refine mi_sem_b mi_in131 (decide (9 < a1)) false (mi_ltF2 (9) (by decide) (by omega)) 14 10 ([(0, .int a1), (1, .int 0), (2, .int 9)], [], (0, 0), ((((((mi_G.set 2 (.inr (.int, .inl [100, 0, 0, 0, 0, 0, 0, 0]))).set 3 (.inr (.int, .inl [a1, 0, 0, 0, 0, 0, 0, 0]))).set 4 (.inr (.int, .inl [a2, 0, 0, 0, 0, 0, 0, 0]))).set 5 (.inr (.int, .inl (List.replicate 8 0)))).set 6 (.inr (.int, .inl (List.replicate 8 0)))).set 1 (.inl (4, [.int 1, .ref 2, .ref 3, .ref 4, .ref 5, .ref 6, .int 3, .int 1, .int 0, .int 0, .ref 7, .ref 10, .ref 14, .ref 15, .int 8, .int 0, .int 0, .ref 24])))) (by rfl) ?_
      refine mi_sem_steps mi_in131 (mi_calok_none _ _) 2 _ (15, [(0, .int a1), (1, .int 0), (2, .int 9)], [.int 1], (0, 0), ((((((mi_G.set 2 (.inr (.int, .inl [100, 0, 0, 0, 0, 0, 0, 0]))).set 3 (.inr (.int, .inl [a1, 0, 0, 0, 0, 0, 0, 0]))).set 4 (.inr (.int, .inl [a2, 0, 0, 0, 0, 0, 0, 0]))).set 5 (.inr (.int, .inl (List.replicate 8 0)))).set 6 (.inr (.int, .inl (List.replicate 8 0)))).set 1 (.inl (4, [.int 1, .ref 2, .ref 3, .ref 4, .ref 5, .ref 6, .int 3, .int 1, .int 0, .int 0, .ref 7, .ref 10, .ref 14, .ref 15, .int 8, .int 0, .int 0, .ref 24])))) (by rfl) ?_
      exact mi_sem_ret (cal := fun _ _ _ => none) mi_in131 (by rfl)
    refine mi_sem_call mi_in135 (i := (.invokestatic 119, 3, 131, 0, 9, 0, 379)) (by rfl) (by rfl) hM30 (by decide) ⟨Nat.le_of_ble_eq_true rfl, Nat.le_of_ble_eq_true rfl⟩ ?_
    refine mi_sem_steps mi_in135 (mi_calok_none _ _) 4 _ (14, [(0, .ref 116), (1, .int a1), (2, .int a2)], [.int 9, .int 0, .int a2], (0, 0), ((((((mi_G.set 2 (.inr (.int, .inl [100, 0, 0, 0, 0, 0, 0, 0]))).set 3 (.inr (.int, .inl [a1, 0, 0, 0, 0, 0, 0, 0]))).set 4 (.inr (.int, .inl [a2, 0, 0, 0, 0, 0, 0, 0]))).set 5 (.inr (.int, .inl (List.replicate 8 0)))).set 6 (.inr (.int, .inl (List.replicate 8 0)))).set 1 (.inl (4, [.int 1, .ref 2, .ref 3, .ref 4, .ref 5, .ref 6, .int 3, .int 1, .int 0, .int 0, .ref 7, .ref 10, .ref 14, .ref 15, .int 8, .int 0, .int 0, .ref 24])))) (by rfl) ?_
    have hM31 : mi_Met mi_N0 1 mi_h131 [.int a2, .int 0, .int 9] ((((((mi_G.set 2 (.inr (.int, .inl [100, 0, 0, 0, 0, 0, 0, 0]))).set 3 (.inr (.int, .inl [a1, 0, 0, 0, 0, 0, 0, 0]))).set 4 (.inr (.int, .inl [a2, 0, 0, 0, 0, 0, 0, 0]))).set 5 (.inr (.int, .inl (List.replicate 8 0)))).set 6 (.inr (.int, .inl (List.replicate 8 0)))).set 1 (.inl (4, [.int 1, .ref 2, .ref 3, .ref 4, .ref 5, .ref 6, .int 3, .int 1, .int 0, .int 0, .ref 7, .ref 10, .ref 14, .ref 15, .int 8, .int 0, .int 0, .ref 24]))) (some (.int 1)) ((((((mi_G.set 2 (.inr (.int, .inl [100, 0, 0, 0, 0, 0, 0, 0]))).set 3 (.inr (.int, .inl [a1, 0, 0, 0, 0, 0, 0, 0]))).set 4 (.inr (.int, .inl [a2, 0, 0, 0, 0, 0, 0, 0]))).set 5 (.inr (.int, .inl (List.replicate 8 0)))).set 6 (.inr (.int, .inl (List.replicate 8 0)))).set 1 (.inl (4, [.int 1, .ref 2, .ref 3, .ref 4, .ref 5, .ref 6, .int 3, .int 1, .int 0, .int 0, .ref 7, .ref 10, .ref 14, .ref 15, .int 8, .int 0, .int 0, .ref 24]))) := by
      refine mi_met_of (y := 131) (q := (mi_h131, mi_c131)) rfl (by decide) (Nat.le_of_ble_eq_true rfl) ?_
      refine mi_sem_steps mi_in131 (mi_calok_none _ _) 2 _ (2, [(0, .int a2), (1, .int 0), (2, .int 9)], [.int 0, .int a2], (0, 0), ((((((mi_G.set 2 (.inr (.int, .inl [100, 0, 0, 0, 0, 0, 0, 0]))).set 3 (.inr (.int, .inl [a1, 0, 0, 0, 0, 0, 0, 0]))).set 4 (.inr (.int, .inl [a2, 0, 0, 0, 0, 0, 0, 0]))).set 5 (.inr (.int, .inl (List.replicate 8 0)))).set 6 (.inr (.int, .inl (List.replicate 8 0)))).set 1 (.inl (4, [.int 1, .ref 2, .ref 3, .ref 4, .ref 5, .ref 6, .int 3, .int 1, .int 0, .int 0, .ref 7, .ref 10, .ref 14, .ref 15, .int 8, .int 0, .int 0, .ref 24])))) (by rfl) ?_
      refine mi_sem_b mi_in131 (decide (a2 < 0)) false (mi_ltF (0) (by decide) (by omega)) 14 5 ([(0, .int a2), (1, .int 0), (2, .int 9)], [], (0, 0), ((((((mi_G.set 2 (.inr (.int, .inl [100, 0, 0, 0, 0, 0, 0, 0]))).set 3 (.inr (.int, .inl [a1, 0, 0, 0, 0, 0, 0, 0]))).set 4 (.inr (.int, .inl [a2, 0, 0, 0, 0, 0, 0, 0]))).set 5 (.inr (.int, .inl (List.replicate 8 0)))).set 6 (.inr (.int, .inl (List.replicate 8 0)))).set 1 (.inl (4, [.int 1, .ref 2, .ref 3, .ref 4, .ref 5, .ref 6, .int 3, .int 1, .int 0, .int 0, .ref 7, .ref 10, .ref 14, .ref 15, .int 8, .int 0, .int 0, .ref 24])))) (by rfl) ?_
      refine mi_sem_steps mi_in131 (mi_calok_none _ _) 2 _ (7, [(0, .int a2), (1, .int 0), (2, .int 9)], [.int 9, .int a2], (0, 0), ((((((mi_G.set 2 (.inr (.int, .inl [100, 0, 0, 0, 0, 0, 0, 0]))).set 3 (.inr (.int, .inl [a1, 0, 0, 0, 0, 0, 0, 0]))).set 4 (.inr (.int, .inl [a2, 0, 0, 0, 0, 0, 0, 0]))).set 5 (.inr (.int, .inl (List.replicate 8 0)))).set 6 (.inr (.int, .inl (List.replicate 8 0)))).set 1 (.inl (4, [.int 1, .ref 2, .ref 3, .ref 4, .ref 5, .ref 6, .int 3, .int 1, .int 0, .int 0, .ref 7, .ref 10, .ref 14, .ref 15, .int 8, .int 0, .int 0, .ref 24])))) (by rfl) ?_
      refine mi_sem_b mi_in131 (decide (9 < a2)) false (mi_ltF2 (9) (by decide) (by omega)) 14 10 ([(0, .int a2), (1, .int 0), (2, .int 9)], [], (0, 0), ((((((mi_G.set 2 (.inr (.int, .inl [100, 0, 0, 0, 0, 0, 0, 0]))).set 3 (.inr (.int, .inl [a1, 0, 0, 0, 0, 0, 0, 0]))).set 4 (.inr (.int, .inl [a2, 0, 0, 0, 0, 0, 0, 0]))).set 5 (.inr (.int, .inl (List.replicate 8 0)))).set 6 (.inr (.int, .inl (List.replicate 8 0)))).set 1 (.inl (4, [.int 1, .ref 2, .ref 3, .ref 4, .ref 5, .ref 6, .int 3, .int 1, .int 0, .int 0, .ref 7, .ref 10, .ref 14, .ref 15, .int 8, .int 0, .int 0, .ref 24])))) (by rfl) ?_
      refine mi_sem_steps mi_in131 (mi_calok_none _ _) 2 _ (15, [(0, .int a2), (1, .int 0), (2, .int 9)], [.int 1], (0, 0), ((((((mi_G.set 2 (.inr (.int, .inl [100, 0, 0, 0, 0, 0, 0, 0]))).set 3 (.inr (.int, .inl [a1, 0, 0, 0, 0, 0, 0, 0]))).set 4 (.inr (.int, .inl [a2, 0, 0, 0, 0, 0, 0, 0]))).set 5 (.inr (.int, .inl (List.replicate 8 0)))).set 6 (.inr (.int, .inl (List.replicate 8 0)))).set 1 (.inl (4, [.int 1, .ref 2, .ref 3, .ref 4, .ref 5, .ref 6, .int 3, .int 1, .int 0, .int 0, .ref 7, .ref 10, .ref 14, .ref 15, .int 8, .int 0, .int 0, .ref 24])))) (by rfl) ?_
      exact mi_sem_ret (cal := fun _ _ _ => none) mi_in131 (by rfl)
    refine mi_sem_call mi_in135 (i := (.invokestatic 119, 3, 131, 0, 9, 0, 379)) (by rfl) (by rfl) hM31 (by decide) ⟨Nat.le_of_ble_eq_true rfl, Nat.le_of_ble_eq_true rfl⟩ ?_
    refine mi_sem_steps mi_in135 (mi_calok_none _ _) 9 _ (41, [(0, .ref 116), (1, .int a1), (2, .int a2)], [.int a2, .int a1, .int 100, .ref 116], (0, 0), ((((((mi_G.set 2 (.inr (.int, .inl [100, 0, 0, 0, 0, 0, 0, 0]))).set 3 (.inr (.int, .inl [a1, 0, 0, 0, 0, 0, 0, 0]))).set 4 (.inr (.int, .inl [a2, 0, 0, 0, 0, 0, 0, 0]))).set 5 (.inr (.int, .inl (List.replicate 8 0)))).set 6 (.inr (.int, .inl (List.replicate 8 0)))).set 1 (.inl (4, [.int 1, .ref 2, .ref 3, .ref 4, .ref 5, .ref 6, .int 3, .int 1, .int 0, .int 0, .ref 7, .ref 10, .ref 14, .ref 15, .int 8, .int 0, .int 0, .ref 24])))) (by rfl) ?_
    have hM32 : mi_Met mi_N0 1 mi_h134 [.ref 116, .int 100, .int a1, .int a2] ((((((mi_G.set 2 (.inr (.int, .inl [100, 0, 0, 0, 0, 0, 0, 0]))).set 3 (.inr (.int, .inl [a1, 0, 0, 0, 0, 0, 0, 0]))).set 4 (.inr (.int, .inl [a2, 0, 0, 0, 0, 0, 0, 0]))).set 5 (.inr (.int, .inl (List.replicate 8 0)))).set 6 (.inr (.int, .inl (List.replicate 8 0)))).set 1 (.inl (4, [.int 1, .ref 2, .ref 3, .ref 4, .ref 5, .ref 6, .int 3, .int 1, .int 0, .int 0, .ref 7, .ref 10, .ref 14, .ref 15, .int 8, .int 0, .int 0, .ref 24]))) (some (.int 0)) ((((((((((mi_G.set 2 (.inr (.int, .inl [100, 0, 0, 0, 0, 0, 0, 0]))).set 3 (.inr (.int, .inl [a1, 0, 0, 0, 0, 0, 0, 0]))).set 4 (.inr (.int, .inl [a2, 0, 0, 0, 0, 0, 0, 0]))).set 5 (.inr (.int, .inl (List.replicate 8 0)))).set 6 (.inr (.int, .inl (List.replicate 8 0)))).set 1 (.inl (4, [.int 1, .ref 2, .ref 3, .ref 4, .ref 5, .ref 6, .int 3, .int 1, .int 0, .int 0, .ref 7, .ref 10, .ref 14, .ref 15, .int 8, .int 0, .int 0, .ref 24]))).set 118 (.inr (.int, .inl [100, 0, 0, 0, 0, 0, 0, 0, 0, 0, 0, 0, 0, 0, 0, 0, 0, 0, 0, 0, 0, 0, 0, 0, 0, 0, 0, 0, 0, 0, 0]))).set 117 (.inr (.int, .inl [a1, 0, 0, 0, 0, 0, 0, 0, 0, 0, 0, 0, 0, 0, 0, 0, 0, 0, 0, 0, 0, 0, 0, 0]))).set 117 (.inr (.int, .inl [a1, 0, 0, 0, 0, 0, 0, 0, a2, 0, 0, 0, 0, 0, 0, 0, 0, 0, 0, 0, 0, 0, 0, 0]))).set 116 (.inl (9, [.int 1, .ref 117, .int 3, .int 1, .ref 118, .int 0, .ref 119, .int 0, .int 0, .ref 120, .ref 121, .ref 122, .ref 123, .int 0, .int 0, .int 0, .int 0, .ref 124, .ref 125, .ref 126, .ref 127, .ref 128, .ref 129, .ref 130, .int 0, .int 0, .ref 131, .ref 132, .int 0, .int 0, .ref 133, .int 0, .ref 134, .int 0, .ref 135, .ref 136, .ref 137, .ref 138, .ref 139, .ref 140, .int 0, .int 0, .int 0, .int 0, .ref 141, .int 0, .ref 142, .ref 143, .ref 144, .ref 145, .ref 146, .ref 147, .int 0, .ref 148]))) := by
      refine mi_met_of (y := 134) (q := (mi_h134, mi_c134)) rfl (by decide) (Nat.le_of_ble_eq_true rfl) ?_
      refine mi_sem_steps mi_in134 (mi_calok_none _ _) 27 _ (44, [(0, .ref 116), (1, .int 100), (2, .int a1), (3, .int a2)], [.int 0], (0, 0), ((((((((((mi_G.set 2 (.inr (.int, .inl [100, 0, 0, 0, 0, 0, 0, 0]))).set 3 (.inr (.int, .inl [a1, 0, 0, 0, 0, 0, 0, 0]))).set 4 (.inr (.int, .inl [a2, 0, 0, 0, 0, 0, 0, 0]))).set 5 (.inr (.int, .inl (List.replicate 8 0)))).set 6 (.inr (.int, .inl (List.replicate 8 0)))).set 1 (.inl (4, [.int 1, .ref 2, .ref 3, .ref 4, .ref 5, .ref 6, .int 3, .int 1, .int 0, .int 0, .ref 7, .ref 10, .ref 14, .ref 15, .int 8, .int 0, .int 0, .ref 24]))).set 118 (.inr (.int, .inl [100, 0, 0, 0, 0, 0, 0, 0, 0, 0, 0, 0, 0, 0, 0, 0, 0, 0, 0, 0, 0, 0, 0, 0, 0, 0, 0, 0, 0, 0, 0]))).set 117 (.inr (.int, .inl [a1, 0, 0, 0, 0, 0, 0, 0, 0, 0, 0, 0, 0, 0, 0, 0, 0, 0, 0, 0, 0, 0, 0, 0]))).set 117 (.inr (.int, .inl [a1, 0, 0, 0, 0, 0, 0, 0, a2, 0, 0, 0, 0, 0, 0, 0, 0, 0, 0, 0, 0, 0, 0, 0]))).set 116 (.inl (9, [.int 1, .ref 117, .int 3, .int 1, .ref 118, .int 0, .ref 119, .int 0, .int 0, .ref 120, .ref 121, .ref 122, .ref 123, .int 0, .int 0, .int 0, .int 0, .ref 124, .ref 125, .ref 126, .ref 127, .ref 128, .ref 129, .ref 130, .int 0, .int 0, .ref 131, .ref 132, .int 0, .int 0, .ref 133, .int 0, .ref 134, .int 0, .ref 135, .ref 136, .ref 137, .ref 138, .ref 139, .ref 140, .int 0, .int 0, .int 0, .int 0, .ref 141, .int 0, .ref 142, .ref 143, .ref 144, .ref 145, .ref 146, .ref 147, .int 0, .ref 148])))) (by rfl) ?_
      exact mi_sem_ret (cal := fun _ _ _ => none) mi_in134 (by rfl)
    refine mi_sem_call mi_in135 (i := (.invokevirtual 123, 3, 134, 0, 9, 0, 380)) (by rfl) (by rfl) hM32 (by decide) ⟨Nat.le_of_ble_eq_true rfl, Nat.le_of_ble_eq_true rfl⟩ ?_
    exact mi_sem_ret (cal := fun _ _ _ => none) mi_in135 (by rfl)

set_option maxRecDepth 100000 in
set_option maxHeartbeats 4000000 in
theorem mp_buyer_3 (a1 : Int32) (a2 : Int32) (r0 : 0 ≤ (a1).toInt ∧ (a1).toInt ≤ 9) (r1 : 10 ≤ (a2).toInt ∧ (a2).toInt ≤ 2147483647) : mi_P 80 135 [.int a1, .int a2] := by
  refine ⟨.int (-1), mi_G, mi_G, (mi_h80, mi_c80), (mi_h135, mi_c135), 3, 2, rfl, rfl, rfl, by decide, by decide, ?_, ?_⟩
  · refine mi_met_of (y := 80) (q := (mi_h80, mi_c80)) rfl (by decide) (Nat.le_of_ble_eq_true rfl) ?_
    refine mi_sem_steps mi_in80 (mi_calok_none _ _) 2 _ (2, [(0, .ref 0), (1, .int a1), (2, .int a2)], [.int a1, .int 1], (0, 0), mi_G) (by rfl) ?_
    have hM35 : mi_Met mi_N0 2 mi_h126 [.int 1, .int a1] mi_G (some (.int 1)) mi_G := by
      refine mi_met_of (y := 126) (q := (mi_h126, mi_c126)) rfl (by decide) (Nat.le_of_ble_eq_true rfl) ?_
      refine mi_sem_steps mi_in126 (mi_calok_none _ _) 3 _ (4, [(0, .int 1), (1, .int a1)], [.int 6, .int 0, .int 1], (0, 0), mi_G) (by rfl) ?_
      have hM33 : mi_Met mi_N0 1 mi_h120 [.int 1, .int 0, .int 6] mi_G (some (.int 1)) mi_G := mi_fun_ok mi_N0 1 120 (mi_h120, mi_c120) _ _ _ _ rfl (mi_eR_ok (by decide +kernel))
      refine mi_sem_call mi_in126 (i := (.invokestatic 74, 3, 120, 0, 9, 0, 152)) (by rfl) (by rfl) hM33 (by decide) ⟨Nat.le_of_ble_eq_true rfl, Nat.le_of_ble_eq_true rfl⟩ ?_
      refine mi_sem_steps mi_in126 (mi_calok_none _ _) 8 _ (21, [(0, .int 1), (1, .int a1)], [.int 9, .int 0, .int a1], (0, 0), mi_G) (by rfl) ?_
      have hM34 : mi_Met mi_N0 1 mi_h120 [.int a1, .int 0, .int 9] mi_G (some (.int 1)) mi_G := by
        refine mi_met_of (y := 120) (q := (mi_h120, mi_c120)) rfl (by decide) (Nat.le_of_ble_eq_true rfl) ?_
        refine mi_sem_steps mi_in120 (mi_calok_none _ _) 2 _ (2, [(0, .int a1), (1, .int 0), (2, .int 9)], [.int 0, .int a1], (0, 0), mi_G) (by rfl) ?_
        refine mi_sem_b mi_in120 (decide (a1 < 0)) false (mi_ltF (0) (by decide) (by omega)) 14 5 ([(0, .int a1), (1, .int 0), (2, .int 9)], [], (0, 0), mi_G) (by rfl) ?_
        refine mi_sem_steps mi_in120 (mi_calok_none _ _) 2 _ (7, [(0, .int a1), (1, .int 0), (2, .int 9)], [.int 9, .int a1], (0, 0), mi_G) (by rfl) ?_
        refine mi_sem_b mi_in120 (decide (9 < a1)) false (mi_ltF2 (9) (by decide) (by omega)) 14 10 ([(0, .int a1), (1, .int 0), (2, .int 9)], [], (0, 0), mi_G) (by rfl) ?_
        refine mi_sem_steps mi_in120 (mi_calok_none _ _) 2 _ (15, [(0, .int a1), (1, .int 0), (2, .int 9)], [.int 1], (0, 0), mi_G) (by rfl) ?_
        exact mi_sem_ret (cal := fun _ _ _ => none) mi_in120 (by rfl)
      refine mi_sem_call mi_in126 (i := (.invokestatic 74, 3, 120, 0, 9, 0, 152)) (by rfl) (by rfl) hM34 (by decide) ⟨Nat.le_of_ble_eq_true rfl, Nat.le_of_ble_eq_true rfl⟩ ?_
      refine mi_sem_steps mi_in126 (mi_calok_none _ _) 3 _ (32, [(0, .int 1), (1, .int a1)], [.int 1], (0, 0), mi_G) (by rfl) ?_
      exact mi_sem_ret (cal := fun _ _ _ => none) mi_in126 (by rfl)
    refine mi_sem_call mi_in80 (i := (.invokestatic 58, 3, 126, 0, 9, 0, 151)) (by rfl) (by rfl) hM35 (by decide) ⟨Nat.le_of_ble_eq_true rfl, Nat.le_of_ble_eq_true rfl⟩ ?_
    refine mi_sem_steps mi_in80 (mi_calok_none _ _) 3 _ (10, [(0, .ref 0), (1, .int a1), (2, .int a2)], [.int a2, .int 2], (0, 0), mi_G) (by rfl) ?_
    have hM38 : mi_Met mi_N0 2 mi_h126 [.int 2, .int a2] mi_G (some (.int 0)) mi_G := by
      refine mi_met_of (y := 126) (q := (mi_h126, mi_c126)) rfl (by decide) (Nat.le_of_ble_eq_true rfl) ?_
      refine mi_sem_steps mi_in126 (mi_calok_none _ _) 3 _ (4, [(0, .int 2), (1, .int a2)], [.int 6, .int 0, .int 2], (0, 0), mi_G) (by rfl) ?_
      have hM36 : mi_Met mi_N0 1 mi_h120 [.int 2, .int 0, .int 6] mi_G (some (.int 1)) mi_G := mi_fun_ok mi_N0 1 120 (mi_h120, mi_c120) _ _ _ _ rfl (mi_eR_ok (by decide +kernel))
      refine mi_sem_call mi_in126 (i := (.invokestatic 74, 3, 120, 0, 9, 0, 152)) (by rfl) (by rfl) hM36 (by decide) ⟨Nat.le_of_ble_eq_true rfl, Nat.le_of_ble_eq_true rfl⟩ ?_
      refine mi_sem_steps mi_in126 (mi_calok_none _ _) 8 _ (21, [(0, .int 2), (1, .int a2)], [.int 9, .int 0, .int a2], (0, 0), mi_G) (by rfl) ?_
      have hM37 : mi_Met mi_N0 1 mi_h120 [.int a2, .int 0, .int 9] mi_G (some (.int 0)) mi_G := by
        refine mi_met_of (y := 120) (q := (mi_h120, mi_c120)) rfl (by decide) (Nat.le_of_ble_eq_true rfl) ?_
        refine mi_sem_steps mi_in120 (mi_calok_none _ _) 2 _ (2, [(0, .int a2), (1, .int 0), (2, .int 9)], [.int 0, .int a2], (0, 0), mi_G) (by rfl) ?_
        refine mi_sem_b mi_in120 (decide (a2 < 0)) false (mi_ltF (0) (by decide) (by omega)) 14 5 ([(0, .int a2), (1, .int 0), (2, .int 9)], [], (0, 0), mi_G) (by rfl) ?_
        refine mi_sem_steps mi_in120 (mi_calok_none _ _) 2 _ (7, [(0, .int a2), (1, .int 0), (2, .int 9)], [.int 9, .int a2], (0, 0), mi_G) (by rfl) ?_
        refine mi_sem_b mi_in120 (decide (9 < a2)) true (mi_ltT2 (9) (by decide) (by omega)) 14 10 ([(0, .int a2), (1, .int 0), (2, .int 9)], [], (0, 0), mi_G) (by rfl) ?_
        refine mi_sem_steps mi_in120 (mi_calok_none _ _) 1 _ (15, [(0, .int a2), (1, .int 0), (2, .int 9)], [.int 0], (0, 0), mi_G) (by rfl) ?_
        exact mi_sem_ret (cal := fun _ _ _ => none) mi_in120 (by rfl)
      refine mi_sem_call mi_in126 (i := (.invokestatic 74, 3, 120, 0, 9, 0, 152)) (by rfl) (by rfl) hM37 (by decide) ⟨Nat.le_of_ble_eq_true rfl, Nat.le_of_ble_eq_true rfl⟩ ?_
      refine mi_sem_steps mi_in126 (mi_calok_none _ _) 2 _ (32, [(0, .int 2), (1, .int a2)], [.int 0], (0, 0), mi_G) (by rfl) ?_
      exact mi_sem_ret (cal := fun _ _ _ => none) mi_in126 (by rfl)
    refine mi_sem_call mi_in80 (i := (.invokestatic 58, 3, 126, 0, 9, 0, 151)) (by rfl) (by rfl) hM38 (by decide) ⟨Nat.le_of_ble_eq_true rfl, Nat.le_of_ble_eq_true rfl⟩ ?_
    refine mi_sem_steps mi_in80 (mi_calok_none _ _) 2 _ (17, [(0, .ref 0), (1, .int a1), (2, .int a2)], [.int (-1)], (0, 0), mi_G) (by rfl) ?_
    exact mi_sem_ret (cal := fun _ _ _ => none) mi_in80 (by rfl)
  · refine mi_met_of (y := 135) (q := (mi_h135, mi_c135)) rfl (by decide) (Nat.le_of_ble_eq_true rfl) ?_
    refine mi_sem_steps mi_in135 (mi_calok_none _ _) 3 _ (4, [(0, .ref 116), (1, .int a1), (2, .int a2)], [.int 9, .int 0, .int a1], (0, 0), mi_G) (by rfl) ?_
    have hM39 : mi_Met mi_N0 1 mi_h131 [.int a1, .int 0, .int 9] mi_G (some (.int 1)) mi_G := by
      refine mi_met_of (y := 131) (q := (mi_h131, mi_c131)) rfl (by decide) (Nat.le_of_ble_eq_true rfl) ?_
      refine mi_sem_steps mi_in131 (mi_calok_none _ _) 2 _ (2, [(0, .int a1), (1, .int 0), (2, .int 9)], [.int 0, .int a1], (0, 0), mi_G) (by rfl) ?_
      refine mi_sem_b mi_in131 (decide (a1 < 0)) false (mi_ltF (0) (by decide) (by omega)) 14 5 ([(0, .int a1), (1, .int 0), (2, .int 9)], [], (0, 0), mi_G) (by rfl) ?_
      refine mi_sem_steps mi_in131 (mi_calok_none _ _) 2 _ (7, [(0, .int a1), (1, .int 0), (2, .int 9)], [.int 9, .int a1], (0, 0), mi_G) (by rfl) ?_
      refine mi_sem_b mi_in131 (decide (9 < a1)) false (mi_ltF2 (9) (by decide) (by omega)) 14 10 ([(0, .int a1), (1, .int 0), (2, .int 9)], [], (0, 0), mi_G) (by rfl) ?_
      refine mi_sem_steps mi_in131 (mi_calok_none _ _) 2 _ (15, [(0, .int a1), (1, .int 0), (2, .int 9)], [.int 1], (0, 0), mi_G) (by rfl) ?_
      exact mi_sem_ret (cal := fun _ _ _ => none) mi_in131 (by rfl)
    refine mi_sem_call mi_in135 (i := (.invokestatic 119, 3, 131, 0, 9, 0, 379)) (by rfl) (by rfl) hM39 (by decide) ⟨Nat.le_of_ble_eq_true rfl, Nat.le_of_ble_eq_true rfl⟩ ?_
    refine mi_sem_steps mi_in135 (mi_calok_none _ _) 4 _ (14, [(0, .ref 116), (1, .int a1), (2, .int a2)], [.int 9, .int 0, .int a2], (0, 0), mi_G) (by rfl) ?_
    have hM40 : mi_Met mi_N0 1 mi_h131 [.int a2, .int 0, .int 9] mi_G (some (.int 0)) mi_G := by
      refine mi_met_of (y := 131) (q := (mi_h131, mi_c131)) rfl (by decide) (Nat.le_of_ble_eq_true rfl) ?_
      refine mi_sem_steps mi_in131 (mi_calok_none _ _) 2 _ (2, [(0, .int a2), (1, .int 0), (2, .int 9)], [.int 0, .int a2], (0, 0), mi_G) (by rfl) ?_
      refine mi_sem_b mi_in131 (decide (a2 < 0)) false (mi_ltF (0) (by decide) (by omega)) 14 5 ([(0, .int a2), (1, .int 0), (2, .int 9)], [], (0, 0), mi_G) (by rfl) ?_
      refine mi_sem_steps mi_in131 (mi_calok_none _ _) 2 _ (7, [(0, .int a2), (1, .int 0), (2, .int 9)], [.int 9, .int a2], (0, 0), mi_G) (by rfl) ?_
      refine mi_sem_b mi_in131 (decide (9 < a2)) true (mi_ltT2 (9) (by decide) (by omega)) 14 10 ([(0, .int a2), (1, .int 0), (2, .int 9)], [], (0, 0), mi_G) (by rfl) ?_
      refine mi_sem_steps mi_in131 (mi_calok_none _ _) 1 _ (15, [(0, .int a2), (1, .int 0), (2, .int 9)], [.int 0], (0, 0), mi_G) (by rfl) ?_
      exact mi_sem_ret (cal := fun _ _ _ => none) mi_in131 (by rfl)
    refine mi_sem_call mi_in135 (i := (.invokestatic 119, 3, 131, 0, 9, 0, 379)) (by rfl) (by rfl) hM40 (by decide) ⟨Nat.le_of_ble_eq_true rfl, Nat.le_of_ble_eq_true rfl⟩ ?_
    refine mi_sem_steps mi_in135 (mi_calok_none _ _) 2 _ (21, [(0, .ref 116), (1, .int a1), (2, .int a2)], [.int (-1)], (0, 0), mi_G) (by rfl) ?_
    exact mi_sem_ret (cal := fun _ _ _ => none) mi_in135 (by rfl)

set_option maxRecDepth 100000 in
set_option maxHeartbeats 4000000 in
theorem mp_buyer_4 (a1 : Int32) (a2 : Int32) (r0 : 10 ≤ (a1).toInt ∧ (a1).toInt ≤ 2147483647) : mi_P 80 135 [.int a1, .int a2] := by
  refine ⟨.int (-1), mi_G, mi_G, (mi_h80, mi_c80), (mi_h135, mi_c135), 3, 2, rfl, rfl, rfl, by decide, by decide, ?_, ?_⟩
  · refine mi_met_of (y := 80) (q := (mi_h80, mi_c80)) rfl (by decide) (Nat.le_of_ble_eq_true rfl) ?_
    refine mi_sem_steps mi_in80 (mi_calok_none _ _) 2 _ (2, [(0, .ref 0), (1, .int a1), (2, .int a2)], [.int a1, .int 1], (0, 0), mi_G) (by rfl) ?_
    have hM43 : mi_Met mi_N0 2 mi_h126 [.int 1, .int a1] mi_G (some (.int 0)) mi_G := by
      refine mi_met_of (y := 126) (q := (mi_h126, mi_c126)) rfl (by decide) (Nat.le_of_ble_eq_true rfl) ?_
      refine mi_sem_steps mi_in126 (mi_calok_none _ _) 3 _ (4, [(0, .int 1), (1, .int a1)], [.int 6, .int 0, .int 1], (0, 0), mi_G) (by rfl) ?_
      have hM41 : mi_Met mi_N0 1 mi_h120 [.int 1, .int 0, .int 6] mi_G (some (.int 1)) mi_G := mi_fun_ok mi_N0 1 120 (mi_h120, mi_c120) _ _ _ _ rfl (mi_eR_ok (by decide +kernel))
      refine mi_sem_call mi_in126 (i := (.invokestatic 74, 3, 120, 0, 9, 0, 152)) (by rfl) (by rfl) hM41 (by decide) ⟨Nat.le_of_ble_eq_true rfl, Nat.le_of_ble_eq_true rfl⟩ ?_
      refine mi_sem_steps mi_in126 (mi_calok_none _ _) 8 _ (21, [(0, .int 1), (1, .int a1)], [.int 9, .int 0, .int a1], (0, 0), mi_G) (by rfl) ?_
      have hM42 : mi_Met mi_N0 1 mi_h120 [.int a1, .int 0, .int 9] mi_G (some (.int 0)) mi_G := by
        refine mi_met_of (y := 120) (q := (mi_h120, mi_c120)) rfl (by decide) (Nat.le_of_ble_eq_true rfl) ?_
        refine mi_sem_steps mi_in120 (mi_calok_none _ _) 2 _ (2, [(0, .int a1), (1, .int 0), (2, .int 9)], [.int 0, .int a1], (0, 0), mi_G) (by rfl) ?_
        refine mi_sem_b mi_in120 (decide (a1 < 0)) false (mi_ltF (0) (by decide) (by omega)) 14 5 ([(0, .int a1), (1, .int 0), (2, .int 9)], [], (0, 0), mi_G) (by rfl) ?_
        refine mi_sem_steps mi_in120 (mi_calok_none _ _) 2 _ (7, [(0, .int a1), (1, .int 0), (2, .int 9)], [.int 9, .int a1], (0, 0), mi_G) (by rfl) ?_
        refine mi_sem_b mi_in120 (decide (9 < a1)) true (mi_ltT2 (9) (by decide) (by omega)) 14 10 ([(0, .int a1), (1, .int 0), (2, .int 9)], [], (0, 0), mi_G) (by rfl) ?_
        refine mi_sem_steps mi_in120 (mi_calok_none _ _) 1 _ (15, [(0, .int a1), (1, .int 0), (2, .int 9)], [.int 0], (0, 0), mi_G) (by rfl) ?_
        exact mi_sem_ret (cal := fun _ _ _ => none) mi_in120 (by rfl)
      refine mi_sem_call mi_in126 (i := (.invokestatic 74, 3, 120, 0, 9, 0, 152)) (by rfl) (by rfl) hM42 (by decide) ⟨Nat.le_of_ble_eq_true rfl, Nat.le_of_ble_eq_true rfl⟩ ?_
      refine mi_sem_steps mi_in126 (mi_calok_none _ _) 2 _ (32, [(0, .int 1), (1, .int a1)], [.int 0], (0, 0), mi_G) (by rfl) ?_
      exact mi_sem_ret (cal := fun _ _ _ => none) mi_in126 (by rfl)
    refine mi_sem_call mi_in80 (i := (.invokestatic 58, 3, 126, 0, 9, 0, 151)) (by rfl) (by rfl) hM43 (by decide) ⟨Nat.le_of_ble_eq_true rfl, Nat.le_of_ble_eq_true rfl⟩ ?_
    refine mi_sem_steps mi_in80 (mi_calok_none _ _) 2 _ (17, [(0, .ref 0), (1, .int a1), (2, .int a2)], [.int (-1)], (0, 0), mi_G) (by rfl) ?_
    exact mi_sem_ret (cal := fun _ _ _ => none) mi_in80 (by rfl)
  · refine mi_met_of (y := 135) (q := (mi_h135, mi_c135)) rfl (by decide) (Nat.le_of_ble_eq_true rfl) ?_
    refine mi_sem_steps mi_in135 (mi_calok_none _ _) 3 _ (4, [(0, .ref 116), (1, .int a1), (2, .int a2)], [.int 9, .int 0, .int a1], (0, 0), mi_G) (by rfl) ?_
    have hM44 : mi_Met mi_N0 1 mi_h131 [.int a1, .int 0, .int 9] mi_G (some (.int 0)) mi_G := by
      refine mi_met_of (y := 131) (q := (mi_h131, mi_c131)) rfl (by decide) (Nat.le_of_ble_eq_true rfl) ?_
      refine mi_sem_steps mi_in131 (mi_calok_none _ _) 2 _ (2, [(0, .int a1), (1, .int 0), (2, .int 9)], [.int 0, .int a1], (0, 0), mi_G) (by rfl) ?_
      refine mi_sem_b mi_in131 (decide (a1 < 0)) false (mi_ltF (0) (by decide) (by omega)) 14 5 ([(0, .int a1), (1, .int 0), (2, .int 9)], [], (0, 0), mi_G) (by rfl) ?_
      refine mi_sem_steps mi_in131 (mi_calok_none _ _) 2 _ (7, [(0, .int a1), (1, .int 0), (2, .int 9)], [.int 9, .int a1], (0, 0), mi_G) (by rfl) ?_
      refine mi_sem_b mi_in131 (decide (9 < a1)) true (mi_ltT2 (9) (by decide) (by omega)) 14 10 ([(0, .int a1), (1, .int 0), (2, .int 9)], [], (0, 0), mi_G) (by rfl) ?_
      refine mi_sem_steps mi_in131 (mi_calok_none _ _) 1 _ (15, [(0, .int a1), (1, .int 0), (2, .int 9)], [.int 0], (0, 0), mi_G) (by rfl) ?_
      exact mi_sem_ret (cal := fun _ _ _ => none) mi_in131 (by rfl)
    refine mi_sem_call mi_in135 (i := (.invokestatic 119, 3, 131, 0, 9, 0, 379)) (by rfl) (by rfl) hM44 (by decide) ⟨Nat.le_of_ble_eq_true rfl, Nat.le_of_ble_eq_true rfl⟩ ?_
    refine mi_sem_steps mi_in135 (mi_calok_none _ _) 2 _ (21, [(0, .ref 116), (1, .int a1), (2, .int a2)], [.int (-1)], (0, 0), mi_G) (by rfl) ?_
    exact mi_sem_ret (cal := fun _ _ _ => none) mi_in135 (by rfl)

set_option maxRecDepth 100000 in
set_option maxHeartbeats 4000000 in
theorem mp_buyer (a1 : Int32) (a2 : Int32) : mi_P 80 135 [.int a1, .int a2] := by
  have b0 := Int32.toInt_lt (a1)
  have c0 := Int32.le_toInt (a1)
  have b1 := Int32.toInt_lt (a2)
  have c1 := Int32.le_toInt (a2)
  rcases Int.lt_or_le (a1).toInt 0 with _hh | _hh
  ·
    exact mp_buyer_0 a1 a2 ⟨by omega, by omega⟩
  ·
    rcases Int.lt_or_le (a1).toInt 10 with _hh | _hh
    ·
      rcases Int.lt_or_le (a2).toInt 0 with _hh | _hh
      ·
        exact mp_buyer_1 a1 a2 ⟨by omega, by omega⟩ ⟨by omega, by omega⟩
      ·
        rcases Int.lt_or_le (a2).toInt 10 with _hh | _hh
        ·
          exact mp_buyer_2 a1 a2 ⟨by omega, by omega⟩ ⟨by omega, by omega⟩
        ·
          exact mp_buyer_3 a1 a2 ⟨by omega, by omega⟩ ⟨by omega, by omega⟩
    ·
      exact mp_buyer_4 a1 a2 ⟨by omega, by omega⟩

set_option maxRecDepth 100000 in
set_option maxHeartbeats 4000000 in
theorem mp_buyers_0 (a1 : Int32) (a2 : Int32) (a3 : Int32) (r0 : (-2147483648) ≤ (a1).toInt ∧ (a1).toInt ≤ (-1)) : mi_P 81 136 [.int a1, .int a2, .int a3] := by
  refine ⟨.int (-1), mi_G, mi_G, (mi_h81, mi_c81), (mi_h136, mi_c136), 3, 3, rfl, rfl, rfl, by decide, by decide, ?_, ?_⟩
  · refine mi_met_of (y := 81) (q := (mi_h81, mi_c81)) rfl (by decide) (Nat.le_of_ble_eq_true rfl) ?_
    refine mi_sem_steps mi_in81 (mi_calok_none _ _) 1 _ (1, [(0, .ref 0), (1, .int a1), (2, .int a2), (3, .int a3)], [.int a1], (0, 0), mi_G) (by rfl) ?_
    have hM46 : mi_Met mi_N0 2 mi_h121 [.int a1] mi_G (some (.int 0)) mi_G := by
      refine mi_met_of (y := 121) (q := (mi_h121, mi_c121)) rfl (by decide) (Nat.le_of_ble_eq_true rfl) ?_
      refine mi_sem_steps mi_in121 (mi_calok_none _ _) 3 _ (3, [(0, .int a1)], [.int 5, .int 0, .int a1], (0, 0), mi_G) (by rfl) ?_
      have hM45 : mi_Met mi_N0 1 mi_h120 [.int a1, .int 0, .int 5] mi_G (some (.int 0)) mi_G := by
        refine mi_met_of (y := 120) (q := (mi_h120, mi_c120)) rfl (by decide) (Nat.le_of_ble_eq_true rfl) ?_
        refine mi_sem_steps mi_in120 (mi_calok_none _ _) 2 _ (2, [(0, .int a1), (1, .int 0), (2, .int 5)], [.int 0, .int a1], (0, 0), mi_G) (by rfl) ?_
        refine mi_sem_b mi_in120 (decide (a1 < 0)) true (mi_ltT (0) (by decide) (by omega)) 14 5 ([(0, .int a1), (1, .int 0), (2, .int 5)], [], (0, 0), mi_G) (by rfl) ?_
        refine mi_sem_steps mi_in120 (mi_calok_none _ _) 1 _ (15, [(0, .int a1), (1, .int 0), (2, .int 5)], [.int 0], (0, 0), mi_G) (by rfl) ?_
        exact mi_sem_ret (cal := fun _ _ _ => none) mi_in120 (by rfl)
      refine mi_sem_call mi_in121 (i := (.invokestatic 74, 3, 120, 0, 9, 0, 152)) (by rfl) (by rfl) hM45 (by decide) ⟨Nat.le_of_ble_eq_true rfl, Nat.le_of_ble_eq_true rfl⟩ ?_
      exact mi_sem_ret (cal := fun _ _ _ => none) mi_in121 (by rfl)
    refine mi_sem_call mi_in81 (i := (.invokestatic 70, 3, 121, 0, 9, 0, 157)) (by rfl) (by rfl) hM46 (by decide) ⟨Nat.le_of_ble_eq_true rfl, Nat.le_of_ble_eq_true rfl⟩ ?_
    refine mi_sem_steps mi_in81 (mi_calok_none _ _) 2 _ (18, [(0, .ref 0), (1, .int a1), (2, .int a2), (3, .int a3)], [.int (-1)], (0, 0), mi_G) (by rfl) ?_
    exact mi_sem_ret (cal := fun _ _ _ => none) mi_in81 (by rfl)
  · refine mi_met_of (y := 136) (q := (mi_h136, mi_c136)) rfl (by decide) (Nat.le_of_ble_eq_true rfl) ?_
    refine mi_sem_steps mi_in136 (mi_calok_none _ _) 1 _ (1, [(0, .ref 116), (1, .int a1), (2, .int a2), (3, .int a3)], [.int a1], (0, 0), mi_G) (by rfl) ?_
    have hM48 : mi_Met mi_N0 2 mi_h133 [.int a1] mi_G (some (.int 0)) mi_G := by
      refine mi_met_of (y := 133) (q := (mi_h133, mi_c133)) rfl (by decide) (Nat.le_of_ble_eq_true rfl) ?_
      refine mi_sem_steps mi_in133 (mi_calok_none _ _) 3 _ (3, [(0, .int a1)], [.int 5, .int 0, .int a1], (0, 0), mi_G) (by rfl) ?_
      have hM47 : mi_Met mi_N0 1 mi_h131 [.int a1, .int 0, .int 5] mi_G (some (.int 0)) mi_G := by
        refine mi_met_of (y := 131) (q := (mi_h131, mi_c131)) rfl (by decide) (Nat.le_of_ble_eq_true rfl) ?_
        refine mi_sem_steps mi_in131 (mi_calok_none _ _) 2 _ (2, [(0, .int a1), (1, .int 0), (2, .int 5)], [.int 0, .int a1], (0, 0), mi_G) (by rfl) ?_
        refine mi_sem_b mi_in131 (decide (a1 < 0)) true (mi_ltT (0) (by decide) (by omega)) 14 5 ([(0, .int a1), (1, .int 0), (2, .int 5)], [], (0, 0), mi_G) (by rfl) ?_
        refine mi_sem_steps mi_in131 (mi_calok_none _ _) 1 _ (15, [(0, .int a1), (1, .int 0), (2, .int 5)], [.int 0], (0, 0), mi_G) (by rfl) ?_
        exact mi_sem_ret (cal := fun _ _ _ => none) mi_in131 (by rfl)
      refine mi_sem_call mi_in133 (i := (.invokestatic 119, 3, 131, 0, 9, 0, 379)) (by rfl) (by rfl) hM47 (by decide) ⟨Nat.le_of_ble_eq_true rfl, Nat.le_of_ble_eq_true rfl⟩ ?_
      exact mi_sem_ret (cal := fun _ _ _ => none) mi_in133 (by rfl)
    refine mi_sem_call mi_in136 (i := (.invokestatic 127, 3, 133, 0, 9, 0, 382)) (by rfl) (by rfl) hM48 (by decide) ⟨Nat.le_of_ble_eq_true rfl, Nat.le_of_ble_eq_true rfl⟩ ?_
    refine mi_sem_steps mi_in136 (mi_calok_none _ _) 2 _ (18, [(0, .ref 116), (1, .int a1), (2, .int a2), (3, .int a3)], [.int (-1)], (0, 0), mi_G) (by rfl) ?_
    exact mi_sem_ret (cal := fun _ _ _ => none) mi_in136 (by rfl)

set_option maxRecDepth 100000 in
set_option maxHeartbeats 4000000 in
theorem mp_buyers_1 (a1 : Int32) (a2 : Int32) (a3 : Int32) (r0 : 0 ≤ (a1).toInt ∧ (a1).toInt ≤ 5) (r1 : (-2147483648) ≤ (a3).toInt ∧ (a3).toInt ≤ 0) : mi_P 81 136 [.int a1, .int a2, .int a3] := by
  refine ⟨.int (-1), mi_G, mi_G, (mi_h81, mi_c81), (mi_h136, mi_c136), 3, 3, rfl, rfl, rfl, by decide, by decide, ?_, ?_⟩
  · refine mi_met_of (y := 81) (q := (mi_h81, mi_c81)) rfl (by decide) (Nat.le_of_ble_eq_true rfl) ?_
    refine mi_sem_steps mi_in81 (mi_calok_none _ _) 1 _ (1, [(0, .ref 0), (1, .int a1), (2, .int a2), (3, .int a3)], [.int a1], (0, 0), mi_G) (by rfl) ?_
    have hM52 : mi_Met mi_N0 2 mi_h121 [.int a1] mi_G (some (.int 1)) mi_G := by
      refine mi_met_of (y := 121) (q := (mi_h121, mi_c121)) rfl (by decide) (Nat.le_of_ble_eq_true rfl) ?_
      refine mi_sem_steps mi_in121 (mi_calok_none _ _) 3 _ (3, [(0, .int a1)], [.int 5, .int 0, .int a1], (0, 0), mi_G) (by rfl) ?_
      have hM51 : mi_Met mi_N0 1 mi_h120 [.int a1, .int 0, .int 5] mi_G (some (.int 1)) mi_G := by
        refine mi_met_of (y := 120) (q := (mi_h120, mi_c120)) rfl (by decide) (Nat.le_of_ble_eq_true rfl) ?_
        refine mi_sem_steps mi_in120 (mi_calok_none _ _) 2 _ (2, [(0, .int a1), (1, .int 0), (2, .int 5)], [.int 0, .int a1], (0, 0), mi_G) (by rfl) ?_
        refine mi_sem_b mi_in120 (decide (a1 < 0)) false (mi_ltF (0) (by decide) (by omega)) 14 5 ([(0, .int a1), (1, .int 0), (2, .int 5)], [], (0, 0), mi_G) (by rfl) ?_
        refine mi_sem_steps mi_in120 (mi_calok_none _ _) 2 _ (7, [(0, .int a1), (1, .int 0), (2, .int 5)], [.int 5, .int a1], (0, 0), mi_G) (by rfl) ?_
        refine mi_sem_b mi_in120 (decide (5 < a1)) false (mi_ltF2 (5) (by decide) (by omega)) 14 10 ([(0, .int a1), (1, .int 0), (2, .int 5)], [], (0, 0), mi_G) (by rfl) ?_
        refine mi_sem_steps mi_in120 (mi_calok_none _ _) 2 _ (15, [(0, .int a1), (1, .int 0), (2, .int 5)], [.int 1], (0, 0), mi_G) (by rfl) ?_
        exact mi_sem_ret (cal := fun _ _ _ => none) mi_in120 (by rfl)
      refine mi_sem_call mi_in121 (i := (.invokestatic 74, 3, 120, 0, 9, 0, 152)) (by rfl) (by rfl) hM51 (by decide) ⟨Nat.le_of_ble_eq_true rfl, Nat.le_of_ble_eq_true rfl⟩ ?_
      exact mi_sem_ret (cal := fun _ _ _ => none) mi_in121 (by rfl)
    refine mi_sem_call mi_in81 (i := (.invokestatic 70, 3, 121, 0, 9, 0, 157)) (by rfl) (by rfl) hM52 (by decide) ⟨Nat.le_of_ble_eq_true rfl, Nat.le_of_ble_eq_true rfl⟩ ?_
    refine mi_sem_steps mi_in81 (mi_calok_none _ _) 4 _ (11, [(0, .ref 0), (1, .int a1), (2, .int a2), (3, .int a3)], [.int 8, .int 1, .int a3], (0, 0), mi_G) (by rfl) ?_
    have hM53 : mi_Met mi_N0 1 mi_h120 [.int a3, .int 1, .int 8] mi_G (some (.int 0)) mi_G := by
      refine mi_met_of (y := 120) (q := (mi_h120, mi_c120)) rfl (by decide) (Nat.le_of_ble_eq_true rfl) ?_
      refine mi_sem_steps mi_in120 (mi_calok_none _ _) 2 _ (2, [(0, .int a3), (1, .int 1), (2, .int 8)], [.int 1, .int a3], (0, 0), mi_G) (by rfl) ?_
      refine mi_sem_b mi_in120 (decide (a3 < 1)) true (mi_ltT (1) (by decide) (by omega)) 14 5 ([(0, .int a3), (1, .int 1), (2, .int 8)], [], (0, 0), mi_G) (by rfl) ?_
      refine mi_sem_steps mi_in120 (mi_calok_none _ _) 1 _ (15, [(0, .int a3), (1, .int 1), (2, .int 8)], [.int 0], (0, 0), mi_G) (by rfl) ?_
      exact mi_sem_ret (cal := fun _ _ _ => none) mi_in120 (by rfl)
    refine mi_sem_call mi_in81 (i := (.invokestatic 74, 3, 120, 0, 9, 0, 152)) (by rfl) (by rfl) hM53 (by decide) ⟨Nat.le_of_ble_eq_true rfl, Nat.le_of_ble_eq_true rfl⟩ ?_
    refine mi_sem_steps mi_in81 (mi_calok_none _ _) 2 _ (18, [(0, .ref 0), (1, .int a1), (2, .int a2), (3, .int a3)], [.int (-1)], (0, 0), mi_G) (by rfl) ?_
    exact mi_sem_ret (cal := fun _ _ _ => none) mi_in81 (by rfl)
  · refine mi_met_of (y := 136) (q := (mi_h136, mi_c136)) rfl (by decide) (Nat.le_of_ble_eq_true rfl) ?_
    refine mi_sem_steps mi_in136 (mi_calok_none _ _) 1 _ (1, [(0, .ref 116), (1, .int a1), (2, .int a2), (3, .int a3)], [.int a1], (0, 0), mi_G) (by rfl) ?_
    have hM55 : mi_Met mi_N0 2 mi_h133 [.int a1] mi_G (some (.int 1)) mi_G := by
      refine mi_met_of (y := 133) (q := (mi_h133, mi_c133)) rfl (by decide) (Nat.le_of_ble_eq_true rfl) ?_
      refine mi_sem_steps mi_in133 (mi_calok_none _ _) 3 _ (3, [(0, .int a1)], [.int 5, .int 0, .int a1], (0, 0), mi_G) (by rfl) ?_
      have hM54 : mi_Met mi_N0 1 mi_h131 [.int a1, .int 0, .int 5] mi_G (some (.int 1)) mi_G := by
        refine mi_met_of (y := 131) (q := (mi_h131, mi_c131)) rfl (by decide) (Nat.le_of_ble_eq_true rfl) ?_
        refine mi_sem_steps mi_in131 (mi_calok_none _ _) 2 _ (2, [(0, .int a1), (1, .int 0), (2, .int 5)], [.int 0, .int a1], (0, 0), mi_G) (by rfl) ?_
        refine mi_sem_b mi_in131 (decide (a1 < 0)) false (mi_ltF (0) (by decide) (by omega)) 14 5 ([(0, .int a1), (1, .int 0), (2, .int 5)], [], (0, 0), mi_G) (by rfl) ?_
        refine mi_sem_steps mi_in131 (mi_calok_none _ _) 2 _ (7, [(0, .int a1), (1, .int 0), (2, .int 5)], [.int 5, .int a1], (0, 0), mi_G) (by rfl) ?_
        refine mi_sem_b mi_in131 (decide (5 < a1)) false (mi_ltF2 (5) (by decide) (by omega)) 14 10 ([(0, .int a1), (1, .int 0), (2, .int 5)], [], (0, 0), mi_G) (by rfl) ?_
        refine mi_sem_steps mi_in131 (mi_calok_none _ _) 2 _ (15, [(0, .int a1), (1, .int 0), (2, .int 5)], [.int 1], (0, 0), mi_G) (by rfl) ?_
        exact mi_sem_ret (cal := fun _ _ _ => none) mi_in131 (by rfl)
      refine mi_sem_call mi_in133 (i := (.invokestatic 119, 3, 131, 0, 9, 0, 379)) (by rfl) (by rfl) hM54 (by decide) ⟨Nat.le_of_ble_eq_true rfl, Nat.le_of_ble_eq_true rfl⟩ ?_
      exact mi_sem_ret (cal := fun _ _ _ => none) mi_in133 (by rfl)
    refine mi_sem_call mi_in136 (i := (.invokestatic 127, 3, 133, 0, 9, 0, 382)) (by rfl) (by rfl) hM55 (by decide) ⟨Nat.le_of_ble_eq_true rfl, Nat.le_of_ble_eq_true rfl⟩ ?_
    refine mi_sem_steps mi_in136 (mi_calok_none _ _) 4 _ (11, [(0, .ref 116), (1, .int a1), (2, .int a2), (3, .int a3)], [.int 8, .int 1, .int a3], (0, 0), mi_G) (by rfl) ?_
    have hM56 : mi_Met mi_N0 1 mi_h131 [.int a3, .int 1, .int 8] mi_G (some (.int 0)) mi_G := by
      refine mi_met_of (y := 131) (q := (mi_h131, mi_c131)) rfl (by decide) (Nat.le_of_ble_eq_true rfl) ?_
      refine mi_sem_steps mi_in131 (mi_calok_none _ _) 2 _ (2, [(0, .int a3), (1, .int 1), (2, .int 8)], [.int 1, .int a3], (0, 0), mi_G) (by rfl) ?_
      refine mi_sem_b mi_in131 (decide (a3 < 1)) true (mi_ltT (1) (by decide) (by omega)) 14 5 ([(0, .int a3), (1, .int 1), (2, .int 8)], [], (0, 0), mi_G) (by rfl) ?_
      refine mi_sem_steps mi_in131 (mi_calok_none _ _) 1 _ (15, [(0, .int a3), (1, .int 1), (2, .int 8)], [.int 0], (0, 0), mi_G) (by rfl) ?_
      exact mi_sem_ret (cal := fun _ _ _ => none) mi_in131 (by rfl)
    refine mi_sem_call mi_in136 (i := (.invokestatic 119, 3, 131, 0, 9, 0, 379)) (by rfl) (by rfl) hM56 (by decide) ⟨Nat.le_of_ble_eq_true rfl, Nat.le_of_ble_eq_true rfl⟩ ?_
    refine mi_sem_steps mi_in136 (mi_calok_none _ _) 2 _ (18, [(0, .ref 116), (1, .int a1), (2, .int a2), (3, .int a3)], [.int (-1)], (0, 0), mi_G) (by rfl) ?_
    exact mi_sem_ret (cal := fun _ _ _ => none) mi_in136 (by rfl)

set_option maxRecDepth 100000 in
set_option maxHeartbeats 4000000 in
theorem mp_buyers_2 (a2 : Int32) (a3 : Int32) (r0 : 1 ≤ (a3).toInt ∧ (a3).toInt ≤ 8) : mi_P 81 136 [.int 0, .int a2, .int a3] := by
  refine ⟨.int 0, mi_G, mi_G, (mi_h81, mi_c81), (mi_h136, mi_c136), 3, 3, rfl, rfl, rfl, by decide, by decide, ?_, ?_⟩
  · refine mi_met_of (y := 81) (q := (mi_h81, mi_c81)) rfl (by decide) (Nat.le_of_ble_eq_true rfl) ?_
    refine mi_sem_steps mi_in81 (mi_calok_none _ _) 1 _ (1, [(0, .ref 0), (1, .int 0), (2, .int a2), (3, .int a3)], [.int 0], (0, 0), mi_G) (by rfl) ?_
    have hM62 : mi_Met mi_N0 2 mi_h121 [.int 0] mi_G (some (.int 1)) mi_G := mi_fun_ok mi_N0 2 121 (mi_h121, mi_c121) _ _ _ _ rfl (mi_eR_ok (by decide +kernel))
    refine mi_sem_call mi_in81 (i := (.invokestatic 70, 3, 121, 0, 9, 0, 157)) (by rfl) (by rfl) hM62 (by decide) ⟨Nat.le_of_ble_eq_true rfl, Nat.le_of_ble_eq_true rfl⟩ ?_
    refine mi_sem_steps mi_in81 (mi_calok_none _ _) 4 _ (11, [(0, .ref 0), (1, .int 0), (2, .int a2), (3, .int a3)], [.int 8, .int 1, .int a3], (0, 0), mi_G) (by rfl) ?_
    have hM63 : mi_Met mi_N0 1 mi_h120 [.int a3, .int 1, .int 8] mi_G (some (.int 1)) mi_G := by
      refine mi_met_of (y := 120) (q := (mi_h120, mi_c120)) rfl (by decide) (Nat.le_of_ble_eq_true rfl) ?_
      refine mi_sem_steps mi_in120 (mi_calok_none _ _) 2 _ (2, [(0, .int a3), (1, .int 1), (2, .int 8)], [.int 1, .int a3], (0, 0), mi_G) (by rfl) ?_
      refine mi_sem_b mi_in120 (decide (a3 < 1)) false (mi_ltF (1) (by decide) (by omega)) 14 5 ([(0, .int a3), (1, .int 1), (2, .int 8)], [], (0, 0), mi_G) (by rfl) ?_
      refine mi_sem_steps mi_in120 (mi_calok_none _ _) 2 _ (7, [(0, .int a3), (1, .int 1), (2, .int 8)], [.int 8, .int a3], (0, 0), mi_G) (by rfl) ?_
      refine mi_sem_b mi_in120 (decide (8 < a3)) false (mi_ltF2 (8) (by decide) (by omega)) 14 10 ([(0, .int a3), (1, .int 1), (2, .int 8)], [], (0, 0), mi_G) (by rfl) ?_
      refine mi_sem_steps mi_in120 (mi_calok_none _ _) 2 _ (15, [(0, .int a3), (1, .int 1), (2, .int 8)], [.int 1], (0, 0), mi_G) (by rfl) ?_
      exact mi_sem_ret (cal := fun _ _ _ => none) mi_in120 (by rfl)
    refine mi_sem_call mi_in81 (i := (.invokestatic 74, 3, 120, 0, 9, 0, 152)) (by rfl) (by rfl) hM63 (by decide) ⟨Nat.le_of_ble_eq_true rfl, Nat.le_of_ble_eq_true rfl⟩ ?_
    refine mi_sem_steps mi_in81 (mi_calok_none _ _) 10 _ (36, [(4, .ref 104), (0, .ref 0), (1, .int 0), (2, .int a2), (3, .int a3)], [.int 0], (0, 0), mi_G) (by rfl) ?_
    exact mi_sem_ret (cal := fun _ _ _ => none) mi_in81 (by rfl)
  · refine mi_met_of (y := 136) (q := (mi_h136, mi_c136)) rfl (by decide) (Nat.le_of_ble_eq_true rfl) ?_
    refine mi_sem_steps mi_in136 (mi_calok_none _ _) 1 _ (1, [(0, .ref 116), (1, .int 0), (2, .int a2), (3, .int a3)], [.int 0], (0, 0), mi_G) (by rfl) ?_
    have hM64 : mi_Met mi_N0 2 mi_h133 [.int 0] mi_G (some (.int 1)) mi_G := mi_fun_ok mi_N0 2 133 (mi_h133, mi_c133) _ _ _ _ rfl (mi_eR_ok (by decide +kernel))
    refine mi_sem_call mi_in136 (i := (.invokestatic 127, 3, 133, 0, 9, 0, 382)) (by rfl) (by rfl) hM64 (by decide) ⟨Nat.le_of_ble_eq_true rfl, Nat.le_of_ble_eq_true rfl⟩ ?_
    refine mi_sem_steps mi_in136 (mi_calok_none _ _) 4 _ (11, [(0, .ref 116), (1, .int 0), (2, .int a2), (3, .int a3)], [.int 8, .int 1, .int a3], (0, 0), mi_G) (by rfl) ?_
    have hM65 : mi_Met mi_N0 1 mi_h131 [.int a3, .int 1, .int 8] mi_G (some (.int 1)) mi_G := by
      refine mi_met_of (y := 131) (q := (mi_h131, mi_c131)) rfl (by decide) (Nat.le_of_ble_eq_true rfl) ?_
      refine mi_sem_steps mi_in131 (mi_calok_none _ _) 2 _ (2, [(0, .int a3), (1, .int 1), (2, .int 8)], [.int 1, .int a3], (0, 0), mi_G) (by rfl) ?_
      refine mi_sem_b mi_in131 (decide (a3 < 1)) false (mi_ltF (1) (by decide) (by omega)) 14 5 ([(0, .int a3), (1, .int 1), (2, .int 8)], [], (0, 0), mi_G) (by rfl) ?_
      refine mi_sem_steps mi_in131 (mi_calok_none _ _) 2 _ (7, [(0, .int a3), (1, .int 1), (2, .int 8)], [.int 8, .int a3], (0, 0), mi_G) (by rfl) ?_
      refine mi_sem_b mi_in131 (decide (8 < a3)) false (mi_ltF2 (8) (by decide) (by omega)) 14 10 ([(0, .int a3), (1, .int 1), (2, .int 8)], [], (0, 0), mi_G) (by rfl) ?_
      refine mi_sem_steps mi_in131 (mi_calok_none _ _) 2 _ (15, [(0, .int a3), (1, .int 1), (2, .int 8)], [.int 1], (0, 0), mi_G) (by rfl) ?_
      exact mi_sem_ret (cal := fun _ _ _ => none) mi_in131 (by rfl)
    refine mi_sem_call mi_in136 (i := (.invokestatic 119, 3, 131, 0, 9, 0, 379)) (by rfl) (by rfl) hM65 (by decide) ⟨Nat.le_of_ble_eq_true rfl, Nat.le_of_ble_eq_true rfl⟩ ?_
    refine mi_sem_steps mi_in136 (mi_calok_none _ _) 8 _ (30, [(0, .ref 116), (1, .int 0), (2, .int a2), (3, .int a3)], [.int 0], (0, 0), mi_G) (by rfl) ?_
    exact mi_sem_ret (cal := fun _ _ _ => none) mi_in136 (by rfl)

set_option maxRecDepth 100000 in
set_option maxHeartbeats 4000000 in
theorem mp_buyers_3 (a2 : Int32) (a3 : Int32) (r0 : 1 ≤ (a3).toInt ∧ (a3).toInt ≤ 8) : mi_P 81 136 [.int 1, .int a2, .int a3] := by
  refine ⟨.int 0, mi_G, mi_G, (mi_h81, mi_c81), (mi_h136, mi_c136), 3, 3, rfl, rfl, rfl, by decide, by decide, ?_, ?_⟩
  · refine mi_met_of (y := 81) (q := (mi_h81, mi_c81)) rfl (by decide) (Nat.le_of_ble_eq_true rfl) ?_
    refine mi_sem_steps mi_in81 (mi_calok_none _ _) 1 _ (1, [(0, .ref 0), (1, .int 1), (2, .int a2), (3, .int a3)], [.int 1], (0, 0), mi_G) (by rfl) ?_
    have hM69 : mi_Met mi_N0 2 mi_h121 [.int 1] mi_G (some (.int 1)) mi_G := mi_fun_ok mi_N0 2 121 (mi_h121, mi_c121) _ _ _ _ rfl (mi_eR_ok (by decide +kernel))
    refine mi_sem_call mi_in81 (i := (.invokestatic 70, 3, 121, 0, 9, 0, 157)) (by rfl) (by rfl) hM69 (by decide) ⟨Nat.le_of_ble_eq_true rfl, Nat.le_of_ble_eq_true rfl⟩ ?_
    refine mi_sem_steps mi_in81 (mi_calok_none _ _) 4 _ (11, [(0, .ref 0), (1, .int 1), (2, .int a2), (3, .int a3)], [.int 8, .int 1, .int a3], (0, 0), mi_G) (by rfl) ?_
    have hM70 : mi_Met mi_N0 1 mi_h120 [.int a3, .int 1, .int 8] mi_G (some (.int 1)) mi_G := by
      refine mi_met_of (y := 120) (q := (mi_h120, mi_c120)) rfl (by decide) (Nat.le_of_ble_eq_true rfl) ?_
      refine mi_sem_steps mi_in120 (mi_calok_none _ _) 2 _ (2, [(0, .int a3), (1, .int 1), (2, .int 8)], [.int 1, .int a3], (0, 0), mi_G) (by rfl) ?_
      refine mi_sem_b mi_in120 (decide (a3 < 1)) false (mi_ltF (1) (by decide) (by omega)) 14 5 ([(0, .int a3), (1, .int 1), (2, .int 8)], [], (0, 0), mi_G) (by rfl) ?_
      refine mi_sem_steps mi_in120 (mi_calok_none _ _) 2 _ (7, [(0, .int a3), (1, .int 1), (2, .int 8)], [.int 8, .int a3], (0, 0), mi_G) (by rfl) ?_
      refine mi_sem_b mi_in120 (decide (8 < a3)) false (mi_ltF2 (8) (by decide) (by omega)) 14 10 ([(0, .int a3), (1, .int 1), (2, .int 8)], [], (0, 0), mi_G) (by rfl) ?_
      refine mi_sem_steps mi_in120 (mi_calok_none _ _) 2 _ (15, [(0, .int a3), (1, .int 1), (2, .int 8)], [.int 1], (0, 0), mi_G) (by rfl) ?_
      exact mi_sem_ret (cal := fun _ _ _ => none) mi_in120 (by rfl)
    refine mi_sem_call mi_in81 (i := (.invokestatic 74, 3, 120, 0, 9, 0, 152)) (by rfl) (by rfl) hM70 (by decide) ⟨Nat.le_of_ble_eq_true rfl, Nat.le_of_ble_eq_true rfl⟩ ?_
    refine mi_sem_steps mi_in81 (mi_calok_none _ _) 10 _ (36, [(4, .ref 106), (0, .ref 0), (1, .int 1), (2, .int a2), (3, .int a3)], [.int 0], (0, 0), mi_G) (by rfl) ?_
    exact mi_sem_ret (cal := fun _ _ _ => none) mi_in81 (by rfl)
  · refine mi_met_of (y := 136) (q := (mi_h136, mi_c136)) rfl (by decide) (Nat.le_of_ble_eq_true rfl) ?_
    refine mi_sem_steps mi_in136 (mi_calok_none _ _) 1 _ (1, [(0, .ref 116), (1, .int 1), (2, .int a2), (3, .int a3)], [.int 1], (0, 0), mi_G) (by rfl) ?_
    have hM71 : mi_Met mi_N0 2 mi_h133 [.int 1] mi_G (some (.int 1)) mi_G := mi_fun_ok mi_N0 2 133 (mi_h133, mi_c133) _ _ _ _ rfl (mi_eR_ok (by decide +kernel))
    refine mi_sem_call mi_in136 (i := (.invokestatic 127, 3, 133, 0, 9, 0, 382)) (by rfl) (by rfl) hM71 (by decide) ⟨Nat.le_of_ble_eq_true rfl, Nat.le_of_ble_eq_true rfl⟩ ?_
    refine mi_sem_steps mi_in136 (mi_calok_none _ _) 4 _ (11, [(0, .ref 116), (1, .int 1), (2, .int a2), (3, .int a3)], [.int 8, .int 1, .int a3], (0, 0), mi_G) (by rfl) ?_
    have hM72 : mi_Met mi_N0 1 mi_h131 [.int a3, .int 1, .int 8] mi_G (some (.int 1)) mi_G := by
      refine mi_met_of (y := 131) (q := (mi_h131, mi_c131)) rfl (by decide) (Nat.le_of_ble_eq_true rfl) ?_
      refine mi_sem_steps mi_in131 (mi_calok_none _ _) 2 _ (2, [(0, .int a3), (1, .int 1), (2, .int 8)], [.int 1, .int a3], (0, 0), mi_G) (by rfl) ?_
      refine mi_sem_b mi_in131 (decide (a3 < 1)) false (mi_ltF (1) (by decide) (by omega)) 14 5 ([(0, .int a3), (1, .int 1), (2, .int 8)], [], (0, 0), mi_G) (by rfl) ?_
      refine mi_sem_steps mi_in131 (mi_calok_none _ _) 2 _ (7, [(0, .int a3), (1, .int 1), (2, .int 8)], [.int 8, .int a3], (0, 0), mi_G) (by rfl) ?_
      refine mi_sem_b mi_in131 (decide (8 < a3)) false (mi_ltF2 (8) (by decide) (by omega)) 14 10 ([(0, .int a3), (1, .int 1), (2, .int 8)], [], (0, 0), mi_G) (by rfl) ?_
      refine mi_sem_steps mi_in131 (mi_calok_none _ _) 2 _ (15, [(0, .int a3), (1, .int 1), (2, .int 8)], [.int 1], (0, 0), mi_G) (by rfl) ?_
      exact mi_sem_ret (cal := fun _ _ _ => none) mi_in131 (by rfl)
    refine mi_sem_call mi_in136 (i := (.invokestatic 119, 3, 131, 0, 9, 0, 379)) (by rfl) (by rfl) hM72 (by decide) ⟨Nat.le_of_ble_eq_true rfl, Nat.le_of_ble_eq_true rfl⟩ ?_
    refine mi_sem_steps mi_in136 (mi_calok_none _ _) 8 _ (30, [(0, .ref 116), (1, .int 1), (2, .int a2), (3, .int a3)], [.int 0], (0, 0), mi_G) (by rfl) ?_
    exact mi_sem_ret (cal := fun _ _ _ => none) mi_in136 (by rfl)

set_option maxRecDepth 100000 in
set_option maxHeartbeats 4000000 in
theorem mp_buyers_4 (a2 : Int32) (a3 : Int32) (r0 : 1 ≤ (a3).toInt ∧ (a3).toInt ≤ 8) : mi_P 81 136 [.int 2, .int a2, .int a3] := by
  refine ⟨.int 0, mi_G, mi_G, (mi_h81, mi_c81), (mi_h136, mi_c136), 3, 3, rfl, rfl, rfl, by decide, by decide, ?_, ?_⟩
  · refine mi_met_of (y := 81) (q := (mi_h81, mi_c81)) rfl (by decide) (Nat.le_of_ble_eq_true rfl) ?_
    refine mi_sem_steps mi_in81 (mi_calok_none _ _) 1 _ (1, [(0, .ref 0), (1, .int 2), (2, .int a2), (3, .int a3)], [.int 2], (0, 0), mi_G) (by rfl) ?_
    have hM76 : mi_Met mi_N0 2 mi_h121 [.int 2] mi_G (some (.int 1)) mi_G := mi_fun_ok mi_N0 2 121 (mi_h121, mi_c121) _ _ _ _ rfl (mi_eR_ok (by decide +kernel))
    refine mi_sem_call mi_in81 (i := (.invokestatic 70, 3, 121, 0, 9, 0, 157)) (by rfl) (by rfl) hM76 (by decide) ⟨Nat.le_of_ble_eq_true rfl, Nat.le_of_ble_eq_true rfl⟩ ?_
    refine mi_sem_steps mi_in81 (mi_calok_none _ _) 4 _ (11, [(0, .ref 0), (1, .int 2), (2, .int a2), (3, .int a3)], [.int 8, .int 1, .int a3], (0, 0), mi_G) (by rfl) ?_
    have hM77 : mi_Met mi_N0 1 mi_h120 [.int a3, .int 1, .int 8] mi_G (some (.int 1)) mi_G := by
      refine mi_met_of (y := 120) (q := (mi_h120, mi_c120)) rfl (by decide) (Nat.le_of_ble_eq_true rfl) ?_
      refine mi_sem_steps mi_in120 (mi_calok_none _ _) 2 _ (2, [(0, .int a3), (1, .int 1), (2, .int 8)], [.int 1, .int a3], (0, 0), mi_G) (by rfl) ?_
      refine mi_sem_b mi_in120 (decide (a3 < 1)) false (mi_ltF (1) (by decide) (by omega)) 14 5 ([(0, .int a3), (1, .int 1), (2, .int 8)], [], (0, 0), mi_G) (by rfl) ?_
      refine mi_sem_steps mi_in120 (mi_calok_none _ _) 2 _ (7, [(0, .int a3), (1, .int 1), (2, .int 8)], [.int 8, .int a3], (0, 0), mi_G) (by rfl) ?_
      refine mi_sem_b mi_in120 (decide (8 < a3)) false (mi_ltF2 (8) (by decide) (by omega)) 14 10 ([(0, .int a3), (1, .int 1), (2, .int 8)], [], (0, 0), mi_G) (by rfl) ?_
      refine mi_sem_steps mi_in120 (mi_calok_none _ _) 2 _ (15, [(0, .int a3), (1, .int 1), (2, .int 8)], [.int 1], (0, 0), mi_G) (by rfl) ?_
      exact mi_sem_ret (cal := fun _ _ _ => none) mi_in120 (by rfl)
    refine mi_sem_call mi_in81 (i := (.invokestatic 74, 3, 120, 0, 9, 0, 152)) (by rfl) (by rfl) hM77 (by decide) ⟨Nat.le_of_ble_eq_true rfl, Nat.le_of_ble_eq_true rfl⟩ ?_
    refine mi_sem_steps mi_in81 (mi_calok_none _ _) 10 _ (36, [(4, .ref 108), (0, .ref 0), (1, .int 2), (2, .int a2), (3, .int a3)], [.int 0], (0, 0), mi_G) (by rfl) ?_
    exact mi_sem_ret (cal := fun _ _ _ => none) mi_in81 (by rfl)
  · refine mi_met_of (y := 136) (q := (mi_h136, mi_c136)) rfl (by decide) (Nat.le_of_ble_eq_true rfl) ?_
    refine mi_sem_steps mi_in136 (mi_calok_none _ _) 1 _ (1, [(0, .ref 116), (1, .int 2), (2, .int a2), (3, .int a3)], [.int 2], (0, 0), mi_G) (by rfl) ?_
    have hM78 : mi_Met mi_N0 2 mi_h133 [.int 2] mi_G (some (.int 1)) mi_G := mi_fun_ok mi_N0 2 133 (mi_h133, mi_c133) _ _ _ _ rfl (mi_eR_ok (by decide +kernel))
    refine mi_sem_call mi_in136 (i := (.invokestatic 127, 3, 133, 0, 9, 0, 382)) (by rfl) (by rfl) hM78 (by decide) ⟨Nat.le_of_ble_eq_true rfl, Nat.le_of_ble_eq_true rfl⟩ ?_
    refine mi_sem_steps mi_in136 (mi_calok_none _ _) 4 _ (11, [(0, .ref 116), (1, .int 2), (2, .int a2), (3, .int a3)], [.int 8, .int 1, .int a3], (0, 0), mi_G) (by rfl) ?_
    have hM79 : mi_Met mi_N0 1 mi_h131 [.int a3, .int 1, .int 8] mi_G (some (.int 1)) mi_G := by
      refine mi_met_of (y := 131) (q := (mi_h131, mi_c131)) rfl (by decide) (Nat.le_of_ble_eq_true rfl) ?_
      refine mi_sem_steps mi_in131 (mi_calok_none _ _) 2 _ (2, [(0, .int a3), (1, .int 1), (2, .int 8)], [.int 1, .int a3], (0, 0), mi_G) (by rfl) ?_
      refine mi_sem_b mi_in131 (decide (a3 < 1)) false (mi_ltF (1) (by decide) (by omega)) 14 5 ([(0, .int a3), (1, .int 1), (2, .int 8)], [], (0, 0), mi_G) (by rfl) ?_
      refine mi_sem_steps mi_in131 (mi_calok_none _ _) 2 _ (7, [(0, .int a3), (1, .int 1), (2, .int 8)], [.int 8, .int a3], (0, 0), mi_G) (by rfl) ?_
      refine mi_sem_b mi_in131 (decide (8 < a3)) false (mi_ltF2 (8) (by decide) (by omega)) 14 10 ([(0, .int a3), (1, .int 1), (2, .int 8)], [], (0, 0), mi_G) (by rfl) ?_
      refine mi_sem_steps mi_in131 (mi_calok_none _ _) 2 _ (15, [(0, .int a3), (1, .int 1), (2, .int 8)], [.int 1], (0, 0), mi_G) (by rfl) ?_
      exact mi_sem_ret (cal := fun _ _ _ => none) mi_in131 (by rfl)
    refine mi_sem_call mi_in136 (i := (.invokestatic 119, 3, 131, 0, 9, 0, 379)) (by rfl) (by rfl) hM79 (by decide) ⟨Nat.le_of_ble_eq_true rfl, Nat.le_of_ble_eq_true rfl⟩ ?_
    refine mi_sem_steps mi_in136 (mi_calok_none _ _) 8 _ (30, [(0, .ref 116), (1, .int 2), (2, .int a2), (3, .int a3)], [.int 0], (0, 0), mi_G) (by rfl) ?_
    exact mi_sem_ret (cal := fun _ _ _ => none) mi_in136 (by rfl)

set_option maxRecDepth 100000 in
set_option maxHeartbeats 4000000 in
theorem mp_buyers_5 (a2 : Int32) (a3 : Int32) (r0 : 1 ≤ (a3).toInt ∧ (a3).toInt ≤ 8) : mi_P 81 136 [.int 3, .int a2, .int a3] := by
  refine ⟨.int 0, mi_G, mi_G, (mi_h81, mi_c81), (mi_h136, mi_c136), 3, 3, rfl, rfl, rfl, by decide, by decide, ?_, ?_⟩
  · refine mi_met_of (y := 81) (q := (mi_h81, mi_c81)) rfl (by decide) (Nat.le_of_ble_eq_true rfl) ?_
    refine mi_sem_steps mi_in81 (mi_calok_none _ _) 1 _ (1, [(0, .ref 0), (1, .int 3), (2, .int a2), (3, .int a3)], [.int 3], (0, 0), mi_G) (by rfl) ?_
    have hM83 : mi_Met mi_N0 2 mi_h121 [.int 3] mi_G (some (.int 1)) mi_G := mi_fun_ok mi_N0 2 121 (mi_h121, mi_c121) _ _ _ _ rfl (mi_eR_ok (by decide +kernel))
    refine mi_sem_call mi_in81 (i := (.invokestatic 70, 3, 121, 0, 9, 0, 157)) (by rfl) (by rfl) hM83 (by decide) ⟨Nat.le_of_ble_eq_true rfl, Nat.le_of_ble_eq_true rfl⟩ ?_
    refine mi_sem_steps mi_in81 (mi_calok_none _ _) 4 _ (11, [(0, .ref 0), (1, .int 3), (2, .int a2), (3, .int a3)], [.int 8, .int 1, .int a3], (0, 0), mi_G) (by rfl) ?_
    have hM84 : mi_Met mi_N0 1 mi_h120 [.int a3, .int 1, .int 8] mi_G (some (.int 1)) mi_G := by
      refine mi_met_of (y := 120) (q := (mi_h120, mi_c120)) rfl (by decide) (Nat.le_of_ble_eq_true rfl) ?_
      refine mi_sem_steps mi_in120 (mi_calok_none _ _) 2 _ (2, [(0, .int a3), (1, .int 1), (2, .int 8)], [.int 1, .int a3], (0, 0), mi_G) (by rfl) ?_
      refine mi_sem_b mi_in120 (decide (a3 < 1)) false (mi_ltF (1) (by decide) (by omega)) 14 5 ([(0, .int a3), (1, .int 1), (2, .int 8)], [], (0, 0), mi_G) (by rfl) ?_
      refine mi_sem_steps mi_in120 (mi_calok_none _ _) 2 _ (7, [(0, .int a3), (1, .int 1), (2, .int 8)], [.int 8, .int a3], (0, 0), mi_G) (by rfl) ?_
      refine mi_sem_b mi_in120 (decide (8 < a3)) false (mi_ltF2 (8) (by decide) (by omega)) 14 10 ([(0, .int a3), (1, .int 1), (2, .int 8)], [], (0, 0), mi_G) (by rfl) ?_
      refine mi_sem_steps mi_in120 (mi_calok_none _ _) 2 _ (15, [(0, .int a3), (1, .int 1), (2, .int 8)], [.int 1], (0, 0), mi_G) (by rfl) ?_
      exact mi_sem_ret (cal := fun _ _ _ => none) mi_in120 (by rfl)
    refine mi_sem_call mi_in81 (i := (.invokestatic 74, 3, 120, 0, 9, 0, 152)) (by rfl) (by rfl) hM84 (by decide) ⟨Nat.le_of_ble_eq_true rfl, Nat.le_of_ble_eq_true rfl⟩ ?_
    refine mi_sem_steps mi_in81 (mi_calok_none _ _) 10 _ (36, [(4, .ref 110), (0, .ref 0), (1, .int 3), (2, .int a2), (3, .int a3)], [.int 0], (0, 0), mi_G) (by rfl) ?_
    exact mi_sem_ret (cal := fun _ _ _ => none) mi_in81 (by rfl)
  · refine mi_met_of (y := 136) (q := (mi_h136, mi_c136)) rfl (by decide) (Nat.le_of_ble_eq_true rfl) ?_
    refine mi_sem_steps mi_in136 (mi_calok_none _ _) 1 _ (1, [(0, .ref 116), (1, .int 3), (2, .int a2), (3, .int a3)], [.int 3], (0, 0), mi_G) (by rfl) ?_
    have hM85 : mi_Met mi_N0 2 mi_h133 [.int 3] mi_G (some (.int 1)) mi_G := mi_fun_ok mi_N0 2 133 (mi_h133, mi_c133) _ _ _ _ rfl (mi_eR_ok (by decide +kernel))
    refine mi_sem_call mi_in136 (i := (.invokestatic 127, 3, 133, 0, 9, 0, 382)) (by rfl) (by rfl) hM85 (by decide) ⟨Nat.le_of_ble_eq_true rfl, Nat.le_of_ble_eq_true rfl⟩ ?_
    refine mi_sem_steps mi_in136 (mi_calok_none _ _) 4 _ (11, [(0, .ref 116), (1, .int 3), (2, .int a2), (3, .int a3)], [.int 8, .int 1, .int a3], (0, 0), mi_G) (by rfl) ?_
    have hM86 : mi_Met mi_N0 1 mi_h131 [.int a3, .int 1, .int 8] mi_G (some (.int 1)) mi_G := by
      refine mi_met_of (y := 131) (q := (mi_h131, mi_c131)) rfl (by decide) (Nat.le_of_ble_eq_true rfl) ?_
      refine mi_sem_steps mi_in131 (mi_calok_none _ _) 2 _ (2, [(0, .int a3), (1, .int 1), (2, .int 8)], [.int 1, .int a3], (0, 0), mi_G) (by rfl) ?_
      refine mi_sem_b mi_in131 (decide (a3 < 1)) false (mi_ltF (1) (by decide) (by omega)) 14 5 ([(0, .int a3), (1, .int 1), (2, .int 8)], [], (0, 0), mi_G) (by rfl) ?_
      refine mi_sem_steps mi_in131 (mi_calok_none _ _) 2 _ (7, [(0, .int a3), (1, .int 1), (2, .int 8)], [.int 8, .int a3], (0, 0), mi_G) (by rfl) ?_
      refine mi_sem_b mi_in131 (decide (8 < a3)) false (mi_ltF2 (8) (by decide) (by omega)) 14 10 ([(0, .int a3), (1, .int 1), (2, .int 8)], [], (0, 0), mi_G) (by rfl) ?_
      refine mi_sem_steps mi_in131 (mi_calok_none _ _) 2 _ (15, [(0, .int a3), (1, .int 1), (2, .int 8)], [.int 1], (0, 0), mi_G) (by rfl) ?_
      exact mi_sem_ret (cal := fun _ _ _ => none) mi_in131 (by rfl)
    refine mi_sem_call mi_in136 (i := (.invokestatic 119, 3, 131, 0, 9, 0, 379)) (by rfl) (by rfl) hM86 (by decide) ⟨Nat.le_of_ble_eq_true rfl, Nat.le_of_ble_eq_true rfl⟩ ?_
    refine mi_sem_steps mi_in136 (mi_calok_none _ _) 8 _ (30, [(0, .ref 116), (1, .int 3), (2, .int a2), (3, .int a3)], [.int 0], (0, 0), mi_G) (by rfl) ?_
    exact mi_sem_ret (cal := fun _ _ _ => none) mi_in136 (by rfl)

set_option maxRecDepth 100000 in
set_option maxHeartbeats 4000000 in
theorem mp_buyers_6 (a2 : Int32) (a3 : Int32) (r0 : 1 ≤ (a3).toInt ∧ (a3).toInt ≤ 8) : mi_P 81 136 [.int 4, .int a2, .int a3] := by
  refine ⟨.int 0, mi_G, mi_G, (mi_h81, mi_c81), (mi_h136, mi_c136), 3, 3, rfl, rfl, rfl, by decide, by decide, ?_, ?_⟩
  · refine mi_met_of (y := 81) (q := (mi_h81, mi_c81)) rfl (by decide) (Nat.le_of_ble_eq_true rfl) ?_
    refine mi_sem_steps mi_in81 (mi_calok_none _ _) 1 _ (1, [(0, .ref 0), (1, .int 4), (2, .int a2), (3, .int a3)], [.int 4], (0, 0), mi_G) (by rfl) ?_
    have hM90 : mi_Met mi_N0 2 mi_h121 [.int 4] mi_G (some (.int 1)) mi_G := mi_fun_ok mi_N0 2 121 (mi_h121, mi_c121) _ _ _ _ rfl (mi_eR_ok (by decide +kernel))
    refine mi_sem_call mi_in81 (i := (.invokestatic 70, 3, 121, 0, 9, 0, 157)) (by rfl) (by rfl) hM90 (by decide) ⟨Nat.le_of_ble_eq_true rfl, Nat.le_of_ble_eq_true rfl⟩ ?_
    refine mi_sem_steps mi_in81 (mi_calok_none _ _) 4 _ (11, [(0, .ref 0), (1, .int 4), (2, .int a2), (3, .int a3)], [.int 8, .int 1, .int a3], (0, 0), mi_G) (by rfl) ?_
    have hM91 : mi_Met mi_N0 1 mi_h120 [.int a3, .int 1, .int 8] mi_G (some (.int 1)) mi_G := by
      refine mi_met_of (y := 120) (q := (mi_h120, mi_c120)) rfl (by decide) (Nat.le_of_ble_eq_true rfl) ?_
      refine mi_sem_steps mi_in120 (mi_calok_none _ _) 2 _ (2, [(0, .int a3), (1, .int 1), (2, .int 8)], [.int 1, .int a3], (0, 0), mi_G) (by rfl) ?_
      refine mi_sem_b mi_in120 (decide (a3 < 1)) false (mi_ltF (1) (by decide) (by omega)) 14 5 ([(0, .int a3), (1, .int 1), (2, .int 8)], [], (0, 0), mi_G) (by rfl) ?_
      refine mi_sem_steps mi_in120 (mi_calok_none _ _) 2 _ (7, [(0, .int a3), (1, .int 1), (2, .int 8)], [.int 8, .int a3], (0, 0), mi_G) (by rfl) ?_
      refine mi_sem_b mi_in120 (decide (8 < a3)) false (mi_ltF2 (8) (by decide) (by omega)) 14 10 ([(0, .int a3), (1, .int 1), (2, .int 8)], [], (0, 0), mi_G) (by rfl) ?_
      refine mi_sem_steps mi_in120 (mi_calok_none _ _) 2 _ (15, [(0, .int a3), (1, .int 1), (2, .int 8)], [.int 1], (0, 0), mi_G) (by rfl) ?_
      exact mi_sem_ret (cal := fun _ _ _ => none) mi_in120 (by rfl)
    refine mi_sem_call mi_in81 (i := (.invokestatic 74, 3, 120, 0, 9, 0, 152)) (by rfl) (by rfl) hM91 (by decide) ⟨Nat.le_of_ble_eq_true rfl, Nat.le_of_ble_eq_true rfl⟩ ?_
    refine mi_sem_steps mi_in81 (mi_calok_none _ _) 10 _ (36, [(4, .ref 112), (0, .ref 0), (1, .int 4), (2, .int a2), (3, .int a3)], [.int 0], (0, 0), mi_G) (by rfl) ?_
    exact mi_sem_ret (cal := fun _ _ _ => none) mi_in81 (by rfl)
  · refine mi_met_of (y := 136) (q := (mi_h136, mi_c136)) rfl (by decide) (Nat.le_of_ble_eq_true rfl) ?_
    refine mi_sem_steps mi_in136 (mi_calok_none _ _) 1 _ (1, [(0, .ref 116), (1, .int 4), (2, .int a2), (3, .int a3)], [.int 4], (0, 0), mi_G) (by rfl) ?_
    have hM92 : mi_Met mi_N0 2 mi_h133 [.int 4] mi_G (some (.int 1)) mi_G := mi_fun_ok mi_N0 2 133 (mi_h133, mi_c133) _ _ _ _ rfl (mi_eR_ok (by decide +kernel))
    refine mi_sem_call mi_in136 (i := (.invokestatic 127, 3, 133, 0, 9, 0, 382)) (by rfl) (by rfl) hM92 (by decide) ⟨Nat.le_of_ble_eq_true rfl, Nat.le_of_ble_eq_true rfl⟩ ?_
    refine mi_sem_steps mi_in136 (mi_calok_none _ _) 4 _ (11, [(0, .ref 116), (1, .int 4), (2, .int a2), (3, .int a3)], [.int 8, .int 1, .int a3], (0, 0), mi_G) (by rfl) ?_
    have hM93 : mi_Met mi_N0 1 mi_h131 [.int a3, .int 1, .int 8] mi_G (some (.int 1)) mi_G := by
      refine mi_met_of (y := 131) (q := (mi_h131, mi_c131)) rfl (by decide) (Nat.le_of_ble_eq_true rfl) ?_
      refine mi_sem_steps mi_in131 (mi_calok_none _ _) 2 _ (2, [(0, .int a3), (1, .int 1), (2, .int 8)], [.int 1, .int a3], (0, 0), mi_G) (by rfl) ?_
      refine mi_sem_b mi_in131 (decide (a3 < 1)) false (mi_ltF (1) (by decide) (by omega)) 14 5 ([(0, .int a3), (1, .int 1), (2, .int 8)], [], (0, 0), mi_G) (by rfl) ?_
      refine mi_sem_steps mi_in131 (mi_calok_none _ _) 2 _ (7, [(0, .int a3), (1, .int 1), (2, .int 8)], [.int 8, .int a3], (0, 0), mi_G) (by rfl) ?_
      refine mi_sem_b mi_in131 (decide (8 < a3)) false (mi_ltF2 (8) (by decide) (by omega)) 14 10 ([(0, .int a3), (1, .int 1), (2, .int 8)], [], (0, 0), mi_G) (by rfl) ?_
      refine mi_sem_steps mi_in131 (mi_calok_none _ _) 2 _ (15, [(0, .int a3), (1, .int 1), (2, .int 8)], [.int 1], (0, 0), mi_G) (by rfl) ?_
      exact mi_sem_ret (cal := fun _ _ _ => none) mi_in131 (by rfl)
    refine mi_sem_call mi_in136 (i := (.invokestatic 119, 3, 131, 0, 9, 0, 379)) (by rfl) (by rfl) hM93 (by decide) ⟨Nat.le_of_ble_eq_true rfl, Nat.le_of_ble_eq_true rfl⟩ ?_
    refine mi_sem_steps mi_in136 (mi_calok_none _ _) 8 _ (30, [(0, .ref 116), (1, .int 4), (2, .int a2), (3, .int a3)], [.int 0], (0, 0), mi_G) (by rfl) ?_
    exact mi_sem_ret (cal := fun _ _ _ => none) mi_in136 (by rfl)

set_option maxRecDepth 100000 in
set_option maxHeartbeats 4000000 in
theorem mp_buyers_7 (a2 : Int32) (a3 : Int32) (r0 : 1 ≤ (a3).toInt ∧ (a3).toInt ≤ 8) : mi_P 81 136 [.int 5, .int a2, .int a3] := by
  refine ⟨.int 0, mi_G, mi_G, (mi_h81, mi_c81), (mi_h136, mi_c136), 3, 3, rfl, rfl, rfl, by decide, by decide, ?_, ?_⟩
  · refine mi_met_of (y := 81) (q := (mi_h81, mi_c81)) rfl (by decide) (Nat.le_of_ble_eq_true rfl) ?_
    refine mi_sem_steps mi_in81 (mi_calok_none _ _) 1 _ (1, [(0, .ref 0), (1, .int 5), (2, .int a2), (3, .int a3)], [.int 5], (0, 0), mi_G) (by rfl) ?_
    have hM94 : mi_Met mi_N0 2 mi_h121 [.int 5] mi_G (some (.int 1)) mi_G := mi_fun_ok mi_N0 2 121 (mi_h121, mi_c121) _ _ _ _ rfl (mi_eR_ok (by decide +kernel))
    refine mi_sem_call mi_in81 (i := (.invokestatic 70, 3, 121, 0, 9, 0, 157)) (by rfl) (by rfl) hM94 (by decide) ⟨Nat.le_of_ble_eq_true rfl, Nat.le_of_ble_eq_true rfl⟩ ?_
    refine mi_sem_steps mi_in81 (mi_calok_none _ _) 4 _ (11, [(0, .ref 0), (1, .int 5), (2, .int a2), (3, .int a3)], [.int 8, .int 1, .int a3], (0, 0), mi_G) (by rfl) ?_
    have hM95 : mi_Met mi_N0 1 mi_h120 [.int a3, .int 1, .int 8] mi_G (some (.int 1)) mi_G := by
      refine mi_met_of (y := 120) (q := (mi_h120, mi_c120)) rfl (by decide) (Nat.le_of_ble_eq_true rfl) ?_
      refine mi_sem_steps mi_in120 (mi_calok_none _ _) 2 _ (2, [(0, .int a3), (1, .int 1), (2, .int 8)], [.int 1, .int a3], (0, 0), mi_G) (by rfl) ?_
      refine mi_sem_b mi_in120 (decide (a3 < 1)) false (mi_ltF (1) (by decide) (by omega)) 14 5 ([(0, .int a3), (1, .int 1), (2, .int 8)], [], (0, 0), mi_G) (by rfl) ?_
      refine mi_sem_steps mi_in120 (mi_calok_none _ _) 2 _ (7, [(0, .int a3), (1, .int 1), (2, .int 8)], [.int 8, .int a3], (0, 0), mi_G) (by rfl) ?_
      refine mi_sem_b mi_in120 (decide (8 < a3)) false (mi_ltF2 (8) (by decide) (by omega)) 14 10 ([(0, .int a3), (1, .int 1), (2, .int 8)], [], (0, 0), mi_G) (by rfl) ?_
      refine mi_sem_steps mi_in120 (mi_calok_none _ _) 2 _ (15, [(0, .int a3), (1, .int 1), (2, .int 8)], [.int 1], (0, 0), mi_G) (by rfl) ?_
      exact mi_sem_ret (cal := fun _ _ _ => none) mi_in120 (by rfl)
    refine mi_sem_call mi_in81 (i := (.invokestatic 74, 3, 120, 0, 9, 0, 152)) (by rfl) (by rfl) hM95 (by decide) ⟨Nat.le_of_ble_eq_true rfl, Nat.le_of_ble_eq_true rfl⟩ ?_
    refine mi_sem_steps mi_in81 (mi_calok_none _ _) 10 _ (36, [(4, .ref 114), (0, .ref 0), (1, .int 5), (2, .int a2), (3, .int a3)], [.int 0], (0, 0), mi_G) (by rfl) ?_
    exact mi_sem_ret (cal := fun _ _ _ => none) mi_in81 (by rfl)
  · refine mi_met_of (y := 136) (q := (mi_h136, mi_c136)) rfl (by decide) (Nat.le_of_ble_eq_true rfl) ?_
    refine mi_sem_steps mi_in136 (mi_calok_none _ _) 1 _ (1, [(0, .ref 116), (1, .int 5), (2, .int a2), (3, .int a3)], [.int 5], (0, 0), mi_G) (by rfl) ?_
    have hM96 : mi_Met mi_N0 2 mi_h133 [.int 5] mi_G (some (.int 1)) mi_G := mi_fun_ok mi_N0 2 133 (mi_h133, mi_c133) _ _ _ _ rfl (mi_eR_ok (by decide +kernel))
    refine mi_sem_call mi_in136 (i := (.invokestatic 127, 3, 133, 0, 9, 0, 382)) (by rfl) (by rfl) hM96 (by decide) ⟨Nat.le_of_ble_eq_true rfl, Nat.le_of_ble_eq_true rfl⟩ ?_
    refine mi_sem_steps mi_in136 (mi_calok_none _ _) 4 _ (11, [(0, .ref 116), (1, .int 5), (2, .int a2), (3, .int a3)], [.int 8, .int 1, .int a3], (0, 0), mi_G) (by rfl) ?_
    have hM97 : mi_Met mi_N0 1 mi_h131 [.int a3, .int 1, .int 8] mi_G (some (.int 1)) mi_G := by
      refine mi_met_of (y := 131) (q := (mi_h131, mi_c131)) rfl (by decide) (Nat.le_of_ble_eq_true rfl) ?_
      refine mi_sem_steps mi_in131 (mi_calok_none _ _) 2 _ (2, [(0, .int a3), (1, .int 1), (2, .int 8)], [.int 1, .int a3], (0, 0), mi_G) (by rfl) ?_
      refine mi_sem_b mi_in131 (decide (a3 < 1)) false (mi_ltF (1) (by decide) (by omega)) 14 5 ([(0, .int a3), (1, .int 1), (2, .int 8)], [], (0, 0), mi_G) (by rfl) ?_
      refine mi_sem_steps mi_in131 (mi_calok_none _ _) 2 _ (7, [(0, .int a3), (1, .int 1), (2, .int 8)], [.int 8, .int a3], (0, 0), mi_G) (by rfl) ?_
      refine mi_sem_b mi_in131 (decide (8 < a3)) false (mi_ltF2 (8) (by decide) (by omega)) 14 10 ([(0, .int a3), (1, .int 1), (2, .int 8)], [], (0, 0), mi_G) (by rfl) ?_
      refine mi_sem_steps mi_in131 (mi_calok_none _ _) 2 _ (15, [(0, .int a3), (1, .int 1), (2, .int 8)], [.int 1], (0, 0), mi_G) (by rfl) ?_
      exact mi_sem_ret (cal := fun _ _ _ => none) mi_in131 (by rfl)
    refine mi_sem_call mi_in136 (i := (.invokestatic 119, 3, 131, 0, 9, 0, 379)) (by rfl) (by rfl) hM97 (by decide) ⟨Nat.le_of_ble_eq_true rfl, Nat.le_of_ble_eq_true rfl⟩ ?_
    refine mi_sem_steps mi_in136 (mi_calok_none _ _) 8 _ (30, [(0, .ref 116), (1, .int 5), (2, .int a2), (3, .int a3)], [.int 0], (0, 0), mi_G) (by rfl) ?_
    exact mi_sem_ret (cal := fun _ _ _ => none) mi_in136 (by rfl)

set_option maxRecDepth 100000 in
set_option maxHeartbeats 4000000 in
theorem mp_buyers_8 (a1 : Int32) (a2 : Int32) (a3 : Int32) (r0 : 0 ≤ (a1).toInt ∧ (a1).toInt ≤ 5) (r1 : 9 ≤ (a3).toInt ∧ (a3).toInt ≤ 2147483647) : mi_P 81 136 [.int a1, .int a2, .int a3] := by
  refine ⟨.int (-1), mi_G, mi_G, (mi_h81, mi_c81), (mi_h136, mi_c136), 3, 3, rfl, rfl, rfl, by decide, by decide, ?_, ?_⟩
  · refine mi_met_of (y := 81) (q := (mi_h81, mi_c81)) rfl (by decide) (Nat.le_of_ble_eq_true rfl) ?_
    refine mi_sem_steps mi_in81 (mi_calok_none _ _) 1 _ (1, [(0, .ref 0), (1, .int a1), (2, .int a2), (3, .int a3)], [.int a1], (0, 0), mi_G) (by rfl) ?_
    have hM99 : mi_Met mi_N0 2 mi_h121 [.int a1] mi_G (some (.int 1)) mi_G := by
      refine mi_met_of (y := 121) (q := (mi_h121, mi_c121)) rfl (by decide) (Nat.le_of_ble_eq_true rfl) ?_
      refine mi_sem_steps mi_in121 (mi_calok_none _ _) 3 _ (3, [(0, .int a1)], [.int 5, .int 0, .int a1], (0, 0), mi_G) (by rfl) ?_
      have hM98 : mi_Met mi_N0 1 mi_h120 [.int a1, .int 0, .int 5] mi_G (some (.int 1)) mi_G := by
        refine mi_met_of (y := 120) (q := (mi_h120, mi_c120)) rfl (by decide) (Nat.le_of_ble_eq_true rfl) ?_
        refine mi_sem_steps mi_in120 (mi_calok_none _ _) 2 _ (2, [(0, .int a1), (1, .int 0), (2, .int 5)], [.int 0, .int a1], (0, 0), mi_G) (by rfl) ?_
        refine mi_sem_b mi_in120 (decide (a1 < 0)) false (mi_ltF (0) (by decide) (by omega)) 14 5 ([(0, .int a1), (1, .int 0), (2, .int 5)], [], (0, 0), mi_G) (by rfl) ?_
        refine mi_sem_steps mi_in120 (mi_calok_none _ _) 2 _ (7, [(0, .int a1), (1, .int 0), (2, .int 5)], [.int 5, .int a1], (0, 0), mi_G) (by rfl) ?_
        refine mi_sem_b mi_in120 (decide (5 < a1)) false (mi_ltF2 (5) (by decide) (by omega)) 14 10 ([(0, .int a1), (1, .int 0), (2, .int 5)], [], (0, 0), mi_G) (by rfl) ?_
        refine mi_sem_steps mi_in120 (mi_calok_none _ _) 2 _ (15, [(0, .int a1), (1, .int 0), (2, .int 5)], [.int 1], (0, 0), mi_G) (by rfl) ?_
        exact mi_sem_ret (cal := fun _ _ _ => none) mi_in120 (by rfl)
      refine mi_sem_call mi_in121 (i := (.invokestatic 74, 3, 120, 0, 9, 0, 152)) (by rfl) (by rfl) hM98 (by decide) ⟨Nat.le_of_ble_eq_true rfl, Nat.le_of_ble_eq_true rfl⟩ ?_
      exact mi_sem_ret (cal := fun _ _ _ => none) mi_in121 (by rfl)
    refine mi_sem_call mi_in81 (i := (.invokestatic 70, 3, 121, 0, 9, 0, 157)) (by rfl) (by rfl) hM99 (by decide) ⟨Nat.le_of_ble_eq_true rfl, Nat.le_of_ble_eq_true rfl⟩ ?_
    refine mi_sem_steps mi_in81 (mi_calok_none _ _) 4 _ (11, [(0, .ref 0), (1, .int a1), (2, .int a2), (3, .int a3)], [.int 8, .int 1, .int a3], (0, 0), mi_G) (by rfl) ?_
    have hM100 : mi_Met mi_N0 1 mi_h120 [.int a3, .int 1, .int 8] mi_G (some (.int 0)) mi_G := by
      refine mi_met_of (y := 120) (q := (mi_h120, mi_c120)) rfl (by decide) (Nat.le_of_ble_eq_true rfl) ?_
      refine mi_sem_steps mi_in120 (mi_calok_none _ _) 2 _ (2, [(0, .int a3), (1, .int 1), (2, .int 8)], [.int 1, .int a3], (0, 0), mi_G) (by rfl) ?_
      refine mi_sem_b mi_in120 (decide (a3 < 1)) false (mi_ltF (1) (by decide) (by omega)) 14 5 ([(0, .int a3), (1, .int 1), (2, .int 8)], [], (0, 0), mi_G) (by rfl) ?_
      refine mi_sem_steps mi_in120 (mi_calok_none _ _) 2 _ (7, [(0, .int a3), (1, .int 1), (2, .int 8)], [.int 8, .int a3], (0, 0), mi_G) (by rfl) ?_
      refine mi_sem_b mi_in120 (decide (8 < a3)) true (mi_ltT2 (8) (by decide) (by omega)) 14 10 ([(0, .int a3), (1, .int 1), (2, .int 8)], [], (0, 0), mi_G) (by rfl) ?_
      refine mi_sem_steps mi_in120 (mi_calok_none _ _) 1 _ (15, [(0, .int a3), (1, .int 1), (2, .int 8)], [.int 0], (0, 0), mi_G) (by rfl) ?_
      exact mi_sem_ret (cal := fun _ _ _ => none) mi_in120 (by rfl)
    refine mi_sem_call mi_in81 (i := (.invokestatic 74, 3, 120, 0, 9, 0, 152)) (by rfl) (by rfl) hM100 (by decide) ⟨Nat.le_of_ble_eq_true rfl, Nat.le_of_ble_eq_true rfl⟩ ?_
    refine mi_sem_steps mi_in81 (mi_calok_none _ _) 2 _ (18, [(0, .ref 0), (1, .int a1), (2, .int a2), (3, .int a3)], [.int (-1)], (0, 0), mi_G) (by rfl) ?_
    exact mi_sem_ret (cal := fun _ _ _ => none) mi_in81 (by rfl)
  · refine mi_met_of (y := 136) (q := (mi_h136, mi_c136)) rfl (by decide) (Nat.le_of_ble_eq_true rfl) ?_
    refine mi_sem_steps mi_in136 (mi_calok_none _ _) 1 _ (1, [(0, .ref 116), (1, .int a1), (2, .int a2), (3, .int a3)], [.int a1], (0, 0), mi_G) (by rfl) ?_
    have hM102 : mi_Met mi_N0 2 mi_h133 [.int a1] mi_G (some (.int 1)) mi_G := by
      refine mi_met_of (y := 133) (q := (mi_h133, mi_c133)) rfl (by decide) (Nat.le_of_ble_eq_true rfl) ?_
      refine mi_sem_steps mi_in133 (mi_calok_none _ _) 3 _ (3, [(0, .int a1)], [.int 5, .int 0, .int a1], (0, 0), mi_G) (by rfl) ?_
      have hM101 : mi_Met mi_N0 1 mi_h131 [.int a1, .int 0, .int 5] mi_G (some (.int 1)) mi_G := by
        refine mi_met_of (y := 131) (q := (mi_h131, mi_c131)) rfl (by decide) (Nat.le_of_ble_eq_true rfl) ?_
        refine mi_sem_steps mi_in131 (mi_calok_none _ _) 2 _ (2, [(0, .int a1), (1, .int 0), (2, .int 5)], [.int 0, .int a1], (0, 0), mi_G) (by rfl) ?_
        refine mi_sem_b mi_in131 (decide (a1 < 0)) false (mi_ltF (0) (by decide) (by omega)) 14 5 ([(0, .int a1), (1, .int 0), (2, .int 5)], [], (0, 0), mi_G) (by rfl) ?_
        refine mi_sem_steps mi_in131 (mi_calok_none _ _) 2 _ (7, [(0, .int a1), (1, .int 0), (2, .int 5)], [.int 5, .int a1], (0, 0), mi_G) (by rfl) ?_
        refine mi_sem_b mi_in131 (decide (5 < a1)) false (mi_ltF2 (5) (by decide) (by omega)) 14 10 ([(0, .int a1), (1, .int 0), (2, .int 5)], [], (0, 0), mi_G) (by rfl) ?_
        refine mi_sem_steps mi_in131 (mi_calok_none _ _) 2 _ (15, [(0, .int a1), (1, .int 0), (2, .int 5)], [.int 1], (0, 0), mi_G) (by rfl) ?_
        exact mi_sem_ret (cal := fun _ _ _ => none) mi_in131 (by rfl)
      refine mi_sem_call mi_in133 (i := (.invokestatic 119, 3, 131, 0, 9, 0, 379)) (by rfl) (by rfl) hM101 (by decide) ⟨Nat.le_of_ble_eq_true rfl, Nat.le_of_ble_eq_true rfl⟩ ?_
      exact mi_sem_ret (cal := fun _ _ _ => none) mi_in133 (by rfl)
    refine mi_sem_call mi_in136 (i := (.invokestatic 127, 3, 133, 0, 9, 0, 382)) (by rfl) (by rfl) hM102 (by decide) ⟨Nat.le_of_ble_eq_true rfl, Nat.le_of_ble_eq_true rfl⟩ ?_
    refine mi_sem_steps mi_in136 (mi_calok_none _ _) 4 _ (11, [(0, .ref 116), (1, .int a1), (2, .int a2), (3, .int a3)], [.int 8, .int 1, .int a3], (0, 0), mi_G) (by rfl) ?_
    have hM103 : mi_Met mi_N0 1 mi_h131 [.int a3, .int 1, .int 8] mi_G (some (.int 0)) mi_G := by
      refine mi_met_of (y := 131) (q := (mi_h131, mi_c131)) rfl (by decide) (Nat.le_of_ble_eq_true rfl) ?_
      refine mi_sem_steps mi_in131 (mi_calok_none _ _) 2 _ (2, [(0, .int a3), (1, .int 1), (2, .int 8)], [.int 1, .int a3], (0, 0), mi_G) (by rfl) ?_
      refine mi_sem_b mi_in131 (decide (a3 < 1)) false (mi_ltF (1) (by decide) (by omega)) 14 5 ([(0, .int a3), (1, .int 1), (2, .int 8)], [], (0, 0), mi_G) (by rfl) ?_
      refine mi_sem_steps mi_in131 (mi_calok_none _ _) 2 _ (7, [(0, .int a3), (1, .int 1), (2, .int 8)], [.int 8, .int a3], (0, 0), mi_G) (by rfl) ?_
      refine mi_sem_b mi_in131 (decide (8 < a3)) true (mi_ltT2 (8) (by decide) (by omega)) 14 10 ([(0, .int a3), (1, .int 1), (2, .int 8)], [], (0, 0), mi_G) (by rfl) ?_
      refine mi_sem_steps mi_in131 (mi_calok_none _ _) 1 _ (15, [(0, .int a3), (1, .int 1), (2, .int 8)], [.int 0], (0, 0), mi_G) (by rfl) ?_
      exact mi_sem_ret (cal := fun _ _ _ => none) mi_in131 (by rfl)
    refine mi_sem_call mi_in136 (i := (.invokestatic 119, 3, 131, 0, 9, 0, 379)) (by rfl) (by rfl) hM103 (by decide) ⟨Nat.le_of_ble_eq_true rfl, Nat.le_of_ble_eq_true rfl⟩ ?_
    refine mi_sem_steps mi_in136 (mi_calok_none _ _) 2 _ (18, [(0, .ref 116), (1, .int a1), (2, .int a2), (3, .int a3)], [.int (-1)], (0, 0), mi_G) (by rfl) ?_
    exact mi_sem_ret (cal := fun _ _ _ => none) mi_in136 (by rfl)

set_option maxRecDepth 100000 in
set_option maxHeartbeats 4000000 in
theorem mp_buyers_9 (a1 : Int32) (a2 : Int32) (a3 : Int32) (r0 : 6 ≤ (a1).toInt ∧ (a1).toInt ≤ 2147483647) : mi_P 81 136 [.int a1, .int a2, .int a3] := by
  refine ⟨.int (-1), mi_G, mi_G, (mi_h81, mi_c81), (mi_h136, mi_c136), 3, 3, rfl, rfl, rfl, by decide, by decide, ?_, ?_⟩
  · refine mi_met_of (y := 81) (q := (mi_h81, mi_c81)) rfl (by decide) (Nat.le_of_ble_eq_true rfl) ?_
    refine mi_sem_steps mi_in81 (mi_calok_none _ _) 1 _ (1, [(0, .ref 0), (1, .int a1), (2, .int a2), (3, .int a3)], [.int a1], (0, 0), mi_G) (by rfl) ?_
    have hM105 : mi_Met mi_N0 2 mi_h121 [.int a1] mi_G (some (.int 0)) mi_G := by
      refine mi_met_of (y := 121) (q := (mi_h121, mi_c121)) rfl (by decide) (Nat.le_of_ble_eq_true rfl) ?_
      refine mi_sem_steps mi_in121 (mi_calok_none _ _) 3 _ (3, [(0, .int a1)], [.int 5, .int 0, .int a1], (0, 0), mi_G) (by rfl) ?_
      have hM104 : mi_Met mi_N0 1 mi_h120 [.int a1, .int 0, .int 5] mi_G (some (.int 0)) mi_G := by
        refine mi_met_of (y := 120) (q := (mi_h120, mi_c120)) rfl (by decide) (Nat.le_of_ble_eq_true rfl) ?_
        refine mi_sem_steps mi_in120 (mi_calok_none _ _) 2 _ (2, [(0, .int a1), (1, .int 0), (2, .int 5)], [.int 0, .int a1], (0, 0), mi_G) (by rfl) ?_
        refine mi_sem_b mi_in120 (decide (a1 < 0)) false (mi_ltF (0) (by decide) (by omega)) 14 5 ([(0, .int a1), (1, .int 0), (2, .int 5)], [], (0, 0), mi_G) (by rfl) ?_
        refine mi_sem_steps mi_in120 (mi_calok_none _ _) 2 _ (7, [(0, .int a1), (1, .int 0), (2, .int 5)], [.int 5, .int a1], (0, 0), mi_G) (by rfl) ?_
        refine mi_sem_b mi_in120 (decide (5 < a1)) true (mi_ltT2 (5) (by decide) (by omega)) 14 10 ([(0, .int a1), (1, .int 0), (2, .int 5)], [], (0, 0), mi_G) (by rfl) ?_
        refine mi_sem_steps mi_in120 (mi_calok_none _ _) 1 _ (15, [(0, .int a1), (1, .int 0), (2, .int 5)], [.int 0], (0, 0), mi_G) (by rfl) ?_
        exact mi_sem_ret (cal := fun _ _ _ => none) mi_in120 (by rfl)
      refine mi_sem_call mi_in121 (i := (.invokestatic 74, 3, 120, 0, 9, 0, 152)) (by rfl) (by rfl) hM104 (by decide) ⟨Nat.le_of_ble_eq_true rfl, Nat.le_of_ble_eq_true rfl⟩ ?_
      exact mi_sem_ret (cal := fun _ _ _ => none) mi_in121 (by rfl)
    refine mi_sem_call mi_in81 (i := (.invokestatic 70, 3, 121, 0, 9, 0, 157)) (by rfl) (by rfl) hM105 (by decide) ⟨Nat.le_of_ble_eq_true rfl, Nat.le_of_ble_eq_true rfl⟩ ?_
    refine mi_sem_steps mi_in81 (mi_calok_none _ _) 2 _ (18, [(0, .ref 0), (1, .int a1), (2, .int a2), (3, .int a3)], [.int (-1)], (0, 0), mi_G) (by rfl) ?_
    exact mi_sem_ret (cal := fun _ _ _ => none) mi_in81 (by rfl)
  · refine mi_met_of (y := 136) (q := (mi_h136, mi_c136)) rfl (by decide) (Nat.le_of_ble_eq_true rfl) ?_
    refine mi_sem_steps mi_in136 (mi_calok_none _ _) 1 _ (1, [(0, .ref 116), (1, .int a1), (2, .int a2), (3, .int a3)], [.int a1], (0, 0), mi_G) (by rfl) ?_
    have hM107 : mi_Met mi_N0 2 mi_h133 [.int a1] mi_G (some (.int 0)) mi_G := by
      refine mi_met_of (y := 133) (q := (mi_h133, mi_c133)) rfl (by decide) (Nat.le_of_ble_eq_true rfl) ?_
      refine mi_sem_steps mi_in133 (mi_calok_none _ _) 3 _ (3, [(0, .int a1)], [.int 5, .int 0, .int a1], (0, 0), mi_G) (by rfl) ?_
      have hM106 : mi_Met mi_N0 1 mi_h131 [.int a1, .int 0, .int 5] mi_G (some (.int 0)) mi_G := by
        refine mi_met_of (y := 131) (q := (mi_h131, mi_c131)) rfl (by decide) (Nat.le_of_ble_eq_true rfl) ?_
        refine mi_sem_steps mi_in131 (mi_calok_none _ _) 2 _ (2, [(0, .int a1), (1, .int 0), (2, .int 5)], [.int 0, .int a1], (0, 0), mi_G) (by rfl) ?_
        refine mi_sem_b mi_in131 (decide (a1 < 0)) false (mi_ltF (0) (by decide) (by omega)) 14 5 ([(0, .int a1), (1, .int 0), (2, .int 5)], [], (0, 0), mi_G) (by rfl) ?_
        refine mi_sem_steps mi_in131 (mi_calok_none _ _) 2 _ (7, [(0, .int a1), (1, .int 0), (2, .int 5)], [.int 5, .int a1], (0, 0), mi_G) (by rfl) ?_
        refine mi_sem_b mi_in131 (decide (5 < a1)) true (mi_ltT2 (5) (by decide) (by omega)) 14 10 ([(0, .int a1), (1, .int 0), (2, .int 5)], [], (0, 0), mi_G) (by rfl) ?_
        refine mi_sem_steps mi_in131 (mi_calok_none _ _) 1 _ (15, [(0, .int a1), (1, .int 0), (2, .int 5)], [.int 0], (0, 0), mi_G) (by rfl) ?_
        exact mi_sem_ret (cal := fun _ _ _ => none) mi_in131 (by rfl)
      refine mi_sem_call mi_in133 (i := (.invokestatic 119, 3, 131, 0, 9, 0, 379)) (by rfl) (by rfl) hM106 (by decide) ⟨Nat.le_of_ble_eq_true rfl, Nat.le_of_ble_eq_true rfl⟩ ?_
      exact mi_sem_ret (cal := fun _ _ _ => none) mi_in133 (by rfl)
    refine mi_sem_call mi_in136 (i := (.invokestatic 127, 3, 133, 0, 9, 0, 382)) (by rfl) (by rfl) hM107 (by decide) ⟨Nat.le_of_ble_eq_true rfl, Nat.le_of_ble_eq_true rfl⟩ ?_
    refine mi_sem_steps mi_in136 (mi_calok_none _ _) 2 _ (18, [(0, .ref 116), (1, .int a1), (2, .int a2), (3, .int a3)], [.int (-1)], (0, 0), mi_G) (by rfl) ?_
    exact mi_sem_ret (cal := fun _ _ _ => none) mi_in136 (by rfl)

set_option maxRecDepth 100000 in
set_option maxHeartbeats 4000000 in
theorem mp_buyers (a1 : Int32) (a2 : Int32) (a3 : Int32) : mi_P 81 136 [.int a1, .int a2, .int a3] := by
  have b0 := Int32.toInt_lt (a1)
  have c0 := Int32.le_toInt (a1)
  have b1 := Int32.toInt_lt (a3)
  have c1 := Int32.le_toInt (a3)
  rcases Int.lt_or_le (a1).toInt 0 with _hh | _hh
  ·
    exact mp_buyers_0 a1 a2 a3 ⟨by omega, by omega⟩
  ·
    rcases Int.lt_or_le (a1).toInt 6 with _hh | _hh
    ·
      rcases Int.lt_or_le (a3).toInt 1 with _hh | _hh
      ·
        exact mp_buyers_1 a1 a2 a3 ⟨by omega, by omega⟩ ⟨by omega, by omega⟩
      ·
        rcases Int.lt_or_le (a3).toInt 9 with _hh | _hh
        ·
          rcases Int.lt_or_le (a1).toInt 1 with _hh | _hh
          ·
            have e_a1 : a1 = 0 := Int32.toInt_inj.mp ((by omega : (a1).toInt = 0).trans (by decide))
            subst e_a1
            exact mp_buyers_2 a2 a3 ⟨by omega, by omega⟩
          ·
            rcases Int.lt_or_le (a1).toInt 2 with _hh | _hh
            ·
              have e_a1 : a1 = 1 := Int32.toInt_inj.mp ((by omega : (a1).toInt = 1).trans (by decide))
              subst e_a1
              exact mp_buyers_3 a2 a3 ⟨by omega, by omega⟩
            ·
              rcases Int.lt_or_le (a1).toInt 3 with _hh | _hh
              ·
                have e_a1 : a1 = 2 := Int32.toInt_inj.mp ((by omega : (a1).toInt = 2).trans (by decide))
                subst e_a1
                exact mp_buyers_4 a2 a3 ⟨by omega, by omega⟩
              ·
                rcases Int.lt_or_le (a1).toInt 4 with _hh | _hh
                ·
                  have e_a1 : a1 = 3 := Int32.toInt_inj.mp ((by omega : (a1).toInt = 3).trans (by decide))
                  subst e_a1
                  exact mp_buyers_5 a2 a3 ⟨by omega, by omega⟩
                ·
                  rcases Int.lt_or_le (a1).toInt 5 with _hh | _hh
                  ·
                    have e_a1 : a1 = 4 := Int32.toInt_inj.mp ((by omega : (a1).toInt = 4).trans (by decide))
                    subst e_a1
                    exact mp_buyers_6 a2 a3 ⟨by omega, by omega⟩
                  ·
                    have e_a1 : a1 = 5 := Int32.toInt_inj.mp ((by omega : (a1).toInt = 5).trans (by decide))
                    subst e_a1
                    exact mp_buyers_7 a2 a3 ⟨by omega, by omega⟩
        ·
          exact mp_buyers_8 a1 a2 a3 ⟨by omega, by omega⟩ ⟨by omega, by omega⟩
    ·
      exact mp_buyers_9 a1 a2 a3 ⟨by omega, by omega⟩

set_option maxRecDepth 100000 in
set_option maxHeartbeats 4000000 in
theorem mp_mend_0 (a1 : Int32) (a2 : Int32) (a3 : Int32) (r0 : (-2147483648) ≤ (a2).toInt ∧ (a2).toInt ≤ (-1)) : mi_P 83 142 [.int a1, .int a2, .int a3] := by
  refine ⟨.int (-1), mi_G, mi_G, (mi_h83, mi_c83), (mi_h142, mi_c142), 2, 3, rfl, rfl, rfl, by decide, by decide, ?_, ?_⟩
  · refine mi_met_of (y := 83) (q := (mi_h83, mi_c83)) rfl (by decide) (Nat.le_of_ble_eq_true rfl) ?_
    refine mi_sem_steps mi_in83 (mi_calok_none _ _) 3 _ (3, [(0, .ref 0), (1, .int a1), (2, .int a2), (3, .int a3)], [.int a2, .int a1, .ref 0], (0, 0), mi_G) (by rfl) ?_
    have hM108 : mi_Met mi_N0 1 mi_h125 [.ref 0, .int a1, .int a2] mi_G (some (.int 0)) mi_G := by
      refine mi_met_of (y := 125) (q := (mi_h125, mi_c125)) rfl (by decide) (Nat.le_of_ble_eq_true rfl) ?_
      refine mi_sem_steps mi_in125 (mi_calok_none _ _) 1 _ (1, [(0, .ref 0), (1, .int a1), (2, .int a2)], [.int a2], (0, 0), mi_G) (by rfl) ?_
      refine mi_sem_b mi_in125 (decide (a2 < 0)) true (mi_ltT (0) (by decide) (by omega)) 17 4 ([(0, .ref 0), (1, .int a1), (2, .int a2)], [], (0, 0), mi_G) (by rfl) ?_
      refine mi_sem_steps mi_in125 (mi_calok_none _ _) 2 _ (19, [(0, .ref 0), (1, .int a1), (2, .int a2)], [.int 4, .int a2], (0, 0), mi_G) (by rfl) ?_
      refine mi_sem_b mi_in125 (decide (a2 < 4)) true (mi_ltT (4) (by decide) (by omega)) 36 22 ([(0, .ref 0), (1, .int a1), (2, .int a2)], [], (0, 0), mi_G) (by rfl) ?_
      refine mi_sem_steps mi_in125 (mi_calok_none _ _) 1 _ (37, [(0, .ref 0), (1, .int a1), (2, .int a2)], [.int 0], (0, 0), mi_G) (by rfl) ?_
      exact mi_sem_ret (cal := fun _ _ _ => none) mi_in125 (by rfl)
    refine mi_sem_call mi_in83 (i := (.invokevirtual 95, 3, 125, 0, 9, 0, 161)) (by rfl) (by rfl) hM108 (by decide) ⟨Nat.le_of_ble_eq_true rfl, Nat.le_of_ble_eq_true rfl⟩ ?_
    refine mi_sem_steps mi_in83 (mi_calok_none _ _) 2 _ (18, [(0, .ref 0), (1, .int a1), (2, .int a2), (3, .int a3)], [.int (-1)], (0, 0), mi_G) (by rfl) ?_
    exact mi_sem_ret (cal := fun _ _ _ => none) mi_in83 (by rfl)
  · refine mi_met_of (y := 142) (q := (mi_h142, mi_c142)) rfl (by decide) (Nat.le_of_ble_eq_true rfl) ?_
    refine mi_sem_steps mi_in142 (mi_calok_none _ _) 3 _ (3, [(0, .ref 116), (1, .int a1), (2, .int a2), (3, .int a3)], [.int a2, .int a1, .ref 116], (0, 0), mi_G) (by rfl) ?_
    have hM111 : mi_Met mi_N0 2 mi_h138 [.ref 116, .int a1, .int a2] mi_G (some (.int 0)) mi_G := by
      refine mi_met_of (y := 138) (q := (mi_h138, mi_c138)) rfl (by decide) (Nat.le_of_ble_eq_true rfl) ?_
      refine mi_sem_steps mi_in138 (mi_calok_none _ _) 3 _ (3, [(0, .ref 116), (1, .int a1), (2, .int a2)], [.int 3, .int 0, .int a2], (0, 0), mi_G) (by rfl) ?_
      have hM109 : mi_Met mi_N0 1 mi_h131 [.int a2, .int 0, .int 3] mi_G (some (.int 0)) mi_G := by
        refine mi_met_of (y := 131) (q := (mi_h131, mi_c131)) rfl (by decide) (Nat.le_of_ble_eq_true rfl) ?_
        refine mi_sem_steps mi_in131 (mi_calok_none _ _) 2 _ (2, [(0, .int a2), (1, .int 0), (2, .int 3)], [.int 0, .int a2], (0, 0), mi_G) (by rfl) ?_
        refine mi_sem_b mi_in131 (decide (a2 < 0)) true (mi_ltT (0) (by decide) (by omega)) 14 5 ([(0, .int a2), (1, .int 0), (2, .int 3)], [], (0, 0), mi_G) (by rfl) ?_
        refine mi_sem_steps mi_in131 (mi_calok_none _ _) 1 _ (15, [(0, .int a2), (1, .int 0), (2, .int 3)], [.int 0], (0, 0), mi_G) (by rfl) ?_
        exact mi_sem_ret (cal := fun _ _ _ => none) mi_in131 (by rfl)
      refine mi_sem_call mi_in138 (i := (.invokestatic 119, 3, 131, 0, 9, 0, 379)) (by rfl) (by rfl) hM109 (by decide) ⟨Nat.le_of_ble_eq_true rfl, Nat.le_of_ble_eq_true rfl⟩ ?_
      refine mi_sem_steps mi_in138 (mi_calok_none _ _) 4 _ (21, [(0, .ref 116), (1, .int a1), (2, .int a2)], [.int 6, .int 4, .int a2], (0, 0), mi_G) (by rfl) ?_
      have hM110 : mi_Met mi_N0 1 mi_h131 [.int a2, .int 4, .int 6] mi_G (some (.int 0)) mi_G := by
        refine mi_met_of (y := 131) (q := (mi_h131, mi_c131)) rfl (by decide) (Nat.le_of_ble_eq_true rfl) ?_
        refine mi_sem_steps mi_in131 (mi_calok_none _ _) 2 _ (2, [(0, .int a2), (1, .int 4), (2, .int 6)], [.int 4, .int a2], (0, 0), mi_G) (by rfl) ?_
        refine mi_sem_b mi_in131 (decide (a2 < 4)) true (mi_ltT (4) (by decide) (by omega)) 14 5 ([(0, .int a2), (1, .int 4), (2, .int 6)], [], (0, 0), mi_G) (by rfl) ?_
        refine mi_sem_steps mi_in131 (mi_calok_none _ _) 1 _ (15, [(0, .int a2), (1, .int 4), (2, .int 6)], [.int 0], (0, 0), mi_G) (by rfl) ?_
        exact mi_sem_ret (cal := fun _ _ _ => none) mi_in131 (by rfl)
      refine mi_sem_call mi_in138 (i := (.invokestatic 119, 3, 131, 0, 9, 0, 379)) (by rfl) (by rfl) hM110 (by decide) ⟨Nat.le_of_ble_eq_true rfl, Nat.le_of_ble_eq_true rfl⟩ ?_
      refine mi_sem_steps mi_in138 (mi_calok_none _ _) 2 _ (36, [(0, .ref 116), (1, .int a1), (2, .int a2)], [.int 0], (0, 0), mi_G) (by rfl) ?_
      exact mi_sem_ret (cal := fun _ _ _ => none) mi_in138 (by rfl)
    refine mi_sem_call mi_in142 (i := (.invokevirtual 140, 3, 138, 0, 9, 0, 386)) (by rfl) (by rfl) hM111 (by decide) ⟨Nat.le_of_ble_eq_true rfl, Nat.le_of_ble_eq_true rfl⟩ ?_
    refine mi_sem_steps mi_in142 (mi_calok_none _ _) 2 _ (18, [(0, .ref 116), (1, .int a1), (2, .int a2), (3, .int a3)], [.int (-1)], (0, 0), mi_G) (by rfl) ?_
    exact mi_sem_ret (cal := fun _ _ _ => none) mi_in142 (by rfl)

set_option maxRecDepth 100000 in
set_option maxHeartbeats 4000000 in
theorem mp_mend_1 (a1 : Int32) (a2 : Int32) (a3 : Int32) (r0 : 0 ≤ (a2).toInt ∧ (a2).toInt ≤ 3) (r1 : (-2147483648) ≤ (a1).toInt ∧ (a1).toInt ≤ (-1)) : mi_P 83 142 [.int a1, .int a2, .int a3] := by
  refine ⟨.int (-1), mi_G, mi_G, (mi_h83, mi_c83), (mi_h142, mi_c142), 4, 4, rfl, rfl, rfl, by decide, by decide, ?_, ?_⟩
  · refine mi_met_of (y := 83) (q := (mi_h83, mi_c83)) rfl (by decide) (Nat.le_of_ble_eq_true rfl) ?_
    refine mi_sem_steps mi_in83 (mi_calok_none _ _) 3 _ (3, [(0, .ref 0), (1, .int a1), (2, .int a2), (3, .int a3)], [.int a2, .int a1, .ref 0], (0, 0), mi_G) (by rfl) ?_
    have hM114 : mi_Met mi_N0 3 mi_h125 [.ref 0, .int a1, .int a2] mi_G (some (.int 0)) mi_G := by
      refine mi_met_of (y := 125) (q := (mi_h125, mi_c125)) rfl (by decide) (Nat.le_of_ble_eq_true rfl) ?_
      refine mi_sem_steps mi_in125 (mi_calok_none _ _) 1 _ (1, [(0, .ref 0), (1, .int a1), (2, .int a2)], [.int a2], (0, 0), mi_G) (by rfl) ?_
      refine mi_sem_b mi_in125 (decide (a2 < 0)) false (mi_ltF (0) (by decide) (by omega)) 17 4 ([(0, .ref 0), (1, .int a1), (2, .int a2)], [], (0, 0), mi_G) (by rfl) ?_
      refine mi_sem_steps mi_in125 (mi_calok_none _ _) 2 _ (6, [(0, .ref 0), (1, .int a1), (2, .int a2)], [.int 4, .int a2], (0, 0), mi_G) (by rfl) ?_
      refine mi_sem_b mi_in125 (decide (4 ≤ a2)) false (mi_leF2 (4) (by decide) (by omega)) 17 9 ([(0, .ref 0), (1, .int a1), (2, .int a2)], [], (0, 0), mi_G) (by rfl) ?_
      refine mi_sem_steps mi_in125 (mi_calok_none _ _) 2 _ (11, [(0, .ref 0), (1, .int a1), (2, .int a2)], [.int a1, .ref 0], (0, 0), mi_G) (by rfl) ?_
      have hM113 : mi_Met mi_N0 2 mi_h123 [.ref 0, .int a1] mi_G (some (.int 0)) mi_G := by
        refine mi_met_of (y := 123) (q := (mi_h123, mi_c123)) rfl (by decide) (Nat.le_of_ble_eq_true rfl) ?_
        refine mi_sem_steps mi_in123 (mi_calok_none _ _) 3 _ (5, [(0, .ref 0), (1, .int a1)], [.int a1, .ref 1], (0, 0), mi_G) (by rfl) ?_
        have hM112 : mi_Met mi_N0 1 mi_h24 [.ref 1, .int a1] mi_G (some (.int 0)) mi_G := by
          refine mi_met_of (y := 24) (q := (mi_h24, mi_c24)) rfl (by decide) (Nat.le_of_ble_eq_true rfl) ?_
          refine mi_sem_steps mi_in24 (mi_calok_none _ _) 1 _ (1, [(0, .ref 1), (1, .int a1)], [.int a1], (0, 0), mi_G) (by rfl) ?_
          refine mi_sem_b mi_in24 (decide (a1 < 0)) true (mi_ltT (0) (by decide) (by omega)) 22 4 ([(0, .ref 1), (1, .int a1)], [], (0, 0), mi_G) (by rfl) ?_
          refine mi_sem_steps mi_in24 (mi_calok_none _ _) 1 _ (23, [(0, .ref 1), (1, .int a1)], [.int 0], (0, 0), mi_G) (by rfl) ?_
          exact mi_sem_ret (cal := fun _ _ _ => none) mi_in24 (by rfl)
        refine mi_sem_call mi_in123 (i := (.invokevirtual 342, 3, 24, 0, 9, 0, 163)) (by rfl) (by rfl) hM112 (by decide) ⟨Nat.le_of_ble_eq_true rfl, Nat.le_of_ble_eq_true rfl⟩ ?_
        exact mi_sem_ret (cal := fun _ _ _ => none) mi_in123 (by rfl)
      refine mi_sem_call mi_in125 (i := (.invokevirtual 141, 3, 123, 0, 9, 0, 162)) (by rfl) (by rfl) hM113 (by decide) ⟨Nat.le_of_ble_eq_true rfl, Nat.le_of_ble_eq_true rfl⟩ ?_
      refine mi_sem_steps mi_in125 (mi_calok_none _ _) 3 _ (19, [(0, .ref 0), (1, .int a1), (2, .int a2)], [.int 4, .int a2], (0, 0), mi_G) (by rfl) ?_
      refine mi_sem_b mi_in125 (decide (a2 < 4)) true (mi_ltT (4) (by decide) (by omega)) 36 22 ([(0, .ref 0), (1, .int a1), (2, .int a2)], [], (0, 0), mi_G) (by rfl) ?_
      refine mi_sem_steps mi_in125 (mi_calok_none _ _) 1 _ (37, [(0, .ref 0), (1, .int a1), (2, .int a2)], [.int 0], (0, 0), mi_G) (by rfl) ?_
      exact mi_sem_ret (cal := fun _ _ _ => none) mi_in125 (by rfl)
    refine mi_sem_call mi_in83 (i := (.invokevirtual 95, 3, 125, 0, 9, 0, 161)) (by rfl) (by rfl) hM114 (by decide) ⟨Nat.le_of_ble_eq_true rfl, Nat.le_of_ble_eq_true rfl⟩ ?_
    refine mi_sem_steps mi_in83 (mi_calok_none _ _) 2 _ (18, [(0, .ref 0), (1, .int a1), (2, .int a2), (3, .int a3)], [.int (-1)], (0, 0), mi_G) (by rfl) ?_
    exact mi_sem_ret (cal := fun _ _ _ => none) mi_in83 (by rfl)
  · refine mi_met_of (y := 142) (q := (mi_h142, mi_c142)) rfl (by decide) (Nat.le_of_ble_eq_true rfl) ?_
    refine mi_sem_steps mi_in142 (mi_calok_none _ _) 3 _ (3, [(0, .ref 116), (1, .int a1), (2, .int a2), (3, .int a3)], [.int a2, .int a1, .ref 116], (0, 0), mi_G) (by rfl) ?_
    have hM118 : mi_Met mi_N0 3 mi_h138 [.ref 116, .int a1, .int a2] mi_G (some (.int 0)) mi_G := by
      refine mi_met_of (y := 138) (q := (mi_h138, mi_c138)) rfl (by decide) (Nat.le_of_ble_eq_true rfl) ?_
      refine mi_sem_steps mi_in138 (mi_calok_none _ _) 3 _ (3, [(0, .ref 116), (1, .int a1), (2, .int a2)], [.int 3, .int 0, .int a2], (0, 0), mi_G) (by rfl) ?_
      have hM115 : mi_Met mi_N0 1 mi_h131 [.int a2, .int 0, .int 3] mi_G (some (.int 1)) mi_G := by
        refine mi_met_of (y := 131) (q := (mi_h131, mi_c131)) rfl (by decide) (Nat.le_of_ble_eq_true rfl) ?_
        refine mi_sem_steps mi_in131 (mi_calok_none _ _) 2 _ (2, [(0, .int a2), (1, .int 0), (2, .int 3)], [.int 0, .int a2], (0, 0), mi_G) (by rfl) ?_
        refine mi_sem_b mi_in131 (decide (a2 < 0)) false (mi_ltF (0) (by decide) (by omega)) 14 5 ([(0, .int a2), (1, .int 0), (2, .int 3)], [], (0, 0), mi_G) (by rfl) ?_
        refine mi_sem_steps mi_in131 (mi_calok_none _ _) 2 _ (7, [(0, .int a2), (1, .int 0), (2, .int 3)], [.int 3, .int a2], (0, 0), mi_G) (by rfl) ?_
        refine mi_sem_b mi_in131 (decide (3 < a2)) false (mi_ltF2 (3) (by decide) (by omega)) 14 10 ([(0, .int a2), (1, .int 0), (2, .int 3)], [], (0, 0), mi_G) (by rfl) ?_
        refine mi_sem_steps mi_in131 (mi_calok_none _ _) 2 _ (15, [(0, .int a2), (1, .int 0), (2, .int 3)], [.int 1], (0, 0), mi_G) (by rfl) ?_
        exact mi_sem_ret (cal := fun _ _ _ => none) mi_in131 (by rfl)
      refine mi_sem_call mi_in138 (i := (.invokestatic 119, 3, 131, 0, 9, 0, 379)) (by rfl) (by rfl) hM115 (by decide) ⟨Nat.le_of_ble_eq_true rfl, Nat.le_of_ble_eq_true rfl⟩ ?_
      refine mi_sem_steps mi_in138 (mi_calok_none _ _) 3 _ (11, [(0, .ref 116), (1, .int a1), (2, .int a2)], [.int a1, .ref 116], (0, 0), mi_G) (by rfl) ?_
      have hM117 : mi_Met mi_N0 2 mi_h132 [.ref 116, .int a1] mi_G (some (.int 0)) mi_G := by
        refine mi_met_of (y := 132) (q := (mi_h132, mi_c132)) rfl (by decide) (Nat.le_of_ble_eq_true rfl) ?_
        refine mi_sem_steps mi_in132 (mi_calok_none _ _) 6 _ (8, [(0, .ref 116), (1, .int a1)], [.int (-1), .int 0, .int a1], (0, 0), mi_G) (by rfl) ?_
        have hM116 : mi_Met mi_N0 1 mi_h131 [.int a1, .int 0, .int (-1)] mi_G (some (.int 0)) mi_G := by
          refine mi_met_of (y := 131) (q := (mi_h131, mi_c131)) rfl (by decide) (Nat.le_of_ble_eq_true rfl) ?_
          refine mi_sem_steps mi_in131 (mi_calok_none _ _) 2 _ (2, [(0, .int a1), (1, .int 0), (2, .int (-1))], [.int 0, .int a1], (0, 0), mi_G) (by rfl) ?_
          refine mi_sem_b mi_in131 (decide (a1 < 0)) true (mi_ltT (0) (by decide) (by omega)) 14 5 ([(0, .int a1), (1, .int 0), (2, .int (-1))], [], (0, 0), mi_G) (by rfl) ?_
          refine mi_sem_steps mi_in131 (mi_calok_none _ _) 1 _ (15, [(0, .int a1), (1, .int 0), (2, .int (-1))], [.int 0], (0, 0), mi_G) (by rfl) ?_
          exact mi_sem_ret (cal := fun _ _ _ => none) mi_in131 (by rfl)
        refine mi_sem_call mi_in132 (i := (.invokestatic 119, 3, 131, 0, 9, 0, 379)) (by rfl) (by rfl) hM116 (by decide) ⟨Nat.le_of_ble_eq_true rfl, Nat.le_of_ble_eq_true rfl⟩ ?_
        exact mi_sem_ret (cal := fun _ _ _ => none) mi_in132 (by rfl)
      refine mi_sem_call mi_in138 (i := (.invokevirtual 137, 3, 132, 0, 9, 0, 387)) (by rfl) (by rfl) hM117 (by decide) ⟨Nat.le_of_ble_eq_true rfl, Nat.le_of_ble_eq_true rfl⟩ ?_
      refine mi_sem_steps mi_in138 (mi_calok_none _ _) 1 _ (36, [(0, .ref 116), (1, .int a1), (2, .int a2)], [.int 0], (0, 0), mi_G) (by rfl) ?_
      exact mi_sem_ret (cal := fun _ _ _ => none) mi_in138 (by rfl)
    refine mi_sem_call mi_in142 (i := (.invokevirtual 140, 3, 138, 0, 9, 0, 386)) (by rfl) (by rfl) hM118 (by decide) ⟨Nat.le_of_ble_eq_true rfl, Nat.le_of_ble_eq_true rfl⟩ ?_
    refine mi_sem_steps mi_in142 (mi_calok_none _ _) 2 _ (18, [(0, .ref 116), (1, .int a1), (2, .int a2), (3, .int a3)], [.int (-1)], (0, 0), mi_G) (by rfl) ?_
    exact mi_sem_ret (cal := fun _ _ _ => none) mi_in142 (by rfl)

set_option maxRecDepth 100000 in
set_option maxHeartbeats 4000000 in
theorem mp_mend_2 (a1 : Int32) (a2 : Int32) (a3 : Int32) (r0 : 0 ≤ (a2).toInt ∧ (a2).toInt ≤ 3) (r1 : 0 ≤ (a1).toInt ∧ (a1).toInt ≤ 2147483647) : mi_P 83 142 [.int a1, .int a2, .int a3] := by
  refine ⟨.int (-1), mi_G, mi_G, (mi_h83, mi_c83), (mi_h142, mi_c142), 4, 4, rfl, rfl, rfl, by decide, by decide, ?_, ?_⟩
  · refine mi_met_of (y := 83) (q := (mi_h83, mi_c83)) rfl (by decide) (Nat.le_of_ble_eq_true rfl) ?_
    refine mi_sem_steps mi_in83 (mi_calok_none _ _) 3 _ (3, [(0, .ref 0), (1, .int a1), (2, .int a2), (3, .int a3)], [.int a2, .int a1, .ref 0], (0, 0), mi_G) (by rfl) ?_
    have hM121 : mi_Met mi_N0 3 mi_h125 [.ref 0, .int a1, .int a2] mi_G (some (.int 0)) mi_G := by
      refine mi_met_of (y := 125) (q := (mi_h125, mi_c125)) rfl (by decide) (Nat.le_of_ble_eq_true rfl) ?_
      refine mi_sem_steps mi_in125 (mi_calok_none _ _) 1 _ (1, [(0, .ref 0), (1, .int a1), (2, .int a2)], [.int a2], (0, 0), mi_G) (by rfl) ?_
      refine mi_sem_b mi_in125 (decide (a2 < 0)) false (mi_ltF (0) (by decide) (by omega)) 17 4 ([(0, .ref 0), (1, .int a1), (2, .int a2)], [], (0, 0), mi_G) (by rfl) ?_
      refine mi_sem_steps mi_in125 (mi_calok_none _ _) 2 _ (6, [(0, .ref 0), (1, .int a1), (2, .int a2)], [.int 4, .int a2], (0, 0), mi_G) (by rfl) ?_
      refine mi_sem_b mi_in125 (decide (4 ≤ a2)) false (mi_leF2 (4) (by decide) (by omega)) 17 9 ([(0, .ref 0), (1, .int a1), (2, .int a2)], [], (0, 0), mi_G) (by rfl) ?_
      refine mi_sem_steps mi_in125 (mi_calok_none _ _) 2 _ (11, [(0, .ref 0), (1, .int a1), (2, .int a2)], [.int a1, .ref 0], (0, 0), mi_G) (by rfl) ?_
      have hM120 : mi_Met mi_N0 2 mi_h123 [.ref 0, .int a1] mi_G (some (.int 0)) mi_G := by
        refine mi_met_of (y := 123) (q := (mi_h123, mi_c123)) rfl (by decide) (Nat.le_of_ble_eq_true rfl) ?_
        refine mi_sem_steps mi_in123 (mi_calok_none _ _) 3 _ (5, [(0, .ref 0), (1, .int a1)], [.int a1, .ref 1], (0, 0), mi_G) (by rfl) ?_
        have hM119 : mi_Met mi_N0 1 mi_h24 [.ref 1, .int a1] mi_G (some (.int 0)) mi_G := by
          refine mi_met_of (y := 24) (q := (mi_h24, mi_c24)) rfl (by decide) (Nat.le_of_ble_eq_true rfl) ?_
          refine mi_sem_steps mi_in24 (mi_calok_none _ _) 1 _ (1, [(0, .ref 1), (1, .int a1)], [.int a1], (0, 0), mi_G) (by rfl) ?_
          refine mi_sem_b mi_in24 (decide (a1 < 0)) false (mi_ltF (0) (by decide) (by omega)) 22 4 ([(0, .ref 1), (1, .int a1)], [], (0, 0), mi_G) (by rfl) ?_
          refine mi_sem_steps mi_in24 (mi_calok_none _ _) 3 _ (9, [(0, .ref 1), (1, .int a1)], [.int 0, .int a1], (0, 0), mi_G) (by rfl) ?_
          refine mi_sem_b mi_in24 (decide (0 ≤ a1)) true (mi_leT2 (0) (by decide) (by omega)) 22 12 ([(0, .ref 1), (1, .int a1)], [], (0, 0), mi_G) (by rfl) ?_
          refine mi_sem_steps mi_in24 (mi_calok_none _ _) 1 _ (23, [(0, .ref 1), (1, .int a1)], [.int 0], (0, 0), mi_G) (by rfl) ?_
          exact mi_sem_ret (cal := fun _ _ _ => none) mi_in24 (by rfl)
        refine mi_sem_call mi_in123 (i := (.invokevirtual 342, 3, 24, 0, 9, 0, 163)) (by rfl) (by rfl) hM119 (by decide) ⟨Nat.le_of_ble_eq_true rfl, Nat.le_of_ble_eq_true rfl⟩ ?_
        exact mi_sem_ret (cal := fun _ _ _ => none) mi_in123 (by rfl)
      refine mi_sem_call mi_in125 (i := (.invokevirtual 141, 3, 123, 0, 9, 0, 162)) (by rfl) (by rfl) hM120 (by decide) ⟨Nat.le_of_ble_eq_true rfl, Nat.le_of_ble_eq_true rfl⟩ ?_
      refine mi_sem_steps mi_in125 (mi_calok_none _ _) 3 _ (19, [(0, .ref 0), (1, .int a1), (2, .int a2)], [.int 4, .int a2], (0, 0), mi_G) (by rfl) ?_
      refine mi_sem_b mi_in125 (decide (a2 < 4)) true (mi_ltT (4) (by decide) (by omega)) 36 22 ([(0, .ref 0), (1, .int a1), (2, .int a2)], [], (0, 0), mi_G) (by rfl) ?_
      refine mi_sem_steps mi_in125 (mi_calok_none _ _) 1 _ (37, [(0, .ref 0), (1, .int a1), (2, .int a2)], [.int 0], (0, 0), mi_G) (by rfl) ?_
      exact mi_sem_ret (cal := fun _ _ _ => none) mi_in125 (by rfl)
    refine mi_sem_call mi_in83 (i := (.invokevirtual 95, 3, 125, 0, 9, 0, 161)) (by rfl) (by rfl) hM121 (by decide) ⟨Nat.le_of_ble_eq_true rfl, Nat.le_of_ble_eq_true rfl⟩ ?_
    refine mi_sem_steps mi_in83 (mi_calok_none _ _) 2 _ (18, [(0, .ref 0), (1, .int a1), (2, .int a2), (3, .int a3)], [.int (-1)], (0, 0), mi_G) (by rfl) ?_
    exact mi_sem_ret (cal := fun _ _ _ => none) mi_in83 (by rfl)
  · refine mi_met_of (y := 142) (q := (mi_h142, mi_c142)) rfl (by decide) (Nat.le_of_ble_eq_true rfl) ?_
    refine mi_sem_steps mi_in142 (mi_calok_none _ _) 3 _ (3, [(0, .ref 116), (1, .int a1), (2, .int a2), (3, .int a3)], [.int a2, .int a1, .ref 116], (0, 0), mi_G) (by rfl) ?_
    have hM125 : mi_Met mi_N0 3 mi_h138 [.ref 116, .int a1, .int a2] mi_G (some (.int 0)) mi_G := by
      refine mi_met_of (y := 138) (q := (mi_h138, mi_c138)) rfl (by decide) (Nat.le_of_ble_eq_true rfl) ?_
      refine mi_sem_steps mi_in138 (mi_calok_none _ _) 3 _ (3, [(0, .ref 116), (1, .int a1), (2, .int a2)], [.int 3, .int 0, .int a2], (0, 0), mi_G) (by rfl) ?_
      have hM122 : mi_Met mi_N0 1 mi_h131 [.int a2, .int 0, .int 3] mi_G (some (.int 1)) mi_G := by
        refine mi_met_of (y := 131) (q := (mi_h131, mi_c131)) rfl (by decide) (Nat.le_of_ble_eq_true rfl) ?_
        refine mi_sem_steps mi_in131 (mi_calok_none _ _) 2 _ (2, [(0, .int a2), (1, .int 0), (2, .int 3)], [.int 0, .int a2], (0, 0), mi_G) (by rfl) ?_
        refine mi_sem_b mi_in131 (decide (a2 < 0)) false (mi_ltF (0) (by decide) (by omega)) 14 5 ([(0, .int a2), (1, .int 0), (2, .int 3)], [], (0, 0), mi_G) (by rfl) ?_
        refine mi_sem_steps mi_in131 (mi_calok_none _ _) 2 _ (7, [(0, .int a2), (1, .int 0), (2, .int 3)], [.int 3, .int a2], (0, 0), mi_G) (by rfl) ?_
        refine mi_sem_b mi_in131 (decide (3 < a2)) false (mi_ltF2 (3) (by decide) (by omega)) 14 10 ([(0, .int a2), (1, .int 0), (2, .int 3)], [], (0, 0), mi_G) (by rfl) ?_
        refine mi_sem_steps mi_in131 (mi_calok_none _ _) 2 _ (15, [(0, .int a2), (1, .int 0), (2, .int 3)], [.int 1], (0, 0), mi_G) (by rfl) ?_
        exact mi_sem_ret (cal := fun _ _ _ => none) mi_in131 (by rfl)
      refine mi_sem_call mi_in138 (i := (.invokestatic 119, 3, 131, 0, 9, 0, 379)) (by rfl) (by rfl) hM122 (by decide) ⟨Nat.le_of_ble_eq_true rfl, Nat.le_of_ble_eq_true rfl⟩ ?_
      refine mi_sem_steps mi_in138 (mi_calok_none _ _) 3 _ (11, [(0, .ref 116), (1, .int a1), (2, .int a2)], [.int a1, .ref 116], (0, 0), mi_G) (by rfl) ?_
      have hM124 : mi_Met mi_N0 2 mi_h132 [.ref 116, .int a1] mi_G (some (.int 0)) mi_G := by
        refine mi_met_of (y := 132) (q := (mi_h132, mi_c132)) rfl (by decide) (Nat.le_of_ble_eq_true rfl) ?_
        refine mi_sem_steps mi_in132 (mi_calok_none _ _) 6 _ (8, [(0, .ref 116), (1, .int a1)], [.int (-1), .int 0, .int a1], (0, 0), mi_G) (by rfl) ?_
        have hM123 : mi_Met mi_N0 1 mi_h131 [.int a1, .int 0, .int (-1)] mi_G (some (.int 0)) mi_G := by
          refine mi_met_of (y := 131) (q := (mi_h131, mi_c131)) rfl (by decide) (Nat.le_of_ble_eq_true rfl) ?_
          refine mi_sem_steps mi_in131 (mi_calok_none _ _) 2 _ (2, [(0, .int a1), (1, .int 0), (2, .int (-1))], [.int 0, .int a1], (0, 0), mi_G) (by rfl) ?_
          refine mi_sem_b mi_in131 (decide (a1 < 0)) false (mi_ltF (0) (by decide) (by omega)) 14 5 ([(0, .int a1), (1, .int 0), (2, .int (-1))], [], (0, 0), mi_G) (by rfl) ?_
          refine mi_sem_steps mi_in131 (mi_calok_none _ _) 2 _ (7, [(0, .int a1), (1, .int 0), (2, .int (-1))], [.int (-1), .int a1], (0, 0), mi_G) (by rfl) ?_
          refine mi_sem_b mi_in131 (decide ((-1) < a1)) true (mi_ltT2 (-1) (by decide) (by omega)) 14 10 ([(0, .int a1), (1, .int 0), (2, .int (-1))], [], (0, 0), mi_G) (by rfl) ?_
          refine mi_sem_steps mi_in131 (mi_calok_none _ _) 1 _ (15, [(0, .int a1), (1, .int 0), (2, .int (-1))], [.int 0], (0, 0), mi_G) (by rfl) ?_
          exact mi_sem_ret (cal := fun _ _ _ => none) mi_in131 (by rfl)
        refine mi_sem_call mi_in132 (i := (.invokestatic 119, 3, 131, 0, 9, 0, 379)) (by rfl) (by rfl) hM123 (by decide) ⟨Nat.le_of_ble_eq_true rfl, Nat.le_of_ble_eq_true rfl⟩ ?_
        exact mi_sem_ret (cal := fun _ _ _ => none) mi_in132 (by rfl)
      refine mi_sem_call mi_in138 (i := (.invokevirtual 137, 3, 132, 0, 9, 0, 387)) (by rfl) (by rfl) hM124 (by decide) ⟨Nat.le_of_ble_eq_true rfl, Nat.le_of_ble_eq_true rfl⟩ ?_
      refine mi_sem_steps mi_in138 (mi_calok_none _ _) 1 _ (36, [(0, .ref 116), (1, .int a1), (2, .int a2)], [.int 0], (0, 0), mi_G) (by rfl) ?_
      exact mi_sem_ret (cal := fun _ _ _ => none) mi_in138 (by rfl)
    refine mi_sem_call mi_in142 (i := (.invokevirtual 140, 3, 138, 0, 9, 0, 386)) (by rfl) (by rfl) hM125 (by decide) ⟨Nat.le_of_ble_eq_true rfl, Nat.le_of_ble_eq_true rfl⟩ ?_
    refine mi_sem_steps mi_in142 (mi_calok_none _ _) 2 _ (18, [(0, .ref 116), (1, .int a1), (2, .int a2), (3, .int a3)], [.int (-1)], (0, 0), mi_G) (by rfl) ?_
    exact mi_sem_ret (cal := fun _ _ _ => none) mi_in142 (by rfl)

set_option maxRecDepth 100000 in
set_option maxHeartbeats 4000000 in
theorem mp_mend_3 (a1 : Int32) (a2 : Int32) (a3 : Int32) (r0 : 4 ≤ (a2).toInt ∧ (a2).toInt ≤ 6) (r1 : (-2147483648) ≤ (a1).toInt ∧ (a1).toInt ≤ (-1)) : mi_P 83 142 [.int a1, .int a2, .int a3] := by
  refine ⟨.int (-1), mi_G, mi_G, (mi_h83, mi_c83), (mi_h142, mi_c142), 2, 3, rfl, rfl, rfl, by decide, by decide, ?_, ?_⟩
  · refine mi_met_of (y := 83) (q := (mi_h83, mi_c83)) rfl (by decide) (Nat.le_of_ble_eq_true rfl) ?_
    refine mi_sem_steps mi_in83 (mi_calok_none _ _) 3 _ (3, [(0, .ref 0), (1, .int a1), (2, .int a2), (3, .int a3)], [.int a2, .int a1, .ref 0], (0, 0), mi_G) (by rfl) ?_
    have hM126 : mi_Met mi_N0 1 mi_h125 [.ref 0, .int a1, .int a2] mi_G (some (.int 0)) mi_G := by
      refine mi_met_of (y := 125) (q := (mi_h125, mi_c125)) rfl (by decide) (Nat.le_of_ble_eq_true rfl) ?_
      refine mi_sem_steps mi_in125 (mi_calok_none _ _) 1 _ (1, [(0, .ref 0), (1, .int a1), (2, .int a2)], [.int a2], (0, 0), mi_G) (by rfl) ?_
      refine mi_sem_b mi_in125 (decide (a2 < 0)) false (mi_ltF (0) (by decide) (by omega)) 17 4 ([(0, .ref 0), (1, .int a1), (2, .int a2)], [], (0, 0), mi_G) (by rfl) ?_
      refine mi_sem_steps mi_in125 (mi_calok_none _ _) 2 _ (6, [(0, .ref 0), (1, .int a1), (2, .int a2)], [.int 4, .int a2], (0, 0), mi_G) (by rfl) ?_
      refine mi_sem_b mi_in125 (decide (4 ≤ a2)) true (mi_leT2 (4) (by decide) (by omega)) 17 9 ([(0, .ref 0), (1, .int a1), (2, .int a2)], [], (0, 0), mi_G) (by rfl) ?_
      refine mi_sem_steps mi_in125 (mi_calok_none _ _) 2 _ (19, [(0, .ref 0), (1, .int a1), (2, .int a2)], [.int 4, .int a2], (0, 0), mi_G) (by rfl) ?_
      refine mi_sem_b mi_in125 (decide (a2 < 4)) false (mi_ltF (4) (by decide) (by omega)) 36 22 ([(0, .ref 0), (1, .int a1), (2, .int a2)], [], (0, 0), mi_G) (by rfl) ?_
      refine mi_sem_steps mi_in125 (mi_calok_none _ _) 2 _ (25, [(0, .ref 0), (1, .int a1), (2, .int a2)], [.int 6, .int a2], (0, 0), mi_G) (by rfl) ?_
      refine mi_sem_b mi_in125 (decide (6 < a2)) false (mi_ltF2 (6) (by decide) (by omega)) 36 28 ([(0, .ref 0), (1, .int a1), (2, .int a2)], [], (0, 0), mi_G) (by rfl) ?_
      refine mi_sem_steps mi_in125 (mi_calok_none _ _) 1 _ (29, [(0, .ref 0), (1, .int a1), (2, .int a2)], [.int a1], (0, 0), mi_G) (by rfl) ?_
      refine mi_sem_b mi_in125 ((a1 != 0)) true (mi_neT (0) (by decide) (by omega)) 36 32 ([(0, .ref 0), (1, .int a1), (2, .int a2)], [], (0, 0), mi_G) (by rfl) ?_
      refine mi_sem_steps mi_in125 (mi_calok_none _ _) 1 _ (37, [(0, .ref 0), (1, .int a1), (2, .int a2)], [.int 0], (0, 0), mi_G) (by rfl) ?_
      exact mi_sem_ret (cal := fun _ _ _ => none) mi_in125 (by rfl)
    refine mi_sem_call mi_in83 (i := (.invokevirtual 95, 3, 125, 0, 9, 0, 161)) (by rfl) (by rfl) hM126 (by decide) ⟨Nat.le_of_ble_eq_true rfl, Nat.le_of_ble_eq_true rfl⟩ ?_
    refine mi_sem_steps mi_in83 (mi_calok_none _ _) 2 _ (18, [(0, .ref 0), (1, .int a1), (2, .int a2), (3, .int a3)], [.int (-1)], (0, 0), mi_G) (by rfl) ?_
    exact mi_sem_ret (cal := fun _ _ _ => none) mi_in83 (by rfl)
  · refine mi_met_of (y := 142) (q := (mi_h142, mi_c142)) rfl (by decide) (Nat.le_of_ble_eq_true rfl) ?_
    refine mi_sem_steps mi_in142 (mi_calok_none _ _) 3 _ (3, [(0, .ref 116), (1, .int a1), (2, .int a2), (3, .int a3)], [.int a2, .int a1, .ref 116], (0, 0), mi_G) (by rfl) ?_
    have hM129 : mi_Met mi_N0 2 mi_h138 [.ref 116, .int a1, .int a2] mi_G (some (.int 0)) mi_G := by
      refine mi_met_of (y := 138) (q := (mi_h138, mi_c138)) rfl (by decide) (Nat.le_of_ble_eq_true rfl) ?_
      refine mi_sem_steps mi_in138 (mi_calok_none _ _) 3 _ (3, [(0, .ref 116), (1, .int a1), (2, .int a2)], [.int 3, .int 0, .int a2], (0, 0), mi_G) (by rfl) ?_
      have hM127 : mi_Met mi_N0 1 mi_h131 [.int a2, .int 0, .int 3] mi_G (some (.int 0)) mi_G := by
        refine mi_met_of (y := 131) (q := (mi_h131, mi_c131)) rfl (by decide) (Nat.le_of_ble_eq_true rfl) ?_
        refine mi_sem_steps mi_in131 (mi_calok_none _ _) 2 _ (2, [(0, .int a2), (1, .int 0), (2, .int 3)], [.int 0, .int a2], (0, 0), mi_G) (by rfl) ?_
        refine mi_sem_b mi_in131 (decide (a2 < 0)) false (mi_ltF (0) (by decide) (by omega)) 14 5 ([(0, .int a2), (1, .int 0), (2, .int 3)], [], (0, 0), mi_G) (by rfl) ?_
        refine mi_sem_steps mi_in131 (mi_calok_none _ _) 2 _ (7, [(0, .int a2), (1, .int 0), (2, .int 3)], [.int 3, .int a2], (0, 0), mi_G) (by rfl) ?_
        refine mi_sem_b mi_in131 (decide (3 < a2)) true (mi_ltT2 (3) (by decide) (by omega)) 14 10 ([(0, .int a2), (1, .int 0), (2, .int 3)], [], (0, 0), mi_G) (by rfl) ?_
        refine mi_sem_steps mi_in131 (mi_calok_none _ _) 1 _ (15, [(0, .int a2), (1, .int 0), (2, .int 3)], [.int 0], (0, 0), mi_G) (by rfl) ?_
        exact mi_sem_ret (cal := fun _ _ _ => none) mi_in131 (by rfl)
      refine mi_sem_call mi_in138 (i := (.invokestatic 119, 3, 131, 0, 9, 0, 379)) (by rfl) (by rfl) hM127 (by decide) ⟨Nat.le_of_ble_eq_true rfl, Nat.le_of_ble_eq_true rfl⟩ ?_
      refine mi_sem_steps mi_in138 (mi_calok_none _ _) 4 _ (21, [(0, .ref 116), (1, .int a1), (2, .int a2)], [.int 6, .int 4, .int a2], (0, 0), mi_G) (by rfl) ?_
      have hM128 : mi_Met mi_N0 1 mi_h131 [.int a2, .int 4, .int 6] mi_G (some (.int 1)) mi_G := by
        refine mi_met_of (y := 131) (q := (mi_h131, mi_c131)) rfl (by decide) (Nat.le_of_ble_eq_true rfl) ?_
        refine mi_sem_steps mi_in131 (mi_calok_none _ _) 2 _ (2, [(0, .int a2), (1, .int 4), (2, .int 6)], [.int 4, .int a2], (0, 0), mi_G) (by rfl) ?_
        refine mi_sem_b mi_in131 (decide (a2 < 4)) false (mi_ltF (4) (by decide) (by omega)) 14 5 ([(0, .int a2), (1, .int 4), (2, .int 6)], [], (0, 0), mi_G) (by rfl) ?_
        refine mi_sem_steps mi_in131 (mi_calok_none _ _) 2 _ (7, [(0, .int a2), (1, .int 4), (2, .int 6)], [.int 6, .int a2], (0, 0), mi_G) (by rfl) ?_
        refine mi_sem_b mi_in131 (decide (6 < a2)) false (mi_ltF2 (6) (by decide) (by omega)) 14 10 ([(0, .int a2), (1, .int 4), (2, .int 6)], [], (0, 0), mi_G) (by rfl) ?_
        refine mi_sem_steps mi_in131 (mi_calok_none _ _) 2 _ (15, [(0, .int a2), (1, .int 4), (2, .int 6)], [.int 1], (0, 0), mi_G) (by rfl) ?_
        exact mi_sem_ret (cal := fun _ _ _ => none) mi_in131 (by rfl)
      refine mi_sem_call mi_in138 (i := (.invokestatic 119, 3, 131, 0, 9, 0, 379)) (by rfl) (by rfl) hM128 (by decide) ⟨Nat.le_of_ble_eq_true rfl, Nat.le_of_ble_eq_true rfl⟩ ?_
      refine mi_sem_steps mi_in138 (mi_calok_none _ _) 2 _ (28, [(0, .ref 116), (1, .int a1), (2, .int a2)], [.int a1], (0, 0), mi_G) (by rfl) ?_
      refine mi_sem_b mi_in138 ((a1 != 0)) true (mi_neT (0) (by decide) (by omega)) 35 31 ([(0, .ref 116), (1, .int a1), (2, .int a2)], [], (0, 0), mi_G) (by rfl) ?_
      refine mi_sem_steps mi_in138 (mi_calok_none _ _) 1 _ (36, [(0, .ref 116), (1, .int a1), (2, .int a2)], [.int 0], (0, 0), mi_G) (by rfl) ?_
      exact mi_sem_ret (cal := fun _ _ _ => none) mi_in138 (by rfl)
    refine mi_sem_call mi_in142 (i := (.invokevirtual 140, 3, 138, 0, 9, 0, 386)) (by rfl) (by rfl) hM129 (by decide) ⟨Nat.le_of_ble_eq_true rfl, Nat.le_of_ble_eq_true rfl⟩ ?_
    refine mi_sem_steps mi_in142 (mi_calok_none _ _) 2 _ (18, [(0, .ref 116), (1, .int a1), (2, .int a2), (3, .int a3)], [.int (-1)], (0, 0), mi_G) (by rfl) ?_
    exact mi_sem_ret (cal := fun _ _ _ => none) mi_in142 (by rfl)

set_option maxRecDepth 100000 in
set_option maxHeartbeats 4000000 in
theorem mp_mend_4 (a3 : Int32) (r0 : (-2147483648) ≤ (a3).toInt ∧ (a3).toInt ≤ 0) : mi_P 83 142 [.int 0, .int 4, .int a3] := by
  refine ⟨.int (-1), mi_G, mi_G, (mi_h83, mi_c83), (mi_h142, mi_c142), 3, 3, rfl, rfl, rfl, by decide, by decide, ?_, ?_⟩
  · refine mi_met_of (y := 83) (q := (mi_h83, mi_c83)) rfl (by decide) (Nat.le_of_ble_eq_true rfl) ?_
    refine mi_sem_steps mi_in83 (mi_calok_none _ _) 3 _ (3, [(0, .ref 0), (1, .int 0), (2, .int 4), (3, .int a3)], [.int 4, .int 0, .ref 0], (0, 0), mi_G) (by rfl) ?_
    have hM134 : mi_Met mi_N0 1 mi_h125 [.ref 0, .int 0, .int 4] mi_G (some (.int 1)) mi_G := mi_fun_ok mi_N0 1 125 (mi_h125, mi_c125) _ _ _ _ rfl (mi_eR_ok (by decide +kernel))
    refine mi_sem_call mi_in83 (i := (.invokevirtual 95, 3, 125, 0, 9, 0, 161)) (by rfl) (by rfl) hM134 (by decide) ⟨Nat.le_of_ble_eq_true rfl, Nat.le_of_ble_eq_true rfl⟩ ?_
    refine mi_sem_steps mi_in83 (mi_calok_none _ _) 3 _ (11, [(0, .ref 0), (1, .int 0), (2, .int 4), (3, .int a3)], [.int a3, .int 4], (0, 0), mi_G) (by rfl) ?_
    have hM137 : mi_Met mi_N0 2 mi_h126 [.int 4, .int a3] mi_G (some (.int 0)) mi_G := by
      refine mi_met_of (y := 126) (q := (mi_h126, mi_c126)) rfl (by decide) (Nat.le_of_ble_eq_true rfl) ?_
      refine mi_sem_steps mi_in126 (mi_calok_none _ _) 3 _ (4, [(0, .int 4), (1, .int a3)], [.int 6, .int 0, .int 4], (0, 0), mi_G) (by rfl) ?_
      have hM135 : mi_Met mi_N0 1 mi_h120 [.int 4, .int 0, .int 6] mi_G (some (.int 1)) mi_G := mi_fun_ok mi_N0 1 120 (mi_h120, mi_c120) _ _ _ _ rfl (mi_eR_ok (by decide +kernel))
      refine mi_sem_call mi_in126 (i := (.invokestatic 74, 3, 120, 0, 9, 0, 152)) (by rfl) (by rfl) hM135 (by decide) ⟨Nat.le_of_ble_eq_true rfl, Nat.le_of_ble_eq_true rfl⟩ ?_
      refine mi_sem_steps mi_in126 (mi_calok_none _ _) 8 _ (21, [(0, .int 4), (1, .int a3)], [.int 5, .int 1, .int a3], (0, 0), mi_G) (by rfl) ?_
      have hM136 : mi_Met mi_N0 1 mi_h120 [.int a3, .int 1, .int 5] mi_G (some (.int 0)) mi_G := by
        refine mi_met_of (y := 120) (q := (mi_h120, mi_c120)) rfl (by decide) (Nat.le_of_ble_eq_true rfl) ?_
        refine mi_sem_steps mi_in120 (mi_calok_none _ _) 2 _ (2, [(0, .int a3), (1, .int 1), (2, .int 5)], [.int 1, .int a3], (0, 0), mi_G) (by rfl) ?_
        refine mi_sem_b mi_in120 (decide (a3 < 1)) true (mi_ltT (1) (by decide) (by omega)) 14 5 ([(0, .int a3), (1, .int 1), (2, .int 5)], [], (0, 0), mi_G) (by rfl) ?_
        refine mi_sem_steps mi_in120 (mi_calok_none _ _) 1 _ (15, [(0, .int a3), (1, .int 1), (2, .int 5)], [.int 0], (0, 0), mi_G) (by rfl) ?_
        exact mi_sem_ret (cal := fun _ _ _ => none) mi_in120 (by rfl)
      refine mi_sem_call mi_in126 (i := (.invokestatic 74, 3, 120, 0, 9, 0, 152)) (by rfl) (by rfl) hM136 (by decide) ⟨Nat.le_of_ble_eq_true rfl, Nat.le_of_ble_eq_true rfl⟩ ?_
      refine mi_sem_steps mi_in126 (mi_calok_none _ _) 2 _ (32, [(0, .int 4), (1, .int a3)], [.int 0], (0, 0), mi_G) (by rfl) ?_
      exact mi_sem_ret (cal := fun _ _ _ => none) mi_in126 (by rfl)
    refine mi_sem_call mi_in83 (i := (.invokestatic 58, 3, 126, 0, 9, 0, 151)) (by rfl) (by rfl) hM137 (by decide) ⟨Nat.le_of_ble_eq_true rfl, Nat.le_of_ble_eq_true rfl⟩ ?_
    refine mi_sem_steps mi_in83 (mi_calok_none _ _) 2 _ (18, [(0, .ref 0), (1, .int 0), (2, .int 4), (3, .int a3)], [.int (-1)], (0, 0), mi_G) (by rfl) ?_
    exact mi_sem_ret (cal := fun _ _ _ => none) mi_in83 (by rfl)
  · refine mi_met_of (y := 142) (q := (mi_h142, mi_c142)) rfl (by decide) (Nat.le_of_ble_eq_true rfl) ?_
    refine mi_sem_steps mi_in142 (mi_calok_none _ _) 3 _ (3, [(0, .ref 116), (1, .int 0), (2, .int 4), (3, .int a3)], [.int 4, .int 0, .ref 116], (0, 0), mi_G) (by rfl) ?_
    have hM138 : mi_Met mi_N0 2 mi_h138 [.ref 116, .int 0, .int 4] mi_G (some (.int 1)) mi_G := mi_fun_ok mi_N0 2 138 (mi_h138, mi_c138) _ _ _ _ rfl (mi_eR_ok (by decide +kernel))
    refine mi_sem_call mi_in142 (i := (.invokevirtual 140, 3, 138, 0, 9, 0, 386)) (by rfl) (by rfl) hM138 (by decide) ⟨Nat.le_of_ble_eq_true rfl, Nat.le_of_ble_eq_true rfl⟩ ?_
    refine mi_sem_steps mi_in142 (mi_calok_none _ _) 3 _ (11, [(0, .ref 116), (1, .int 0), (2, .int 4), (3, .int a3)], [.int a3, .int 4], (0, 0), mi_G) (by rfl) ?_
    have hM140 : mi_Met mi_N0 2 mi_h139 [.int 4, .int a3] mi_G (some (.int 0)) mi_G := by
      refine mi_met_of (y := 139) (q := (mi_h139, mi_c139)) rfl (by decide) (Nat.le_of_ble_eq_true rfl) ?_
      refine mi_sem_steps mi_in139 (mi_calok_none _ _) 5 _ (64, [(0, .int 4), (1, .int a3)], [.int 5, .int 1, .int a3], (0, 0), mi_G) (by rfl) ?_
      have hM139 : mi_Met mi_N0 1 mi_h131 [.int a3, .int 1, .int 5] mi_G (some (.int 0)) mi_G := by
        refine mi_met_of (y := 131) (q := (mi_h131, mi_c131)) rfl (by decide) (Nat.le_of_ble_eq_true rfl) ?_
        refine mi_sem_steps mi_in131 (mi_calok_none _ _) 2 _ (2, [(0, .int a3), (1, .int 1), (2, .int 5)], [.int 1, .int a3], (0, 0), mi_G) (by rfl) ?_
        refine mi_sem_b mi_in131 (decide (a3 < 1)) true (mi_ltT (1) (by decide) (by omega)) 14 5 ([(0, .int a3), (1, .int 1), (2, .int 5)], [], (0, 0), mi_G) (by rfl) ?_
        refine mi_sem_steps mi_in131 (mi_calok_none _ _) 1 _ (15, [(0, .int a3), (1, .int 1), (2, .int 5)], [.int 0], (0, 0), mi_G) (by rfl) ?_
        exact mi_sem_ret (cal := fun _ _ _ => none) mi_in131 (by rfl)
      refine mi_sem_call mi_in139 (i := (.invokestatic 119, 3, 131, 0, 9, 0, 379)) (by rfl) (by rfl) hM139 (by decide) ⟨Nat.le_of_ble_eq_true rfl, Nat.le_of_ble_eq_true rfl⟩ ?_
      exact mi_sem_ret (cal := fun _ _ _ => none) mi_in139 (by rfl)
    refine mi_sem_call mi_in142 (i := (.invokestatic 144, 3, 139, 0, 9, 0, 388)) (by rfl) (by rfl) hM140 (by decide) ⟨Nat.le_of_ble_eq_true rfl, Nat.le_of_ble_eq_true rfl⟩ ?_
    refine mi_sem_steps mi_in142 (mi_calok_none _ _) 2 _ (18, [(0, .ref 116), (1, .int 0), (2, .int 4), (3, .int a3)], [.int (-1)], (0, 0), mi_G) (by rfl) ?_
    exact mi_sem_ret (cal := fun _ _ _ => none) mi_in142 (by rfl)

set_option maxRecDepth 100000 in
set_option maxHeartbeats 4000000 in
theorem mp_mend_5 (a3 : Int32) (r0 : 1 ≤ (a3).toInt ∧ (a3).toInt ≤ 2) : mi_P 83 142 [.int 0, .int 4, .int a3] := by
  refine ⟨.int 3, (((((((mi_G.set 1 (.inl (4, [.int 0, .ref 2, .ref 3, .ref 4, .ref 5, .ref 6, .int a3, .int 1, .int 0, .int 0, .ref 7, .ref 10, .ref 14, .ref 15, .int 8, .int 0, .int 0, .ref 24]))).set 90 (.inr (.int, .inl (List.replicate 40 0)))).set 91 (.inr (.int, .inl [4, 0, 0, 0, 0, 0, 0, 0, 0, 0, 0, 0, 0, 0, 0, 0, 0, 0, 0, 0, 0, 0, 0, 0, 0, 0, 0, 0, 0, 0, 0, 0, 0, 0, 0, 0, 0, 0, 0, 0]))).set 92 (.inr (.int, .inl [3, 0, 0, 0, 0, 0, 0, 0, 0, 0, 0, 0, 0, 0, 0, 0, 0, 0, 0, 0, 0, 0, 0, 0, 0, 0, 0, 0, 0, 0, 0, 0, 0, 0, 0, 0, 0, 0, 0, 0]))).set 93 (.inr (.int, .inl [a3, 0, 0, 0, 0, 0, 0, 0, 0, 0, 0, 0, 0, 0, 0, 0, 0, 0, 0, 0, 0, 0, 0, 0, 0, 0, 0, 0, 0, 0, 0, 0, 0, 0, 0, 0, 0, 0, 0, 0]))).set 89 (.inl (1, [.ref 90, .ref 91, .ref 92, .ref 93, .int 0, .int 1]))).set 89 (.inl (1, [.ref 90, .ref 91, .ref 92, .ref 93, .int 1, .int 1]))), ((((((((((((((mi_G.set 1 (.inl (4, [.int 0, .ref 2, .ref 3, .ref 4, .ref 5, .ref 6, .int a3, .int 1, .int 0, .int 0, .ref 7, .ref 10, .ref 14, .ref 15, .int 8, .int 0, .int 0, .ref 24]))).set 90 (.inr (.int, .inl (List.replicate 40 0)))).set 91 (.inr (.int, .inl [4, 0, 0, 0, 0, 0, 0, 0, 0, 0, 0, 0, 0, 0, 0, 0, 0, 0, 0, 0, 0, 0, 0, 0, 0, 0, 0, 0, 0, 0, 0, 0, 0, 0, 0, 0, 0, 0, 0, 0]))).set 92 (.inr (.int, .inl [3, 0, 0, 0, 0, 0, 0, 0, 0, 0, 0, 0, 0, 0, 0, 0, 0, 0, 0, 0, 0, 0, 0, 0, 0, 0, 0, 0, 0, 0, 0, 0, 0, 0, 0, 0, 0, 0, 0, 0]))).set 93 (.inr (.int, .inl [a3, 0, 0, 0, 0, 0, 0, 0, 0, 0, 0, 0, 0, 0, 0, 0, 0, 0, 0, 0, 0, 0, 0, 0, 0, 0, 0, 0, 0, 0, 0, 0, 0, 0, 0, 0, 0, 0, 0, 0]))).set 89 (.inl (1, [.ref 90, .ref 91, .ref 92, .ref 93, .int 0, .int 1]))).set 89 (.inl (1, [.ref 90, .ref 91, .ref 92, .ref 93, .int 1, .int 1]))).set 116 (.inl (9, [.int 0, .ref 117, .int a3, .int 1, .ref 118, .int 0, .ref 119, .int 0, .int 0, .ref 120, .ref 121, .ref 122, .ref 123, .int 0, .int 0, .int 0, .int 0, .ref 124, .ref 125, .ref 126, .ref 127, .ref 128, .ref 129, .ref 130, .int 0, .int 0, .ref 131, .ref 132, .int 0, .int 0, .ref 133, .int 0, .ref 134, .int 0, .ref 135, .ref 136, .ref 137, .ref 138, .ref 139, .ref 140, .int 0, .int 0, .int 0, .int 0, .ref 141, .int 0, .ref 142, .ref 143, .ref 144, .ref 145, .ref 146, .ref 147, .int 0, .ref 148]))).set 133 (.inr (.int, .inl (List.replicate 160 0)))).set 133 (.inr (.int, .inl [0, 4, 0, 0, 0, 0, 0, 0, 0, 0, 0, 0, 0, 0, 0, 0, 0, 0, 0, 0, 0, 0, 0, 0, 0, 0, 0, 0, 0, 0, 0, 0, 0, 0, 0, 0, 0, 0, 0, 0, 0, 0, 0, 0, 0, 0, 0, 0, 0, 0, 0, 0, 0, 0, 0, 0, 0, 0, 0, 0, 0, 0, 0, 0, 0, 0, 0, 0, 0, 0, 0, 0, 0, 0, 0, 0, 0, 0, 0, 0, 0, 0, 0, 0, 0, 0, 0, 0, 0, 0, 0, 0, 0, 0, 0, 0, 0, 0, 0, 0, 0, 0, 0, 0, 0, 0, 0, 0, 0, 0, 0, 0, 0, 0, 0, 0, 0, 0, 0, 0, 0, 0, 0, 0, 0, 0, 0, 0, 0, 0, 0, 0, 0, 0, 0, 0, 0, 0, 0, 0, 0, 0, 0, 0, 0, 0, 0, 0, 0, 0, 0, 0, 0, 0, 0, 0, 0, 0, 0, 0]))).set 133 (.inr (.int, .inl [0, 4, 3, 0, 0, 0, 0, 0, 0, 0, 0, 0, 0, 0, 0, 0, 0, 0, 0, 0, 0, 0, 0, 0, 0, 0, 0, 0, 0, 0, 0, 0, 0, 0, 0, 0, 0, 0, 0, 0, 0, 0, 0, 0, 0, 0, 0, 0, 0, 0, 0, 0, 0, 0, 0, 0, 0, 0, 0, 0, 0, 0, 0, 0, 0, 0, 0, 0, 0, 0, 0, 0, 0, 0, 0, 0, 0, 0, 0, 0, 0, 0, 0, 0, 0, 0, 0, 0, 0, 0, 0, 0, 0, 0, 0, 0, 0, 0, 0, 0, 0, 0, 0, 0, 0, 0, 0, 0, 0, 0, 0, 0, 0, 0, 0, 0, 0, 0, 0, 0, 0, 0, 0, 0, 0, 0, 0, 0, 0, 0, 0, 0, 0, 0, 0, 0, 0, 0, 0, 0, 0, 0, 0, 0, 0, 0, 0, 0, 0, 0, 0, 0, 0, 0, 0, 0, 0, 0, 0, 0]))).set 133 (.inr (.int, .inl [0, 4, 3, a3, 0, 0, 0, 0, 0, 0, 0, 0, 0, 0, 0, 0, 0, 0, 0, 0, 0, 0, 0, 0, 0, 0, 0, 0, 0, 0, 0, 0, 0, 0, 0, 0, 0, 0, 0, 0, 0, 0, 0, 0, 0, 0, 0, 0, 0, 0, 0, 0, 0, 0, 0, 0, 0, 0, 0, 0, 0, 0, 0, 0, 0, 0, 0, 0, 0, 0, 0, 0, 0, 0, 0, 0, 0, 0, 0, 0, 0, 0, 0, 0, 0, 0, 0, 0, 0, 0, 0, 0, 0, 0, 0, 0, 0, 0, 0, 0, 0, 0, 0, 0, 0, 0, 0, 0, 0, 0, 0, 0, 0, 0, 0, 0, 0, 0, 0, 0, 0, 0, 0, 0, 0, 0, 0, 0, 0, 0, 0, 0, 0, 0, 0, 0, 0, 0, 0, 0, 0, 0, 0, 0, 0, 0, 0, 0, 0, 0, 0, 0, 0, 0, 0, 0, 0, 0, 0, 0]))).set 116 (.inl (9, [.int 0, .ref 117, .int a3, .int 1, .ref 118, .int 0, .ref 119, .int 0, .int 0, .ref 120, .ref 121, .ref 122, .ref 123, .int 0, .int 0, .int 0, .int 0, .ref 124, .ref 125, .ref 126, .ref 127, .ref 128, .ref 129, .ref 130, .int 0, .int 0, .ref 131, .ref 132, .int 0, .int 1, .ref 133, .int 0, .ref 134, .int 0, .ref 135, .ref 136, .ref 137, .ref 138, .ref 139, .ref 140, .int 0, .int 0, .int 0, .int 0, .ref 141, .int 0, .ref 142, .ref 143, .ref 144, .ref 145, .ref 146, .ref 147, .int 0, .ref 148]))).set 116 (.inl (9, [.int 0, .ref 117, .int a3, .int 1, .ref 118, .int 0, .ref 119, .int 0, .int 0, .ref 120, .ref 121, .ref 122, .ref 123, .int 0, .int 0, .int 0, .int 0, .ref 124, .ref 125, .ref 126, .ref 127, .ref 128, .ref 129, .ref 130, .int 0, .int 0, .ref 131, .ref 132, .int 1, .int 1, .ref 133, .int 0, .ref 134, .int 0, .ref 135, .ref 136, .ref 137, .ref 138, .ref 139, .ref 140, .int 0, .int 0, .int 0, .int 0, .ref 141, .int 0, .ref 142, .ref 143, .ref 144, .ref 145, .ref 146, .ref 147, .int 0, .ref 148]))), (mi_h83, mi_c83), (mi_h142, mi_c142), 3, 3, rfl, rfl, rfl, by decide, by decide, ?_, ?_⟩
  · refine mi_met_of (y := 83) (q := (mi_h83, mi_c83)) rfl (by decide) (Nat.le_of_ble_eq_true rfl) ?_
    refine mi_sem_steps mi_in83 (mi_calok_none _ _) 3 _ (3, [(0, .ref 0), (1, .int 0), (2, .int 4), (3, .int a3)], [.int 4, .int 0, .ref 0], (0, 0), mi_G) (by rfl) ?_
    have hM148 : mi_Met mi_N0 1 mi_h125 [.ref 0, .int 0, .int 4] mi_G (some (.int 1)) mi_G := mi_fun_ok mi_N0 1 125 (mi_h125, mi_c125) _ _ _ _ rfl (mi_eR_ok (by decide +kernel))
    refine mi_sem_call mi_in83 (i := (.invokevirtual 95, 3, 125, 0, 9, 0, 161)) (by rfl) (by rfl) hM148 (by decide) ⟨Nat.le_of_ble_eq_true rfl, Nat.le_of_ble_eq_true rfl⟩ ?_
    refine mi_sem_steps mi_in83 (mi_calok_none _ _) 3 _ (11, [(0, .ref 0), (1, .int 0), (2, .int 4), (3, .int a3)], [.int a3, .int 4], (0, 0), mi_G) (by rfl) ?_
    have hM151 : mi_Met mi_N0 2 mi_h126 [.int 4, .int a3] mi_G (some (.int 1)) mi_G := by
      refine mi_met_of (y := 126) (q := (mi_h126, mi_c126)) rfl (by decide) (Nat.le_of_ble_eq_true rfl) ?_
      refine mi_sem_steps mi_in126 (mi_calok_none _ _) 3 _ (4, [(0, .int 4), (1, .int a3)], [.int 6, .int 0, .int 4], (0, 0), mi_G) (by rfl) ?_
      have hM149 : mi_Met mi_N0 1 mi_h120 [.int 4, .int 0, .int 6] mi_G (some (.int 1)) mi_G := mi_fun_ok mi_N0 1 120 (mi_h120, mi_c120) _ _ _ _ rfl (mi_eR_ok (by decide +kernel))
      refine mi_sem_call mi_in126 (i := (.invokestatic 74, 3, 120, 0, 9, 0, 152)) (by rfl) (by rfl) hM149 (by decide) ⟨Nat.le_of_ble_eq_true rfl, Nat.le_of_ble_eq_true rfl⟩ ?_
      refine mi_sem_steps mi_in126 (mi_calok_none _ _) 8 _ (21, [(0, .int 4), (1, .int a3)], [.int 5, .int 1, .int a3], (0, 0), mi_G) (by rfl) ?_
      have hM150 : mi_Met mi_N0 1 mi_h120 [.int a3, .int 1, .int 5] mi_G (some (.int 1)) mi_G := by
        refine mi_met_of (y := 120) (q := (mi_h120, mi_c120)) rfl (by decide) (Nat.le_of_ble_eq_true rfl) ?_
        refine mi_sem_steps mi_in120 (mi_calok_none _ _) 2 _ (2, [(0, .int a3), (1, .int 1), (2, .int 5)], [.int 1, .int a3], (0, 0), mi_G) (by rfl) ?_
        refine mi_sem_b mi_in120 (decide (a3 < 1)) false (mi_ltF (1) (by decide) (by omega)) 14 5 ([(0, .int a3), (1, .int 1), (2, .int 5)], [], (0, 0), mi_G) (by rfl) ?_
        refine mi_sem_steps mi_in120 (mi_calok_none _ _) 2 _ (7, [(0, .int a3), (1, .int 1), (2, .int 5)], [.int 5, .int a3], (0, 0), mi_G) (by rfl) ?_
        refine mi_sem_b mi_in120 (decide (5 < a3)) false (mi_ltF2 (5) (by decide) (by omega)) 14 10 ([(0, .int a3), (1, .int 1), (2, .int 5)], [], (0, 0), mi_G) (by rfl) ?_
        refine mi_sem_steps mi_in120 (mi_calok_none _ _) 2 _ (15, [(0, .int a3), (1, .int 1), (2, .int 5)], [.int 1], (0, 0), mi_G) (by rfl) ?_
        exact mi_sem_ret (cal := fun _ _ _ => none) mi_in120 (by rfl)
      refine mi_sem_call mi_in126 (i := (.invokestatic 74, 3, 120, 0, 9, 0, 152)) (by rfl) (by rfl) hM150 (by decide) ⟨Nat.le_of_ble_eq_true rfl, Nat.le_of_ble_eq_true rfl⟩ ?_
      refine mi_sem_steps mi_in126 (mi_calok_none _ _) 3 _ (32, [(0, .int 4), (1, .int a3)], [.int 1], (0, 0), mi_G) (by rfl) ?_
      exact mi_sem_ret (cal := fun _ _ _ => none) mi_in126 (by rfl)
    refine mi_sem_call mi_in83 (i := (.invokestatic 58, 3, 126, 0, 9, 0, 151)) (by rfl) (by rfl) hM151 (by decide) ⟨Nat.le_of_ble_eq_true rfl, Nat.le_of_ble_eq_true rfl⟩ ?_
    refine mi_sem_steps mi_in83 (mi_calok_none _ _) 5 _ (25, [(0, .ref 0), (1, .int 0), (2, .int 4), (3, .int a3)], [.int 4, .int 0, .ref 1], (0, 0), mi_G) (by rfl) ?_
    have hM152 : mi_Met mi_N0 1 mi_h27 [.ref 1, .int 0, .int 4] mi_G (some (.int 3)) mi_G := mi_fun_ok mi_N0 1 27 (mi_h27, mi_c27) _ _ _ _ rfl (mi_eR_ok (by decide +kernel))
    refine mi_sem_call mi_in83 (i := (.invokevirtual 98, 3, 27, 0, 9, 0, 164)) (by rfl) (by rfl) hM152 (by decide) ⟨Nat.le_of_ble_eq_true rfl, Nat.le_of_ble_eq_true rfl⟩ ?_
    refine mi_sem_steps mi_in83 (mi_calok_none _ _) 3 _ (33, [(4, .int 3), (0, .ref 0), (1, .int 0), (2, .int 4), (3, .int a3)], [.int a3, .int 3], (0, 0), mi_G) (by rfl) ?_
    refine mi_sem_b mi_in83 ((3 == a3)) false (mi_eqF2 (3) (by decide) (by omega)) 58 36 ([(4, .int 3), (0, .ref 0), (1, .int 0), (2, .int 4), (3, .int a3)], [], (0, 0), mi_G) (by rfl) ?_
    refine mi_sem_steps mi_in83 (mi_calok_none _ _) 5 _ (43, [(4, .int 3), (0, .ref 0), (1, .int 0), (2, .int 4), (3, .int a3)], [.int a3, .int 4, .int 0, .ref 1], (0, 0), mi_G) (by rfl) ?_
    have hM153 : mi_Met mi_N0 1 mi_h28 [.ref 1, .int 0, .int 4, .int a3] mi_G none (mi_G.set 1 (.inl (4, [.int 0, .ref 2, .ref 3, .ref 4, .ref 5, .ref 6, .int a3, .int 1, .int 0, .int 0, .ref 7, .ref 10, .ref 14, .ref 15, .int 8, .int 0, .int 0, .ref 24]))) := by
      refine mi_met_of (y := 28) (q := (mi_h28, mi_c28)) rfl (by decide) (Nat.le_of_ble_eq_true rfl) ?_
      refine mi_sem_steps mi_in28 (mi_calok_none _ _) 7 _ (56, [(0, .ref 1), (1, .int 0), (2, .int 4), (3, .int a3)], [], (0, 0), (mi_G.set 1 (.inl (4, [.int 0, .ref 2, .ref 3, .ref 4, .ref 5, .ref 6, .int a3, .int 1, .int 0, .int 0, .ref 7, .ref 10, .ref 14, .ref 15, .int 8, .int 0, .int 0, .ref 24])))) (by rfl) ?_
      exact mi_sem_ret (cal := fun _ _ _ => none) mi_in28 (by rfl)
    refine mi_sem_call mi_in83 (i := (.invokevirtual 102, 3, 28, 0, 9, 0, 167)) (by rfl) (by rfl) hM153 (by decide) ⟨Nat.le_of_ble_eq_true rfl, Nat.le_of_ble_eq_true rfl⟩ ?_
    refine mi_sem_steps mi_in83 (mi_calok_none _ _) 6 _ (55, [(4, .int 3), (0, .ref 0), (1, .int 0), (2, .int 4), (3, .int a3)], [.int a3, .int 3, .int 4, .int 0, .ref 89], (0, 0), (mi_G.set 1 (.inl (4, [.int 0, .ref 2, .ref 3, .ref 4, .ref 5, .ref 6, .int a3, .int 1, .int 0, .int 0, .ref 7, .ref 10, .ref 14, .ref 15, .int 8, .int 0, .int 0, .ref 24])))) (by rfl) ?_
    have hM154 : mi_Met mi_N0 1 mi_h5 [.ref 89, .int 0, .int 4, .int 3, .int a3] (mi_G.set 1 (.inl (4, [.int 0, .ref 2, .ref 3, .ref 4, .ref 5, .ref 6, .int a3, .int 1, .int 0, .int 0, .ref 7, .ref 10, .ref 14, .ref 15, .int 8, .int 0, .int 0, .ref 24]))) none (((((((mi_G.set 1 (.inl (4, [.int 0, .ref 2, .ref 3, .ref 4, .ref 5, .ref 6, .int a3, .int 1, .int 0, .int 0, .ref 7, .ref 10, .ref 14, .ref 15, .int 8, .int 0, .int 0, .ref 24]))).set 90 (.inr (.int, .inl (List.replicate 40 0)))).set 91 (.inr (.int, .inl [4, 0, 0, 0, 0, 0, 0, 0, 0, 0, 0, 0, 0, 0, 0, 0, 0, 0, 0, 0, 0, 0, 0, 0, 0, 0, 0, 0, 0, 0, 0, 0, 0, 0, 0, 0, 0, 0, 0, 0]))).set 92 (.inr (.int, .inl [3, 0, 0, 0, 0, 0, 0, 0, 0, 0, 0, 0, 0, 0, 0, 0, 0, 0, 0, 0, 0, 0, 0, 0, 0, 0, 0, 0, 0, 0, 0, 0, 0, 0, 0, 0, 0, 0, 0, 0]))).set 93 (.inr (.int, .inl [a3, 0, 0, 0, 0, 0, 0, 0, 0, 0, 0, 0, 0, 0, 0, 0, 0, 0, 0, 0, 0, 0, 0, 0, 0, 0, 0, 0, 0, 0, 0, 0, 0, 0, 0, 0, 0, 0, 0, 0]))).set 89 (.inl (1, [.ref 90, .ref 91, .ref 92, .ref 93, .int 0, .int 1]))).set 89 (.inl (1, [.ref 90, .ref 91, .ref 92, .ref 93, .int 1, .int 1]))) := by
      refine mi_met_of (y := 5) (q := (mi_h5, mi_c5)) rfl (by decide) (Nat.le_of_ble_eq_true rfl) ?_
      refine mi_sem_steps mi_in5 (mi_calok_none _ _) 38 _ (72, [(0, .ref 89), (1, .int 0), (2, .int 4), (3, .int 3), (4, .int a3)], [], (0, 0), (((((((mi_G.set 1 (.inl (4, [.int 0, .ref 2, .ref 3, .ref 4, .ref 5, .ref 6, .int a3, .int 1, .int 0, .int 0, .ref 7, .ref 10, .ref 14, .ref 15, .int 8, .int 0, .int 0, .ref 24]))).set 90 (.inr (.int, .inl (List.replicate 40 0)))).set 91 (.inr (.int, .inl [4, 0, 0, 0, 0, 0, 0, 0, 0, 0, 0, 0, 0, 0, 0, 0, 0, 0, 0, 0, 0, 0, 0, 0, 0, 0, 0, 0, 0, 0, 0, 0, 0, 0, 0, 0, 0, 0, 0, 0]))).set 92 (.inr (.int, .inl [3, 0, 0, 0, 0, 0, 0, 0, 0, 0, 0, 0, 0, 0, 0, 0, 0, 0, 0, 0, 0, 0, 0, 0, 0, 0, 0, 0, 0, 0, 0, 0, 0, 0, 0, 0, 0, 0, 0, 0]))).set 93 (.inr (.int, .inl [a3, 0, 0, 0, 0, 0, 0, 0, 0, 0, 0, 0, 0, 0, 0, 0, 0, 0, 0, 0, 0, 0, 0, 0, 0, 0, 0, 0, 0, 0, 0, 0, 0, 0, 0, 0, 0, 0, 0, 0]))).set 89 (.inl (1, [.ref 90, .ref 91, .ref 92, .ref 93, .int 0, .int 1]))).set 89 (.inl (1, [.ref 90, .ref 91, .ref 92, .ref 93, .int 1, .int 1])))) (by rfl) ?_
      exact mi_sem_ret (cal := fun _ _ _ => none) mi_in5 (by rfl)
    refine mi_sem_call mi_in83 (i := (.invokevirtual 106, 3, 5, 0, 9, 0, 168)) (by rfl) (by rfl) hM154 (by decide) ⟨Nat.le_of_ble_eq_true rfl, Nat.le_of_ble_eq_true rfl⟩ ?_
    refine mi_sem_steps mi_in83 (mi_calok_none _ _) 1 _ (60, [(4, .int 3), (0, .ref 0), (1, .int 0), (2, .int 4), (3, .int a3)], [.int 3], (0, 0), (((((((mi_G.set 1 (.inl (4, [.int 0, .ref 2, .ref 3, .ref 4, .ref 5, .ref 6, .int a3, .int 1, .int 0, .int 0, .ref 7, .ref 10, .ref 14, .ref 15, .int 8, .int 0, .int 0, .ref 24]))).set 90 (.inr (.int, .inl (List.replicate 40 0)))).set 91 (.inr (.int, .inl [4, 0, 0, 0, 0, 0, 0, 0, 0, 0, 0, 0, 0, 0, 0, 0, 0, 0, 0, 0, 0, 0, 0, 0, 0, 0, 0, 0, 0, 0, 0, 0, 0, 0, 0, 0, 0, 0, 0, 0]))).set 92 (.inr (.int, .inl [3, 0, 0, 0, 0, 0, 0, 0, 0, 0, 0, 0, 0, 0, 0, 0, 0, 0, 0, 0, 0, 0, 0, 0, 0, 0, 0, 0, 0, 0, 0, 0, 0, 0, 0, 0, 0, 0, 0, 0]))).set 93 (.inr (.int, .inl [a3, 0, 0, 0, 0, 0, 0, 0, 0, 0, 0, 0, 0, 0, 0, 0, 0, 0, 0, 0, 0, 0, 0, 0, 0, 0, 0, 0, 0, 0, 0, 0, 0, 0, 0, 0, 0, 0, 0, 0]))).set 89 (.inl (1, [.ref 90, .ref 91, .ref 92, .ref 93, .int 0, .int 1]))).set 89 (.inl (1, [.ref 90, .ref 91, .ref 92, .ref 93, .int 1, .int 1])))) (by rfl) ?_
    exact mi_sem_ret (cal := fun _ _ _ => none) mi_in83 (by rfl)
  · refine mi_met_of (y := 142) (q := (mi_h142, mi_c142)) rfl (by decide) (Nat.le_of_ble_eq_true rfl) ?_
    refine mi_sem_steps mi_in142 (mi_calok_none _ _) 3 _ (3, [(0, .ref 116), (1, .int 0), (2, .int 4), (3, .int a3)], [.int 4, .int 0, .ref 116], (0, 0), (((((((mi_G.set 1 (.inl (4, [.int 0, .ref 2, .ref 3, .ref 4, .ref 5, .ref 6, .int a3, .int 1, .int 0, .int 0, .ref 7, .ref 10, .ref 14, .ref 15, .int 8, .int 0, .int 0, .ref 24]))).set 90 (.inr (.int, .inl (List.replicate 40 0)))).set 91 (.inr (.int, .inl [4, 0, 0, 0, 0, 0, 0, 0, 0, 0, 0, 0, 0, 0, 0, 0, 0, 0, 0, 0, 0, 0, 0, 0, 0, 0, 0, 0, 0, 0, 0, 0, 0, 0, 0, 0, 0, 0, 0, 0]))).set 92 (.inr (.int, .inl [3, 0, 0, 0, 0, 0, 0, 0, 0, 0, 0, 0, 0, 0, 0, 0, 0, 0, 0, 0, 0, 0, 0, 0, 0, 0, 0, 0, 0, 0, 0, 0, 0, 0, 0, 0, 0, 0, 0, 0]))).set 93 (.inr (.int, .inl [a3, 0, 0, 0, 0, 0, 0, 0, 0, 0, 0, 0, 0, 0, 0, 0, 0, 0, 0, 0, 0, 0, 0, 0, 0, 0, 0, 0, 0, 0, 0, 0, 0, 0, 0, 0, 0, 0, 0, 0]))).set 89 (.inl (1, [.ref 90, .ref 91, .ref 92, .ref 93, .int 0, .int 1]))).set 89 (.inl (1, [.ref 90, .ref 91, .ref 92, .ref 93, .int 1, .int 1])))) (by rfl) ?_
    have hM157 : mi_Met mi_N0 2 mi_h138 [.ref 116, .int 0, .int 4] (((((((mi_G.set 1 (.inl (4, [.int 0, .ref 2, .ref 3, .ref 4, .ref 5, .ref 6, .int a3, .int 1, .int 0, .int 0, .ref 7, .ref 10, .ref 14, .ref 15, .int 8, .int 0, .int 0, .ref 24]))).set 90 (.inr (.int, .inl (List.replicate 40 0)))).set 91 (.inr (.int, .inl [4, 0, 0, 0, 0, 0, 0, 0, 0, 0, 0, 0, 0, 0, 0, 0, 0, 0, 0, 0, 0, 0, 0, 0, 0, 0, 0, 0, 0, 0, 0, 0, 0, 0, 0, 0, 0, 0, 0, 0]))).set 92 (.inr (.int, .inl [3, 0, 0, 0, 0, 0, 0, 0, 0, 0, 0, 0, 0, 0, 0, 0, 0, 0, 0, 0, 0, 0, 0, 0, 0, 0, 0, 0, 0, 0, 0, 0, 0, 0, 0, 0, 0, 0, 0, 0]))).set 93 (.inr (.int, .inl [a3, 0, 0, 0, 0, 0, 0, 0, 0, 0, 0, 0, 0, 0, 0, 0, 0, 0, 0, 0, 0, 0, 0, 0, 0, 0, 0, 0, 0, 0, 0, 0, 0, 0, 0, 0, 0, 0, 0, 0]))).set 89 (.inl (1, [.ref 90, .ref 91, .ref 92, .ref 93, .int 0, .int 1]))).set 89 (.inl (1, [.ref 90, .ref 91, .ref 92, .ref 93, .int 1, .int 1]))) (some (.int 1)) (((((((mi_G.set 1 (.inl (4, [.int 0, .ref 2, .ref 3, .ref 4, .ref 5, .ref 6, .int a3, .int 1, .int 0, .int 0, .ref 7, .ref 10, .ref 14, .ref 15, .int 8, .int 0, .int 0, .ref 24]))).set 90 (.inr (.int, .inl (List.replicate 40 0)))).set 91 (.inr (.int, .inl [4, 0, 0, 0, 0, 0, 0, 0, 0, 0, 0, 0, 0, 0, 0, 0, 0, 0, 0, 0, 0, 0, 0, 0, 0, 0, 0, 0, 0, 0, 0, 0, 0, 0, 0, 0, 0, 0, 0, 0]))).set 92 (.inr (.int, .inl [3, 0, 0, 0, 0, 0, 0, 0, 0, 0, 0, 0, 0, 0, 0, 0, 0, 0, 0, 0, 0, 0, 0, 0, 0, 0, 0, 0, 0, 0, 0, 0, 0, 0, 0, 0, 0, 0, 0, 0]))).set 93 (.inr (.int, .inl [a3, 0, 0, 0, 0, 0, 0, 0, 0, 0, 0, 0, 0, 0, 0, 0, 0, 0, 0, 0, 0, 0, 0, 0, 0, 0, 0, 0, 0, 0, 0, 0, 0, 0, 0, 0, 0, 0, 0, 0]))).set 89 (.inl (1, [.ref 90, .ref 91, .ref 92, .ref 93, .int 0, .int 1]))).set 89 (.inl (1, [.ref 90, .ref 91, .ref 92, .ref 93, .int 1, .int 1]))) := by
      refine mi_met_of (y := 138) (q := (mi_h138, mi_c138)) rfl (by decide) (Nat.le_of_ble_eq_true rfl) ?_
      refine mi_sem_steps mi_in138 (mi_calok_none _ _) 3 _ (3, [(0, .ref 116), (1, .int 0), (2, .int 4)], [.int 3, .int 0, .int 4], (0, 0), (((((((mi_G.set 1 (.inl (4, [.int 0, .ref 2, .ref 3, .ref 4, .ref 5, .ref 6, .int a3, .int 1, .int 0, .int 0, .ref 7, .ref 10, .ref 14, .ref 15, .int 8, .int 0, .int 0, .ref 24]))).set 90 (.inr (.int, .inl (List.replicate 40 0)))).set 91 (.inr (.int, .inl [4, 0, 0, 0, 0, 0, 0, 0, 0, 0, 0, 0, 0, 0, 0, 0, 0, 0, 0, 0, 0, 0, 0, 0, 0, 0, 0, 0, 0, 0, 0, 0, 0, 0, 0, 0, 0, 0, 0, 0]))).set 92 (.inr (.int, .inl [3, 0, 0, 0, 0, 0, 0, 0, 0, 0, 0, 0, 0, 0, 0, 0, 0, 0, 0, 0, 0, 0, 0, 0, 0, 0, 0, 0, 0, 0, 0, 0, 0, 0, 0, 0, 0, 0, 0, 0]))).set 93 (.inr (.int, .inl [a3, 0, 0, 0, 0, 0, 0, 0, 0, 0, 0, 0, 0, 0, 0, 0, 0, 0, 0, 0, 0, 0, 0, 0, 0, 0, 0, 0, 0, 0, 0, 0, 0, 0, 0, 0, 0, 0, 0, 0]))).set 89 (.inl (1, [.ref 90, .ref 91, .ref 92, .ref 93, .int 0, .int 1]))).set 89 (.inl (1, [.ref 90, .ref 91, .ref 92, .ref 93, .int 1, .int 1])))) (by rfl) ?_
      have hM155 : mi_Met mi_N0 1 mi_h131 [.int 4, .int 0, .int 3] (((((((mi_G.set 1 (.inl (4, [.int 0, .ref 2, .ref 3, .ref 4, .ref 5, .ref 6, .int a3, .int 1, .int 0, .int 0, .ref 7, .ref 10, .ref 14, .ref 15, .int 8, .int 0, .int 0, .ref 24]))).set 90 (.inr (.int, .inl (List.replicate 40 0)))).set 91 (.inr (.int, .inl [4, 0, 0, 0, 0, 0, 0, 0, 0, 0, 0, 0, 0, 0, 0, 0, 0, 0, 0, 0, 0, 0, 0, 0, 0, 0, 0, 0, 0, 0, 0, 0, 0, 0, 0, 0, 0, 0, 0, 0]))).set 92 (.inr (.int, .inl [3, 0, 0, 0, 0, 0, 0, 0, 0, 0, 0, 0, 0, 0, 0, 0, 0, 0, 0, 0, 0, 0, 0, 0, 0, 0, 0, 0, 0, 0, 0, 0, 0, 0, 0, 0, 0, 0, 0, 0]))).set 93 (.inr (.int, .inl [a3, 0, 0, 0, 0, 0, 0, 0, 0, 0, 0, 0, 0, 0, 0, 0, 0, 0, 0, 0, 0, 0, 0, 0, 0, 0, 0, 0, 0, 0, 0, 0, 0, 0, 0, 0, 0, 0, 0, 0]))).set 89 (.inl (1, [.ref 90, .ref 91, .ref 92, .ref 93, .int 0, .int 1]))).set 89 (.inl (1, [.ref 90, .ref 91, .ref 92, .ref 93, .int 1, .int 1]))) (some (.int 0)) (((((((mi_G.set 1 (.inl (4, [.int 0, .ref 2, .ref 3, .ref 4, .ref 5, .ref 6, .int a3, .int 1, .int 0, .int 0, .ref 7, .ref 10, .ref 14, .ref 15, .int 8, .int 0, .int 0, .ref 24]))).set 90 (.inr (.int, .inl (List.replicate 40 0)))).set 91 (.inr (.int, .inl [4, 0, 0, 0, 0, 0, 0, 0, 0, 0, 0, 0, 0, 0, 0, 0, 0, 0, 0, 0, 0, 0, 0, 0, 0, 0, 0, 0, 0, 0, 0, 0, 0, 0, 0, 0, 0, 0, 0, 0]))).set 92 (.inr (.int, .inl [3, 0, 0, 0, 0, 0, 0, 0, 0, 0, 0, 0, 0, 0, 0, 0, 0, 0, 0, 0, 0, 0, 0, 0, 0, 0, 0, 0, 0, 0, 0, 0, 0, 0, 0, 0, 0, 0, 0, 0]))).set 93 (.inr (.int, .inl [a3, 0, 0, 0, 0, 0, 0, 0, 0, 0, 0, 0, 0, 0, 0, 0, 0, 0, 0, 0, 0, 0, 0, 0, 0, 0, 0, 0, 0, 0, 0, 0, 0, 0, 0, 0, 0, 0, 0, 0]))).set 89 (.inl (1, [.ref 90, .ref 91, .ref 92, .ref 93, .int 0, .int 1]))).set 89 (.inl (1, [.ref 90, .ref 91, .ref 92, .ref 93, .int 1, .int 1]))) := by
        refine mi_met_of (y := 131) (q := (mi_h131, mi_c131)) rfl (by decide) (Nat.le_of_ble_eq_true rfl) ?_
        refine mi_sem_steps mi_in131 (mi_calok_none _ _) 7 _ (15, [(0, .int 4), (1, .int 0), (2, .int 3)], [.int 0], (0, 0), (((((((mi_G.set 1 (.inl (4, [.int 0, .ref 2, .ref 3, .ref 4, .ref 5, .ref 6, .int a3, .int 1, .int 0, .int 0, .ref 7, .ref 10, .ref 14, .ref 15, .int 8, .int 0, .int 0, .ref 24]))).set 90 (.inr (.int, .inl (List.replicate 40 0)))).set 91 (.inr (.int, .inl [4, 0, 0, 0, 0, 0, 0, 0, 0, 0, 0, 0, 0, 0, 0, 0, 0, 0, 0, 0, 0, 0, 0, 0, 0, 0, 0, 0, 0, 0, 0, 0, 0, 0, 0, 0, 0, 0, 0, 0]))).set 92 (.inr (.int, .inl [3, 0, 0, 0, 0, 0, 0, 0, 0, 0, 0, 0, 0, 0, 0, 0, 0, 0, 0, 0, 0, 0, 0, 0, 0, 0, 0, 0, 0, 0, 0, 0, 0, 0, 0, 0, 0, 0, 0, 0]))).set 93 (.inr (.int, .inl [a3, 0, 0, 0, 0, 0, 0, 0, 0, 0, 0, 0, 0, 0, 0, 0, 0, 0, 0, 0, 0, 0, 0, 0, 0, 0, 0, 0, 0, 0, 0, 0, 0, 0, 0, 0, 0, 0, 0, 0]))).set 89 (.inl (1, [.ref 90, .ref 91, .ref 92, .ref 93, .int 0, .int 1]))).set 89 (.inl (1, [.ref 90, .ref 91, .ref 92, .ref 93, .int 1, .int 1])))) (by rfl) ?_
        exact mi_sem_ret (cal := fun _ _ _ => none) mi_in131 (by rfl)
      refine mi_sem_call mi_in138 (i := (.invokestatic 119, 3, 131, 0, 9, 0, 379)) (by rfl) (by rfl) hM155 (by decide) ⟨Nat.le_of_ble_eq_true rfl, Nat.le_of_ble_eq_true rfl⟩ ?_
      refine mi_sem_steps mi_in138 (mi_calok_none _ _) 4 _ (21, [(0, .ref 116), (1, .int 0), (2, .int 4)], [.int 6, .int 4, .int 4], (0, 0), (((((((mi_G.set 1 (.inl (4, [.int 0, .ref 2, .ref 3, .ref 4, .ref 5, .ref 6, .int a3, .int 1, .int 0, .int 0, .ref 7, .ref 10, .ref 14, .ref 15, .int 8, .int 0, .int 0, .ref 24]))).set 90 (.inr (.int, .inl (List.replicate 40 0)))).set 91 (.inr (.int, .inl [4, 0, 0, 0, 0, 0, 0, 0, 0, 0, 0, 0, 0, 0, 0, 0, 0, 0, 0, 0, 0, 0, 0, 0, 0, 0, 0, 0, 0, 0, 0, 0, 0, 0, 0, 0, 0, 0, 0, 0]))).set 92 (.inr (.int, .inl [3, 0, 0, 0, 0, 0, 0, 0, 0, 0, 0, 0, 0, 0, 0, 0, 0, 0, 0, 0, 0, 0, 0, 0, 0, 0, 0, 0, 0, 0, 0, 0, 0, 0, 0, 0, 0, 0, 0, 0]))).set 93 (.inr (.int, .inl [a3, 0, 0, 0, 0, 0, 0, 0, 0, 0, 0, 0, 0, 0, 0, 0, 0, 0, 0, 0, 0, 0, 0, 0, 0, 0, 0, 0, 0, 0, 0, 0, 0, 0, 0, 0, 0, 0, 0, 0]))).set 89 (.inl (1, [.ref 90, .ref 91, .ref 92, .ref 93, .int 0, .int 1]))).set 89 (.inl (1, [.ref 90, .ref 91, .ref 92, .ref 93, .int 1, .int 1])))) (by rfl) ?_
      have hM156 : mi_Met mi_N0 1 mi_h131 [.int 4, .int 4, .int 6] (((((((mi_G.set 1 (.inl (4, [.int 0, .ref 2, .ref 3, .ref 4, .ref 5, .ref 6, .int a3, .int 1, .int 0, .int 0, .ref 7, .ref 10, .ref 14, .ref 15, .int 8, .int 0, .int 0, .ref 24]))).set 90 (.inr (.int, .inl (List.replicate 40 0)))).set 91 (.inr (.int, .inl [4, 0, 0, 0, 0, 0, 0, 0, 0, 0, 0, 0, 0, 0, 0, 0, 0, 0, 0, 0, 0, 0, 0, 0, 0, 0, 0, 0, 0, 0, 0, 0, 0, 0, 0, 0, 0, 0, 0, 0]))).set 92 (.inr (.int, .inl [3, 0, 0, 0, 0, 0, 0, 0, 0, 0, 0, 0, 0, 0, 0, 0, 0, 0, 0, 0, 0, 0, 0, 0, 0, 0, 0, 0, 0, 0, 0, 0, 0, 0, 0, 0, 0, 0, 0, 0]))).set 93 (.inr (.int, .inl [a3, 0, 0, 0, 0, 0, 0, 0, 0, 0, 0, 0, 0, 0, 0, 0, 0, 0, 0, 0, 0, 0, 0, 0, 0, 0, 0, 0, 0, 0, 0, 0, 0, 0, 0, 0, 0, 0, 0, 0]))).set 89 (.inl (1, [.ref 90, .ref 91, .ref 92, .ref 93, .int 0, .int 1]))).set 89 (.inl (1, [.ref 90, .ref 91, .ref 92, .ref 93, .int 1, .int 1]))) (some (.int 1)) (((((((mi_G.set 1 (.inl (4, [.int 0, .ref 2, .ref 3, .ref 4, .ref 5, .ref 6, .int a3, .int 1, .int 0, .int 0, .ref 7, .ref 10, .ref 14, .ref 15, .int 8, .int 0, .int 0, .ref 24]))).set 90 (.inr (.int, .inl (List.replicate 40 0)))).set 91 (.inr (.int, .inl [4, 0, 0, 0, 0, 0, 0, 0, 0, 0, 0, 0, 0, 0, 0, 0, 0, 0, 0, 0, 0, 0, 0, 0, 0, 0, 0, 0, 0, 0, 0, 0, 0, 0, 0, 0, 0, 0, 0, 0]))).set 92 (.inr (.int, .inl [3, 0, 0, 0, 0, 0, 0, 0, 0, 0, 0, 0, 0, 0, 0, 0, 0, 0, 0, 0, 0, 0, 0, 0, 0, 0, 0, 0, 0, 0, 0, 0, 0, 0, 0, 0, 0, 0, 0, 0]))).set 93 (.inr (.int, .inl [a3, 0, 0, 0, 0, 0, 0, 0, 0, 0, 0, 0, 0, 0, 0, 0, 0, 0, 0, 0, 0, 0, 0, 0, 0, 0, 0, 0, 0, 0, 0, 0, 0, 0, 0, 0, 0, 0, 0, 0]))).set 89 (.inl (1, [.ref 90, .ref 91, .ref 92, .ref 93, .int 0, .int 1]))).set 89 (.inl (1, [.ref 90, .ref 91, .ref 92, .ref 93, .int 1, .int 1]))) := by
        refine mi_met_of (y := 131) (q := (mi_h131, mi_c131)) rfl (by decide) (Nat.le_of_ble_eq_true rfl) ?_
        refine mi_sem_steps mi_in131 (mi_calok_none _ _) 8 _ (15, [(0, .int 4), (1, .int 4), (2, .int 6)], [.int 1], (0, 0), (((((((mi_G.set 1 (.inl (4, [.int 0, .ref 2, .ref 3, .ref 4, .ref 5, .ref 6, .int a3, .int 1, .int 0, .int 0, .ref 7, .ref 10, .ref 14, .ref 15, .int 8, .int 0, .int 0, .ref 24]))).set 90 (.inr (.int, .inl (List.replicate 40 0)))).set 91 (.inr (.int, .inl [4, 0, 0, 0, 0, 0, 0, 0, 0, 0, 0, 0, 0, 0, 0, 0, 0, 0, 0, 0, 0, 0, 0, 0, 0, 0, 0, 0, 0, 0, 0, 0, 0, 0, 0, 0, 0, 0, 0, 0]))).set 92 (.inr (.int, .inl [3, 0, 0, 0, 0, 0, 0, 0, 0, 0, 0, 0, 0, 0, 0, 0, 0, 0, 0, 0, 0, 0, 0, 0, 0, 0, 0, 0, 0, 0, 0, 0, 0, 0, 0, 0, 0, 0, 0, 0]))).set 93 (.inr (.int, .inl [a3, 0, 0, 0, 0, 0, 0, 0, 0, 0, 0, 0, 0, 0, 0, 0, 0, 0, 0, 0, 0, 0, 0, 0, 0, 0, 0, 0, 0, 0, 0, 0, 0, 0, 0, 0, 0, 0, 0, 0]))).set 89 (.inl (1, [.ref 90, .ref 91, .ref 92, .ref 93, .int 0, .int 1]))).set 89 (.inl (1, [.ref 90, .ref 91, .ref 92, .ref 93, .int 1, .int 1])))) (by rfl) ?_
        exact mi_sem_ret (cal := fun _ _ _ => none) mi_in131 (by rfl)
      refine mi_sem_call mi_in138 (i := (.invokestatic 119, 3, 131, 0, 9, 0, 379)) (by rfl) (by rfl) hM156 (by decide) ⟨Nat.le_of_ble_eq_true rfl, Nat.le_of_ble_eq_true rfl⟩ ?_
      refine mi_sem_steps mi_in138 (mi_calok_none _ _) 5 _ (36, [(0, .ref 116), (1, .int 0), (2, .int 4)], [.int 1], (0, 0), (((((((mi_G.set 1 (.inl (4, [.int 0, .ref 2, .ref 3, .ref 4, .ref 5, .ref 6, .int a3, .int 1, .int 0, .int 0, .ref 7, .ref 10, .ref 14, .ref 15, .int 8, .int 0, .int 0, .ref 24]))).set 90 (.inr (.int, .inl (List.replicate 40 0)))).set 91 (.inr (.int, .inl [4, 0, 0, 0, 0, 0, 0, 0, 0, 0, 0, 0, 0, 0, 0, 0, 0, 0, 0, 0, 0, 0, 0, 0, 0, 0, 0, 0, 0, 0, 0, 0, 0, 0, 0, 0, 0, 0, 0, 0]))).set 92 (.inr (.int, .inl [3, 0, 0, 0, 0, 0, 0, 0, 0, 0, 0, 0, 0, 0, 0, 0, 0, 0, 0, 0, 0, 0, 0, 0, 0, 0, 0, 0, 0, 0, 0, 0, 0, 0, 0, 0, 0, 0, 0, 0]))).set 93 (.inr (.int, .inl [a3, 0, 0, 0, 0, 0, 0, 0, 0, 0, 0, 0, 0, 0, 0, 0, 0, 0, 0, 0, 0, 0, 0, 0, 0, 0, 0, 0, 0, 0, 0, 0, 0, 0, 0, 0, 0, 0, 0, 0]))).set 89 (.inl (1, [.ref 90, .ref 91, .ref 92, .ref 93, .int 0, .int 1]))).set 89 (.inl (1, [.ref 90, .ref 91, .ref 92, .ref 93, .int 1, .int 1])))) (by rfl) ?_
      exact mi_sem_ret (cal := fun _ _ _ => none) mi_in138 (by rfl)
    refine mi_sem_call mi_in142 (i := (.invokevirtual 140, 3, 138, 0, 9, 0, 386)) (by rfl) (by rfl) hM157 (by decide) ⟨Nat.le_of_ble_eq_true rfl, Nat.le_of_ble_eq_true rfl⟩ ?_
    refine mi_sem_steps mi_in142 (mi_calok_none _ _) 3 _ (11, [(0, .ref 116), (1, .int 0), (2, .int 4), (3, .int a3)], [.int a3, .int 4], (0, 0), (((((((mi_G.set 1 (.inl (4, [.int 0, .ref 2, .ref 3, .ref 4, .ref 5, .ref 6, .int a3, .int 1, .int 0, .int 0, .ref 7, .ref 10, .ref 14, .ref 15, .int 8, .int 0, .int 0, .ref 24]))).set 90 (.inr (.int, .inl (List.replicate 40 0)))).set 91 (.inr (.int, .inl [4, 0, 0, 0, 0, 0, 0, 0, 0, 0, 0, 0, 0, 0, 0, 0, 0, 0, 0, 0, 0, 0, 0, 0, 0, 0, 0, 0, 0, 0, 0, 0, 0, 0, 0, 0, 0, 0, 0, 0]))).set 92 (.inr (.int, .inl [3, 0, 0, 0, 0, 0, 0, 0, 0, 0, 0, 0, 0, 0, 0, 0, 0, 0, 0, 0, 0, 0, 0, 0, 0, 0, 0, 0, 0, 0, 0, 0, 0, 0, 0, 0, 0, 0, 0, 0]))).set 93 (.inr (.int, .inl [a3, 0, 0, 0, 0, 0, 0, 0, 0, 0, 0, 0, 0, 0, 0, 0, 0, 0, 0, 0, 0, 0, 0, 0, 0, 0, 0, 0, 0, 0, 0, 0, 0, 0, 0, 0, 0, 0, 0, 0]))).set 89 (.inl (1, [.ref 90, .ref 91, .ref 92, .ref 93, .int 0, .int 1]))).set 89 (.inl (1, [.ref 90, .ref 91, .ref 92, .ref 93, .int 1, .int 1])))) (by rfl) ?_
    have hM159 : mi_Met mi_N0 2 mi_h139 [.int 4, .int a3] (((((((mi_G.set 1 (.inl (4, [.int 0, .ref 2, .ref 3, .ref 4, .ref 5, .ref 6, .int a3, .int 1, .int 0, .int 0, .ref 7, .ref 10, .ref 14, .ref 15, .int 8, .int 0, .int 0, .ref 24]))).set 90 (.inr (.int, .inl (List.replicate 40 0)))).set 91 (.inr (.int, .inl [4, 0, 0, 0, 0, 0, 0, 0, 0, 0, 0, 0, 0, 0, 0, 0, 0, 0, 0, 0, 0, 0, 0, 0, 0, 0, 0, 0, 0, 0, 0, 0, 0, 0, 0, 0, 0, 0, 0, 0]))).set 92 (.inr (.int, .inl [3, 0, 0, 0, 0, 0, 0, 0, 0, 0, 0, 0, 0, 0, 0, 0, 0, 0, 0, 0, 0, 0, 0, 0, 0, 0, 0, 0, 0, 0, 0, 0, 0, 0, 0, 0, 0, 0, 0, 0]))).set 93 (.inr (.int, .inl [a3, 0, 0, 0, 0, 0, 0, 0, 0, 0, 0, 0, 0, 0, 0, 0, 0, 0, 0, 0, 0, 0, 0, 0, 0, 0, 0, 0, 0, 0, 0, 0, 0, 0, 0, 0, 0, 0, 0, 0]))).set 89 (.inl (1, [.ref 90, .ref 91, .ref 92, .ref 93, .int 0, .int 1]))).set 89 (.inl (1, [.ref 90, .ref 91, .ref 92, .ref 93, .int 1, .int 1]))) (some (.int 1)) (((((((mi_G.set 1 (.inl (4, [.int 0, .ref 2, .ref 3, .ref 4, .ref 5, .ref 6, .int a3, .int 1, .int 0, .int 0, .ref 7, .ref 10, .ref 14, .ref 15, .int 8, .int 0, .int 0, .ref 24]))).set 90 (.inr (.int, .inl (List.replicate 40 0)))).set 91 (.inr (.int, .inl [4, 0, 0, 0, 0, 0, 0, 0, 0, 0, 0, 0, 0, 0, 0, 0, 0, 0, 0, 0, 0, 0, 0, 0, 0, 0, 0, 0, 0, 0, 0, 0, 0, 0, 0, 0, 0, 0, 0, 0]))).set 92 (.inr (.int, .inl [3, 0, 0, 0, 0, 0, 0, 0, 0, 0, 0, 0, 0, 0, 0, 0, 0, 0, 0, 0, 0, 0, 0, 0, 0, 0, 0, 0, 0, 0, 0, 0, 0, 0, 0, 0, 0, 0, 0, 0]))).set 93 (.inr (.int, .inl [a3, 0, 0, 0, 0, 0, 0, 0, 0, 0, 0, 0, 0, 0, 0, 0, 0, 0, 0, 0, 0, 0, 0, 0, 0, 0, 0, 0, 0, 0, 0, 0, 0, 0, 0, 0, 0, 0, 0, 0]))).set 89 (.inl (1, [.ref 90, .ref 91, .ref 92, .ref 93, .int 0, .int 1]))).set 89 (.inl (1, [.ref 90, .ref 91, .ref 92, .ref 93, .int 1, .int 1]))) := by
      refine mi_met_of (y := 139) (q := (mi_h139, mi_c139)) rfl (by decide) (Nat.le_of_ble_eq_true rfl) ?_
      refine mi_sem_steps mi_in139 (mi_calok_none _ _) 5 _ (64, [(0, .int 4), (1, .int a3)], [.int 5, .int 1, .int a3], (0, 0), (((((((mi_G.set 1 (.inl (4, [.int 0, .ref 2, .ref 3, .ref 4, .ref 5, .ref 6, .int a3, .int 1, .int 0, .int 0, .ref 7, .ref 10, .ref 14, .ref 15, .int 8, .int 0, .int 0, .ref 24]))).set 90 (.inr (.int, .inl (List.replicate 40 0)))).set 91 (.inr (.int, .inl [4, 0, 0, 0, 0, 0, 0, 0, 0, 0, 0, 0, 0, 0, 0, 0, 0, 0, 0, 0, 0, 0, 0, 0, 0, 0, 0, 0, 0, 0, 0, 0, 0, 0, 0, 0, 0, 0, 0, 0]))).set 92 (.inr (.int, .inl [3, 0, 0, 0, 0, 0, 0, 0, 0, 0, 0, 0, 0, 0, 0, 0, 0, 0, 0, 0, 0, 0, 0, 0, 0, 0, 0, 0, 0, 0, 0, 0, 0, 0, 0, 0, 0, 0, 0, 0]))).set 93 (.inr (.int, .inl [a3, 0, 0, 0, 0, 0, 0, 0, 0, 0, 0, 0, 0, 0, 0, 0, 0, 0, 0, 0, 0, 0, 0, 0, 0, 0, 0, 0, 0, 0, 0, 0, 0, 0, 0, 0, 0, 0, 0, 0]))).set 89 (.inl (1, [.ref 90, .ref 91, .ref 92, .ref 93, .int 0, .int 1]))).set 89 (.inl (1, [.ref 90, .ref 91, .ref 92, .ref 93, .int 1, .int 1])))) (by rfl) ?_
      have hM158 : mi_Met mi_N0 1 mi_h131 [.int a3, .int 1, .int 5] (((((((mi_G.set 1 (.inl (4, [.int 0, .ref 2, .ref 3, .ref 4, .ref 5, .ref 6, .int a3, .int 1, .int 0, .int 0, .ref 7, .ref 10, .ref 14, .ref 15, .int 8, .int 0, .int 0, .ref 24]))).set 90 (.inr (.int, .inl (List.replicate 40 0)))).set 91 (.inr (.int, .inl [4, 0, 0, 0, 0, 0, 0, 0, 0, 0, 0, 0, 0, 0, 0, 0, 0, 0, 0, 0, 0, 0, 0, 0, 0, 0, 0, 0, 0, 0, 0, 0, 0, 0, 0, 0, 0, 0, 0, 0]))).set 92 (.inr (.int, .inl [3, 0, 0, 0, 0, 0, 0, 0, 0, 0, 0, 0, 0, 0, 0, 0, 0, 0, 0, 0, 0, 0, 0, 0, 0, 0, 0, 0, 0, 0, 0, 0, 0, 0, 0, 0, 0, 0, 0, 0]))).set 93 (.inr (.int, .inl [a3, 0, 0, 0, 0, 0, 0, 0, 0, 0, 0, 0, 0, 0, 0, 0, 0, 0, 0, 0, 0, 0, 0, 0, 0, 0, 0, 0, 0, 0, 0, 0, 0, 0, 0, 0, 0, 0, 0, 0]))).set 89 (.inl (1, [.ref 90, .ref 91, .ref 92, .ref 93, .int 0, .int 1]))).set 89 (.inl (1, [.ref 90, .ref 91, .ref 92, .ref 93, .int 1, .int 1]))) (some (.int 1)) (((((((mi_G.set 1 (.inl (4, [.int 0, .ref 2, .ref 3, .ref 4, .ref 5, .ref 6, .int a3, .int 1, .int 0, .int 0, .ref 7, .ref 10, .ref 14, .ref 15, .int 8, .int 0, .int 0, .ref 24]))).set 90 (.inr (.int, .inl (List.replicate 40 0)))).set 91 (.inr (.int, .inl [4, 0, 0, 0, 0, 0, 0, 0, 0, 0, 0, 0, 0, 0, 0, 0, 0, 0, 0, 0, 0, 0, 0, 0, 0, 0, 0, 0, 0, 0, 0, 0, 0, 0, 0, 0, 0, 0, 0, 0]))).set 92 (.inr (.int, .inl [3, 0, 0, 0, 0, 0, 0, 0, 0, 0, 0, 0, 0, 0, 0, 0, 0, 0, 0, 0, 0, 0, 0, 0, 0, 0, 0, 0, 0, 0, 0, 0, 0, 0, 0, 0, 0, 0, 0, 0]))).set 93 (.inr (.int, .inl [a3, 0, 0, 0, 0, 0, 0, 0, 0, 0, 0, 0, 0, 0, 0, 0, 0, 0, 0, 0, 0, 0, 0, 0, 0, 0, 0, 0, 0, 0, 0, 0, 0, 0, 0, 0, 0, 0, 0, 0]))).set 89 (.inl (1, [.ref 90, .ref 91, .ref 92, .ref 93, .int 0, .int 1]))).set 89 (.inl (1, [.ref 90, .ref 91, .ref 92, .ref 93, .int 1, .int 1]))) := by
        refine mi_met_of (y := 131) (q := (mi_h131, mi_c131)) rfl (by decide) (Nat.le_of_ble_eq_true rfl) ?_
        refine mi_sem_steps mi_in131 (mi_calok_none _ _) 2 _ (2, [(0, .int a3), (1, .int 1), (2, .int 5)], [.int 1, .int a3], (0, 0), (((((((mi_G.set 1 (.inl (4, [.int 0, .ref 2, .ref 3, .ref 4, .ref 5, .ref 6, .int a3, .int 1, .int 0, .int 0, .ref 7, .ref 10, .ref 14, .ref 15, .int 8, .int 0, .int 0, .ref 24]))).set 90 (.inr (.int, .inl (List.replicate 40 0)))).set 91 (.inr (.int, .inl [4, 0, 0, 0, 0, 0, 0, 0, 0, 0, 0, 0, 0, 0, 0, 0, 0, 0, 0, 0, 0, 0, 0, 0, 0, 0, 0, 0, 0, 0, 0, 0, 0, 0, 0, 0, 0, 0, 0, 0]))).set 92 (.inr (.int, .inl [3, 0, 0, 0, 0, 0, 0, 0, 0, 0, 0, 0, 0, 0, 0, 0, 0, 0, 0, 0, 0, 0, 0, 0, 0, 0, 0, 0, 0, 0, 0, 0, 0, 0, 0, 0, 0, 0, 0, 0]))).set 93 (.inr (.int, .inl [a3, 0, 0, 0, 0, 0, 0, 0, 0, 0, 0, 0, 0, 0, 0, 0, 0, 0, 0, 0, 0, 0, 0, 0, 0, 0, 0, 0, 0, 0, 0, 0, 0, 0, 0, 0, 0, 0, 0, 0]))).set 89 (.inl (1, [.ref 90, .ref 91, .ref 92, .ref 93, .int 0, .int 1]))).set 89 (.inl (1, [.ref 90, .ref 91, .ref 92, .ref 93, .int 1, .int 1])))) (by rfl) ?_
        refine mi_sem_b mi_in131 (decide (a3 < 1)) false (mi_ltF (1) (by decide) (by omega)) 14 5 ([(0, .int a3), (1, .int 1), (2, .int 5)], [], (0, 0), (((((((mi_G.set 1 (.inl (4, [.int 0, .ref 2, .ref 3, .ref 4, .ref 5, .ref 6, .int a3, .int 1, .int 0, .int 0, .ref 7, .ref 10, .ref 14, .ref 15, .int 8, .int 0, .int 0, .ref 24]))).set 90 (.inr (.int, .inl (List.replicate 40 0)))).set 91 (.inr (.int, .inl [4, 0, 0, 0, 0, 0, 0, 0, 0, 0, 0, 0, 0, 0, 0, 0, 0, 0, 0, 0, 0, 0, 0, 0, 0, 0, 0, 0, 0, 0, 0, 0, 0, 0, 0, 0, 0, 0, 0, 0]))).set 92 (.inr (.int, .inl [3, 0, 0, 0, 0, 0, 0, 0, 0, 0, 0, 0, 0, 0, 0, 0, 0, 0, 0, 0, 0, 0, 0, 0, 0, 0, 0, 0, 0, 0, 0, 0, 0, 0, 0, 0, 0, 0, 0, 0]))).set 93 (.inr (.int, .inl [a3, 0, 0, 0, 0, 0, 0, 0, 0, 0, 0, 0, 0, 0, 0, 0, 0, 0, 0, 0, 0, 0, 0, 0, 0, 0, 0, 0, 0, 0, 0, 0, 0, 0, 0, 0, 0, 0, 0, 0]))).set 89 (.inl (1, [.ref 90, .ref 91, .ref 92, .ref 93, .int 0, .int 1]))).set 89 (.inl (1, [.ref 90, .ref 91, .ref 92, .ref 93, .int 1, .int 1])))) (by rfl) ?_
        refine mi_sem_steps mi_in131 (mi_calok_none _ _) 2 _ (7, [(0, .int a3), (1, .int 1), (2, .int 5)], [.int 5, .int a3], (0, 0), (((((((mi_G.set 1 (.inl (4, [.int 0, .ref 2, .ref 3, .ref 4, .ref 5, .ref 6, .int a3, .int 1, .int 0, .int 0, .ref 7, .ref 10, .ref 14, .ref 15, .int 8, .int 0, .int 0, .ref 24]))).set 90 (.inr (.int, .inl (List.replicate 40 0)))).set 91 (.inr (.int, .inl [4, 0, 0, 0, 0, 0, 0, 0, 0, 0, 0, 0, 0, 0, 0, 0, 0, 0, 0, 0, 0, 0, 0, 0, 0, 0, 0, 0, 0, 0, 0, 0, 0, 0, 0, 0, 0, 0, 0, 0]))).set 92 (.inr (.int, .inl [3, 0, 0, 0, 0, 0, 0, 0, 0, 0, 0, 0, 0, 0, 0, 0, 0, 0, 0, 0, 0, 0, 0, 0, 0, 0, 0, 0, 0, 0, 0, 0, 0, 0, 0, 0, 0, 0, 0, 0]))).set 93 (.inr (.int, .inl [a3, 0, 0, 0, 0, 0, 0, 0, 0, 0, 0, 0, 0, 0, 0, 0, 0, 0, 0, 0, 0, 0, 0, 0, 0, 0, 0, 0, 0, 0, 0, 0, 0, 0, 0, 0, 0, 0, 0, 0]))).set 89 (.inl (1, [.ref 90, .ref 91, .ref 92, .ref 93, .int 0, .int 1]))).set 89 (.inl (1, [.ref 90, .ref 91, .ref 92, .ref 93, .int 1, .int 1])))) (by rfl) ?_
        refine mi_sem_b mi_in131 (decide (5 < a3)) false (mi_ltF2 (5) (by decide) (by omega)) 14 10 ([(0, .int a3), (1, .int 1), (2, .int 5)], [], (0, 0), (((((((mi_G.set 1 (.inl (4, [.int 0, .ref 2, .ref 3, .ref 4, .ref 5, .ref 6, .int a3, .int 1, .int 0, .int 0, .ref 7, .ref 10, .ref 14, .ref 15, .int 8, .int 0, .int 0, .ref 24]))).set 90 (.inr (.int, .inl (List.replicate 40 0)))).set 91 (.inr (.int, .inl [4, 0, 0, 0, 0, 0, 0, 0, 0, 0, 0, 0, 0, 0, 0, 0, 0, 0, 0, 0, 0, 0, 0, 0, 0, 0, 0, 0, 0, 0, 0, 0, 0, 0, 0, 0, 0, 0, 0, 0]))).set 92 (.inr (.int, .inl [3, 0, 0, 0, 0, 0, 0, 0, 0, 0, 0, 0, 0, 0, 0, 0, 0, 0, 0, 0, 0, 0, 0, 0, 0, 0, 0, 0, 0, 0, 0, 0, 0, 0, 0, 0, 0, 0, 0, 0]))).set 93 (.inr (.int, .inl [a3, 0, 0, 0, 0, 0, 0, 0, 0, 0, 0, 0, 0, 0, 0, 0, 0, 0, 0, 0, 0, 0, 0, 0, 0, 0, 0, 0, 0, 0, 0, 0, 0, 0, 0, 0, 0, 0, 0, 0]))).set 89 (.inl (1, [.ref 90, .ref 91, .ref 92, .ref 93, .int 0, .int 1]))).set 89 (.inl (1, [.ref 90, .ref 91, .ref 92, .ref 93, .int 1, .int 1])))) (by rfl) ?_
        refine mi_sem_steps mi_in131 (mi_calok_none _ _) 2 _ (15, [(0, .int a3), (1, .int 1), (2, .int 5)], [.int 1], (0, 0), (((((((mi_G.set 1 (.inl (4, [.int 0, .ref 2, .ref 3, .ref 4, .ref 5, .ref 6, .int a3, .int 1, .int 0, .int 0, .ref 7, .ref 10, .ref 14, .ref 15, .int 8, .int 0, .int 0, .ref 24]))).set 90 (.inr (.int, .inl (List.replicate 40 0)))).set 91 (.inr (.int, .inl [4, 0, 0, 0, 0, 0, 0, 0, 0, 0, 0, 0, 0, 0, 0, 0, 0, 0, 0, 0, 0, 0, 0, 0, 0, 0, 0, 0, 0, 0, 0, 0, 0, 0, 0, 0, 0, 0, 0, 0]))).set 92 (.inr (.int, .inl [3, 0, 0, 0, 0, 0, 0, 0, 0, 0, 0, 0, 0, 0, 0, 0, 0, 0, 0, 0, 0, 0, 0, 0, 0, 0, 0, 0, 0, 0, 0, 0, 0, 0, 0, 0, 0, 0, 0, 0]))).set 93 (.inr (.int, .inl [a3, 0, 0, 0, 0, 0, 0, 0, 0, 0, 0, 0, 0, 0, 0, 0, 0, 0, 0, 0, 0, 0, 0, 0, 0, 0, 0, 0, 0, 0, 0, 0, 0, 0, 0, 0, 0, 0, 0, 0]))).set 89 (.inl (1, [.ref 90, .ref 91, .ref 92, .ref 93, .int 0, .int 1]))).set 89 (.inl (1, [.ref 90, .ref 91, .ref 92, .ref 93, .int 1, .int 1])))) (by rfl) ?_
        exact mi_sem_ret (cal := fun _ _ _ => none) mi_in131 (by rfl)
      refine mi_sem_call mi_in139 (i := (.invokestatic 119, 3, 131, 0, 9, 0, 379)) (by rfl) (by rfl) hM158 (by decide) ⟨Nat.le_of_ble_eq_true rfl, Nat.le_of_ble_eq_true rfl⟩ ?_
      exact mi_sem_ret (cal := fun _ _ _ => none) mi_in139 (by rfl)
    refine mi_sem_call mi_in142 (i := (.invokestatic 144, 3, 139, 0, 9, 0, 388)) (by rfl) (by rfl) hM159 (by decide) ⟨Nat.le_of_ble_eq_true rfl, Nat.le_of_ble_eq_true rfl⟩ ?_
    refine mi_sem_steps mi_in142 (mi_calok_none _ _) 4 _ (22, [(0, .ref 116), (1, .int 0), (2, .int 4), (3, .int a3)], [.int 4, .int 0, .ref 116], (0, 0), (((((((mi_G.set 1 (.inl (4, [.int 0, .ref 2, .ref 3, .ref 4, .ref 5, .ref 6, .int a3, .int 1, .int 0, .int 0, .ref 7, .ref 10, .ref 14, .ref 15, .int 8, .int 0, .int 0, .ref 24]))).set 90 (.inr (.int, .inl (List.replicate 40 0)))).set 91 (.inr (.int, .inl [4, 0, 0, 0, 0, 0, 0, 0, 0, 0, 0, 0, 0, 0, 0, 0, 0, 0, 0, 0, 0, 0, 0, 0, 0, 0, 0, 0, 0, 0, 0, 0, 0, 0, 0, 0, 0, 0, 0, 0]))).set 92 (.inr (.int, .inl [3, 0, 0, 0, 0, 0, 0, 0, 0, 0, 0, 0, 0, 0, 0, 0, 0, 0, 0, 0, 0, 0, 0, 0, 0, 0, 0, 0, 0, 0, 0, 0, 0, 0, 0, 0, 0, 0, 0, 0]))).set 93 (.inr (.int, .inl [a3, 0, 0, 0, 0, 0, 0, 0, 0, 0, 0, 0, 0, 0, 0, 0, 0, 0, 0, 0, 0, 0, 0, 0, 0, 0, 0, 0, 0, 0, 0, 0, 0, 0, 0, 0, 0, 0, 0, 0]))).set 89 (.inl (1, [.ref 90, .ref 91, .ref 92, .ref 93, .int 0, .int 1]))).set 89 (.inl (1, [.ref 90, .ref 91, .ref 92, .ref 93, .int 1, .int 1])))) (by rfl) ?_
    have hM160 : mi_Met mi_N0 1 mi_h140 [.ref 116, .int 0, .int 4] (((((((mi_G.set 1 (.inl (4, [.int 0, .ref 2, .ref 3, .ref 4, .ref 5, .ref 6, .int a3, .int 1, .int 0, .int 0, .ref 7, .ref 10, .ref 14, .ref 15, .int 8, .int 0, .int 0, .ref 24]))).set 90 (.inr (.int, .inl (List.replicate 40 0)))).set 91 (.inr (.int, .inl [4, 0, 0, 0, 0, 0, 0, 0, 0, 0, 0, 0, 0, 0, 0, 0, 0, 0, 0, 0, 0, 0, 0, 0, 0, 0, 0, 0, 0, 0, 0, 0, 0, 0, 0, 0, 0, 0, 0, 0]))).set 92 (.inr (.int, .inl [3, 0, 0, 0, 0, 0, 0, 0, 0, 0, 0, 0, 0, 0, 0, 0, 0, 0, 0, 0, 0, 0, 0, 0, 0, 0, 0, 0, 0, 0, 0, 0, 0, 0, 0, 0, 0, 0, 0, 0]))).set 93 (.inr (.int, .inl [a3, 0, 0, 0, 0, 0, 0, 0, 0, 0, 0, 0, 0, 0, 0, 0, 0, 0, 0, 0, 0, 0, 0, 0, 0, 0, 0, 0, 0, 0, 0, 0, 0, 0, 0, 0, 0, 0, 0, 0]))).set 89 (.inl (1, [.ref 90, .ref 91, .ref 92, .ref 93, .int 0, .int 1]))).set 89 (.inl (1, [.ref 90, .ref 91, .ref 92, .ref 93, .int 1, .int 1]))) (some (.int 3)) (((((((mi_G.set 1 (.inl (4, [.int 0, .ref 2, .ref 3, .ref 4, .ref 5, .ref 6, .int a3, .int 1, .int 0, .int 0, .ref 7, .ref 10, .ref 14, .ref 15, .int 8, .int 0, .int 0, .ref 24]))).set 90 (.inr (.int, .inl (List.replicate 40 0)))).set 91 (.inr (.int, .inl [4, 0, 0, 0, 0, 0, 0, 0, 0, 0, 0, 0, 0, 0, 0, 0, 0, 0, 0, 0, 0, 0, 0, 0, 0, 0, 0, 0, 0, 0, 0, 0, 0, 0, 0, 0, 0, 0, 0, 0]))).set 92 (.inr (.int, .inl [3, 0, 0, 0, 0, 0, 0, 0, 0, 0, 0, 0, 0, 0, 0, 0, 0, 0, 0, 0, 0, 0, 0, 0, 0, 0, 0, 0, 0, 0, 0, 0, 0, 0, 0, 0, 0, 0, 0, 0]))).set 93 (.inr (.int, .inl [a3, 0, 0, 0, 0, 0, 0, 0, 0, 0, 0, 0, 0, 0, 0, 0, 0, 0, 0, 0, 0, 0, 0, 0, 0, 0, 0, 0, 0, 0, 0, 0, 0, 0, 0, 0, 0, 0, 0, 0]))).set 89 (.inl (1, [.ref 90, .ref 91, .ref 92, .ref 93, .int 0, .int 1]))).set 89 (.inl (1, [.ref 90, .ref 91, .ref 92, .ref 93, .int 1, .int 1]))) := by
      refine mi_met_of (y := 140) (q := (mi_h140, mi_c140)) rfl (by decide) (Nat.le_of_ble_eq_true rfl) ?_
      refine mi_sem_steps mi_in140 (mi_calok_none _ _) 4 _ (55, [(0, .ref 116), (1, .int 0), (2, .int 4)], [.int 3], (0, 0), (((((((mi_G.set 1 (.inl (4, [.int 0, .ref 2, .ref 3, .ref 4, .ref 5, .ref 6, .int a3, .int 1, .int 0, .int 0, .ref 7, .ref 10, .ref 14, .ref 15, .int 8, .int 0, .int 0, .ref 24]))).set 90 (.inr (.int, .inl (List.replicate 40 0)))).set 91 (.inr (.int, .inl [4, 0, 0, 0, 0, 0, 0, 0, 0, 0, 0, 0, 0, 0, 0, 0, 0, 0, 0, 0, 0, 0, 0, 0, 0, 0, 0, 0, 0, 0, 0, 0, 0, 0, 0, 0, 0, 0, 0, 0]))).set 92 (.inr (.int, .inl [3, 0, 0, 0, 0, 0, 0, 0, 0, 0, 0, 0, 0, 0, 0, 0, 0, 0, 0, 0, 0, 0, 0, 0, 0, 0, 0, 0, 0, 0, 0, 0, 0, 0, 0, 0, 0, 0, 0, 0]))).set 93 (.inr (.int, .inl [a3, 0, 0, 0, 0, 0, 0, 0, 0, 0, 0, 0, 0, 0, 0, 0, 0, 0, 0, 0, 0, 0, 0, 0, 0, 0, 0, 0, 0, 0, 0, 0, 0, 0, 0, 0, 0, 0, 0, 0]))).set 89 (.inl (1, [.ref 90, .ref 91, .ref 92, .ref 93, .int 0, .int 1]))).set 89 (.inl (1, [.ref 90, .ref 91, .ref 92, .ref 93, .int 1, .int 1])))) (by rfl) ?_
      exact mi_sem_ret (cal := fun _ _ _ => none) mi_in140 (by rfl)
    refine mi_sem_call mi_in142 (i := (.invokevirtual 147, 3, 140, 0, 9, 0, 389)) (by rfl) (by rfl) hM160 (by decide) ⟨Nat.le_of_ble_eq_true rfl, Nat.le_of_ble_eq_true rfl⟩ ?_
    refine mi_sem_steps mi_in142 (mi_calok_none _ _) 3 _ (30, [(4, .int 3), (0, .ref 116), (1, .int 0), (2, .int 4), (3, .int a3)], [.int a3, .int 3], (0, 0), (((((((mi_G.set 1 (.inl (4, [.int 0, .ref 2, .ref 3, .ref 4, .ref 5, .ref 6, .int a3, .int 1, .int 0, .int 0, .ref 7, .ref 10, .ref 14, .ref 15, .int 8, .int 0, .int 0, .ref 24]))).set 90 (.inr (.int, .inl (List.replicate 40 0)))).set 91 (.inr (.int, .inl [4, 0, 0, 0, 0, 0, 0, 0, 0, 0, 0, 0, 0, 0, 0, 0, 0, 0, 0, 0, 0, 0, 0, 0, 0, 0, 0, 0, 0, 0, 0, 0, 0, 0, 0, 0, 0, 0, 0, 0]))).set 92 (.inr (.int, .inl [3, 0, 0, 0, 0, 0, 0, 0, 0, 0, 0, 0, 0, 0, 0, 0, 0, 0, 0, 0, 0, 0, 0, 0, 0, 0, 0, 0, 0, 0, 0, 0, 0, 0, 0, 0, 0, 0, 0, 0]))).set 93 (.inr (.int, .inl [a3, 0, 0, 0, 0, 0, 0, 0, 0, 0, 0, 0, 0, 0, 0, 0, 0, 0, 0, 0, 0, 0, 0, 0, 0, 0, 0, 0, 0, 0, 0, 0, 0, 0, 0, 0, 0, 0, 0, 0]))).set 89 (.inl (1, [.ref 90, .ref 91, .ref 92, .ref 93, .int 0, .int 1]))).set 89 (.inl (1, [.ref 90, .ref 91, .ref 92, .ref 93, .int 1, .int 1])))) (by rfl) ?_
    refine mi_sem_b mi_in142 ((3 != a3)) true (mi_neT2 (3) (by decide) (by omega)) 36 33 ([(4, .int 3), (0, .ref 116), (1, .int 0), (2, .int 4), (3, .int a3)], [], (0, 0), (((((((mi_G.set 1 (.inl (4, [.int 0, .ref 2, .ref 3, .ref 4, .ref 5, .ref 6, .int a3, .int 1, .int 0, .int 0, .ref 7, .ref 10, .ref 14, .ref 15, .int 8, .int 0, .int 0, .ref 24]))).set 90 (.inr (.int, .inl (List.replicate 40 0)))).set 91 (.inr (.int, .inl [4, 0, 0, 0, 0, 0, 0, 0, 0, 0, 0, 0, 0, 0, 0, 0, 0, 0, 0, 0, 0, 0, 0, 0, 0, 0, 0, 0, 0, 0, 0, 0, 0, 0, 0, 0, 0, 0, 0, 0]))).set 92 (.inr (.int, .inl [3, 0, 0, 0, 0, 0, 0, 0, 0, 0, 0, 0, 0, 0, 0, 0, 0, 0, 0, 0, 0, 0, 0, 0, 0, 0, 0, 0, 0, 0, 0, 0, 0, 0, 0, 0, 0, 0, 0, 0]))).set 93 (.inr (.int, .inl [a3, 0, 0, 0, 0, 0, 0, 0, 0, 0, 0, 0, 0, 0, 0, 0, 0, 0, 0, 0, 0, 0, 0, 0, 0, 0, 0, 0, 0, 0, 0, 0, 0, 0, 0, 0, 0, 0, 0, 0]))).set 89 (.inl (1, [.ref 90, .ref 91, .ref 92, .ref 93, .int 0, .int 1]))).set 89 (.inl (1, [.ref 90, .ref 91, .ref 92, .ref 93, .int 1, .int 1])))) (by rfl) ?_
    refine mi_sem_steps mi_in142 (mi_calok_none _ _) 4 _ (40, [(4, .int 3), (0, .ref 116), (1, .int 0), (2, .int 4), (3, .int a3)], [.int a3, .int 4, .int 0, .ref 116], (0, 0), (((((((mi_G.set 1 (.inl (4, [.int 0, .ref 2, .ref 3, .ref 4, .ref 5, .ref 6, .int a3, .int 1, .int 0, .int 0, .ref 7, .ref 10, .ref 14, .ref 15, .int 8, .int 0, .int 0, .ref 24]))).set 90 (.inr (.int, .inl (List.replicate 40 0)))).set 91 (.inr (.int, .inl [4, 0, 0, 0, 0, 0, 0, 0, 0, 0, 0, 0, 0, 0, 0, 0, 0, 0, 0, 0, 0, 0, 0, 0, 0, 0, 0, 0, 0, 0, 0, 0, 0, 0, 0, 0, 0, 0, 0, 0]))).set 92 (.inr (.int, .inl [3, 0, 0, 0, 0, 0, 0, 0, 0, 0, 0, 0, 0, 0, 0, 0, 0, 0, 0, 0, 0, 0, 0, 0, 0, 0, 0, 0, 0, 0, 0, 0, 0, 0, 0, 0, 0, 0, 0, 0]))).set 93 (.inr (.int, .inl [a3, 0, 0, 0, 0, 0, 0, 0, 0, 0, 0, 0, 0, 0, 0, 0, 0, 0, 0, 0, 0, 0, 0, 0, 0, 0, 0, 0, 0, 0, 0, 0, 0, 0, 0, 0, 0, 0, 0, 0]))).set 89 (.inl (1, [.ref 90, .ref 91, .ref 92, .ref 93, .int 0, .int 1]))).set 89 (.inl (1, [.ref 90, .ref 91, .ref 92, .ref 93, .int 1, .int 1])))) (by rfl) ?_
    have hM161 : mi_Met mi_N0 1 mi_h141 [.ref 116, .int 0, .int 4, .int a3] (((((((mi_G.set 1 (.inl (4, [.int 0, .ref 2, .ref 3, .ref 4, .ref 5, .ref 6, .int a3, .int 1, .int 0, .int 0, .ref 7, .ref 10, .ref 14, .ref 15, .int 8, .int 0, .int 0, .ref 24]))).set 90 (.inr (.int, .inl (List.replicate 40 0)))).set 91 (.inr (.int, .inl [4, 0, 0, 0, 0, 0, 0, 0, 0, 0, 0, 0, 0, 0, 0, 0, 0, 0, 0, 0, 0, 0, 0, 0, 0, 0, 0, 0, 0, 0, 0, 0, 0, 0, 0, 0, 0, 0, 0, 0]))).set 92 (.inr (.int, .inl [3, 0, 0, 0, 0, 0, 0, 0, 0, 0, 0, 0, 0, 0, 0, 0, 0, 0, 0, 0, 0, 0, 0, 0, 0, 0, 0, 0, 0, 0, 0, 0, 0, 0, 0, 0, 0, 0, 0, 0]))).set 93 (.inr (.int, .inl [a3, 0, 0, 0, 0, 0, 0, 0, 0, 0, 0, 0, 0, 0, 0, 0, 0, 0, 0, 0, 0, 0, 0, 0, 0, 0, 0, 0, 0, 0, 0, 0, 0, 0, 0, 0, 0, 0, 0, 0]))).set 89 (.inl (1, [.ref 90, .ref 91, .ref 92, .ref 93, .int 0, .int 1]))).set 89 (.inl (1, [.ref 90, .ref 91, .ref 92, .ref 93, .int 1, .int 1]))) none ((((((((mi_G.set 1 (.inl (4, [.int 0, .ref 2, .ref 3, .ref 4, .ref 5, .ref 6, .int a3, .int 1, .int 0, .int 0, .ref 7, .ref 10, .ref 14, .ref 15, .int 8, .int 0, .int 0, .ref 24]))).set 90 (.inr (.int, .inl (List.replicate 40 0)))).set 91 (.inr (.int, .inl [4, 0, 0, 0, 0, 0, 0, 0, 0, 0, 0, 0, 0, 0, 0, 0, 0, 0, 0, 0, 0, 0, 0, 0, 0, 0, 0, 0, 0, 0, 0, 0, 0, 0, 0, 0, 0, 0, 0, 0]))).set 92 (.inr (.int, .inl [3, 0, 0, 0, 0, 0, 0, 0, 0, 0, 0, 0, 0, 0, 0, 0, 0, 0, 0, 0, 0, 0, 0, 0, 0, 0, 0, 0, 0, 0, 0, 0, 0, 0, 0, 0, 0, 0, 0, 0]))).set 93 (.inr (.int, .inl [a3, 0, 0, 0, 0, 0, 0, 0, 0, 0, 0, 0, 0, 0, 0, 0, 0, 0, 0, 0, 0, 0, 0, 0, 0, 0, 0, 0, 0, 0, 0, 0, 0, 0, 0, 0, 0, 0, 0, 0]))).set 89 (.inl (1, [.ref 90, .ref 91, .ref 92, .ref 93, .int 0, .int 1]))).set 89 (.inl (1, [.ref 90, .ref 91, .ref 92, .ref 93, .int 1, .int 1]))).set 116 (.inl (9, [.int 0, .ref 117, .int a3, .int 1, .ref 118, .int 0, .ref 119, .int 0, .int 0, .ref 120, .ref 121, .ref 122, .ref 123, .int 0, .int 0, .int 0, .int 0, .ref 124, .ref 125, .ref 126, .ref 127, .ref 128, .ref 129, .ref 130, .int 0, .int 0, .ref 131, .ref 132, .int 0, .int 0, .ref 133, .int 0, .ref 134, .int 0, .ref 135, .ref 136, .ref 137, .ref 138, .ref 139, .ref 140, .int 0, .int 0, .int 0, .int 0, .ref 141, .int 0, .ref 142, .ref 143, .ref 144, .ref 145, .ref 146, .ref 147, .int 0, .ref 148]))) := by
      refine mi_met_of (y := 141) (q := (mi_h141, mi_c141)) rfl (by decide) (Nat.le_of_ble_eq_true rfl) ?_
      refine mi_sem_steps mi_in141 (mi_calok_none _ _) 6 _ (96, [(0, .ref 116), (1, .int 0), (2, .int 4), (3, .int a3)], [], (0, 0), ((((((((mi_G.set 1 (.inl (4, [.int 0, .ref 2, .ref 3, .ref 4, .ref 5, .ref 6, .int a3, .int 1, .int 0, .int 0, .ref 7, .ref 10, .ref 14, .ref 15, .int 8, .int 0, .int 0, .ref 24]))).set 90 (.inr (.int, .inl (List.replicate 40 0)))).set 91 (.inr (.int, .inl [4, 0, 0, 0, 0, 0, 0, 0, 0, 0, 0, 0, 0, 0, 0, 0, 0, 0, 0, 0, 0, 0, 0, 0, 0, 0, 0, 0, 0, 0, 0, 0, 0, 0, 0, 0, 0, 0, 0, 0]))).set 92 (.inr (.int, .inl [3, 0, 0, 0, 0, 0, 0, 0, 0, 0, 0, 0, 0, 0, 0, 0, 0, 0, 0, 0, 0, 0, 0, 0, 0, 0, 0, 0, 0, 0, 0, 0, 0, 0, 0, 0, 0, 0, 0, 0]))).set 93 (.inr (.int, .inl [a3, 0, 0, 0, 0, 0, 0, 0, 0, 0, 0, 0, 0, 0, 0, 0, 0, 0, 0, 0, 0, 0, 0, 0, 0, 0, 0, 0, 0, 0, 0, 0, 0, 0, 0, 0, 0, 0, 0, 0]))).set 89 (.inl (1, [.ref 90, .ref 91, .ref 92, .ref 93, .int 0, .int 1]))).set 89 (.inl (1, [.ref 90, .ref 91, .ref 92, .ref 93, .int 1, .int 1]))).set 116 (.inl (9, [.int 0, .ref 117, .int a3, .int 1, .ref 118, .int 0, .ref 119, .int 0, .int 0, .ref 120, .ref 121, .ref 122, .ref 123, .int 0, .int 0, .int 0, .int 0, .ref 124, .ref 125, .ref 126, .ref 127, .ref 128, .ref 129, .ref 130, .int 0, .int 0, .ref 131, .ref 132, .int 0, .int 0, .ref 133, .int 0, .ref 134, .int 0, .ref 135, .ref 136, .ref 137, .ref 138, .ref 139, .ref 140, .int 0, .int 0, .int 0, .int 0, .ref 141, .int 0, .ref 142, .ref 143, .ref 144, .ref 145, .ref 146, .ref 147, .int 0, .ref 148])))) (by rfl) ?_
      exact mi_sem_ret (cal := fun _ _ _ => none) mi_in141 (by rfl)
    refine mi_sem_call mi_in142 (i := (.invokevirtual 150, 3, 141, 0, 9, 0, 390)) (by rfl) (by rfl) hM161 (by decide) ⟨Nat.le_of_ble_eq_true rfl, Nat.le_of_ble_eq_true rfl⟩ ?_
    refine mi_sem_steps mi_in142 (mi_calok_none _ _) 53 _ (170, [(4, .int 3), (0, .ref 116), (1, .int 0), (2, .int 4), (3, .int a3)], [.int 3], (0, 0), ((((((((((((((mi_G.set 1 (.inl (4, [.int 0, .ref 2, .ref 3, .ref 4, .ref 5, .ref 6, .int a3, .int 1, .int 0, .int 0, .ref 7, .ref 10, .ref 14, .ref 15, .int 8, .int 0, .int 0, .ref 24]))).set 90 (.inr (.int, .inl (List.replicate 40 0)))).set 91 (.inr (.int, .inl [4, 0, 0, 0, 0, 0, 0, 0, 0, 0, 0, 0, 0, 0, 0, 0, 0, 0, 0, 0, 0, 0, 0, 0, 0, 0, 0, 0, 0, 0, 0, 0, 0, 0, 0, 0, 0, 0, 0, 0]))).set 92 (.inr (.int, .inl [3, 0, 0, 0, 0, 0, 0, 0, 0, 0, 0, 0, 0, 0, 0, 0, 0, 0, 0, 0, 0, 0, 0, 0, 0, 0, 0, 0, 0, 0, 0, 0, 0, 0, 0, 0, 0, 0, 0, 0]))).set 93 (.inr (.int, .inl [a3, 0, 0, 0, 0, 0, 0, 0, 0, 0, 0, 0, 0, 0, 0, 0, 0, 0, 0, 0, 0, 0, 0, 0, 0, 0, 0, 0, 0, 0, 0, 0, 0, 0, 0, 0, 0, 0, 0, 0]))).set 89 (.inl (1, [.ref 90, .ref 91, .ref 92, .ref 93, .int 0, .int 1]))).set 89 (.inl (1, [.ref 90, .ref 91, .ref 92, .ref 93, .int 1, .int 1]))).set 116 (.inl (9, [.int 0, .ref 117, .int a3, .int 1, .ref 118, .int 0, .ref 119, .int 0, .int 0, .ref 120, .ref 121, .ref 122, .ref 123, .int 0, .int 0, .int 0, .int 0, .ref 124, .ref 125, .ref 126, .ref 127, .ref 128, .ref 129, .ref 130, .int 0, .int 0, .ref 131, .ref 132, .int 0, .int 0, .ref 133, .int 0, .ref 134, .int 0, .ref 135, .ref 136, .ref 137, .ref 138, .ref 139, .ref 140, .int 0, .int 0, .int 0, .int 0, .ref 141, .int 0, .ref 142, .ref 143, .ref 144, .ref 145, .ref 146, .ref 147, .int 0, .ref 148]))).set 133 (.inr (.int, .inl (List.replicate 160 0)))).set 133 (.inr (.int, .inl [0, 4, 0, 0, 0, 0, 0, 0, 0, 0, 0, 0, 0, 0, 0, 0, 0, 0, 0, 0, 0, 0, 0, 0, 0, 0, 0, 0, 0, 0, 0, 0, 0, 0, 0, 0, 0, 0, 0, 0, 0, 0, 0, 0, 0, 0, 0, 0, 0, 0, 0, 0, 0, 0, 0, 0, 0, 0, 0, 0, 0, 0, 0, 0, 0, 0, 0, 0, 0, 0, 0, 0, 0, 0, 0, 0, 0, 0, 0, 0, 0, 0, 0, 0, 0, 0, 0, 0, 0, 0, 0, 0, 0, 0, 0, 0, 0, 0, 0, 0, 0, 0, 0, 0, 0, 0, 0, 0, 0, 0, 0, 0, 0, 0, 0, 0, 0, 0, 0, 0, 0, 0, 0, 0, 0, 0, 0, 0, 0, 0, 0, 0, 0, 0, 0, 0, 0, 0, 0, 0, 0, 0, 0, 0, 0, 0, 0, 0, 0, 0, 0, 0, 0, 0, 0, 0, 0, 0, 0, 0]))).set 133 (.inr (.int, .inl [0, 4, 3, 0, 0, 0, 0, 0, 0, 0, 0, 0, 0, 0, 0, 0, 0, 0, 0, 0, 0, 0, 0, 0, 0, 0, 0, 0, 0, 0, 0, 0, 0, 0, 0, 0, 0, 0, 0, 0, 0, 0, 0, 0, 0, 0, 0, 0, 0, 0, 0, 0, 0, 0, 0, 0, 0, 0, 0, 0, 0, 0, 0, 0, 0, 0, 0, 0, 0, 0, 0, 0, 0, 0, 0, 0, 0, 0, 0, 0, 0, 0, 0, 0, 0, 0, 0, 0, 0, 0, 0, 0, 0, 0, 0, 0, 0, 0, 0, 0, 0, 0, 0, 0, 0, 0, 0, 0, 0, 0, 0, 0, 0, 0, 0, 0, 0, 0, 0, 0, 0, 0, 0, 0, 0, 0, 0, 0, 0, 0, 0, 0, 0, 0, 0, 0, 0, 0, 0, 0, 0, 0, 0, 0, 0, 0, 0, 0, 0, 0, 0, 0, 0, 0, 0, 0, 0, 0, 0, 0]))).set 133 (.inr (.int, .inl [0, 4, 3, a3, 0, 0, 0, 0, 0, 0, 0, 0, 0, 0, 0, 0, 0, 0, 0, 0, 0, 0, 0, 0, 0, 0, 0, 0, 0, 0, 0, 0, 0, 0, 0, 0, 0, 0, 0, 0, 0, 0, 0, 0, 0, 0, 0, 0, 0, 0, 0, 0, 0, 0, 0, 0, 0, 0, 0, 0, 0, 0, 0, 0, 0, 0, 0, 0, 0, 0, 0, 0, 0, 0, 0, 0, 0, 0, 0, 0, 0, 0, 0, 0, 0, 0, 0, 0, 0, 0, 0, 0, 0, 0, 0, 0, 0, 0, 0, 0, 0, 0, 0, 0, 0, 0, 0, 0, 0, 0, 0, 0, 0, 0, 0, 0, 0, 0, 0, 0, 0, 0, 0, 0, 0, 0, 0, 0, 0, 0, 0, 0, 0, 0, 0, 0, 0, 0, 0, 0, 0, 0, 0, 0, 0, 0, 0, 0, 0, 0, 0, 0, 0, 0, 0, 0, 0, 0, 0, 0]))).set 116 (.inl (9, [.int 0, .ref 117, .int a3, .int 1, .ref 118, .int 0, .ref 119, .int 0, .int 0, .ref 120, .ref 121, .ref 122, .ref 123, .int 0, .int 0, .int 0, .int 0, .ref 124, .ref 125, .ref 126, .ref 127, .ref 128, .ref 129, .ref 130, .int 0, .int 0, .ref 131, .ref 132, .int 0, .int 1, .ref 133, .int 0, .ref 134, .int 0, .ref 135, .ref 136, .ref 137, .ref 138, .ref 139, .ref 140, .int 0, .int 0, .int 0, .int 0, .ref 141, .int 0, .ref 142, .ref 143, .ref 144, .ref 145, .ref 146, .ref 147, .int 0, .ref 148]))).set 116 (.inl (9, [.int 0, .ref 117, .int a3, .int 1, .ref 118, .int 0, .ref 119, .int 0, .int 0, .ref 120, .ref 121, .ref 122, .ref 123, .int 0, .int 0, .int 0, .int 0, .ref 124, .ref 125, .ref 126, .ref 127, .ref 128, .ref 129, .ref 130, .int 0, .int 0, .ref 131, .ref 132, .int 1, .int 1, .ref 133, .int 0, .ref 134, .int 0, .ref 135, .ref 136, .ref 137, .ref 138, .ref 139, .ref 140, .int 0, .int 0, .int 0, .int 0, .ref 141, .int 0, .ref 142, .ref 143, .ref 144, .ref 145, .ref 146, .ref 147, .int 0, .ref 148])))) (by rfl) ?_
    exact mi_sem_ret (cal := fun _ _ _ => none) mi_in142 (by rfl)

set_option maxRecDepth 100000 in
set_option maxHeartbeats 4000000 in
theorem mp_mend_6   : mi_P 83 142 [.int 0, .int 4, .int 3] := by
  refine ⟨.int 3, mi_G, mi_G, (mi_h83, mi_c83), (mi_h142, mi_c142), 3, 3, rfl, rfl, rfl, by decide, by decide, ?_, ?_⟩
  · exact mi_fun_ok mi_N0 3 83 (mi_h83, mi_c83) _ _ _ _ rfl (mi_eR_ok (by decide +kernel))
  · exact mi_fun_ok mi_N0 3 142 (mi_h142, mi_c142) _ _ _ _ rfl (mi_eR_ok (by decide +kernel))

set_option maxRecDepth 100000 in
set_option maxHeartbeats 4000000 in
theorem mp_mend_7 (a3 : Int32) (r0 : 4 ≤ (a3).toInt ∧ (a3).toInt ≤ 5) : mi_P 83 142 [.int 0, .int 4, .int a3] := by
  refine ⟨.int 3, (((((((mi_G.set 1 (.inl (4, [.int 0, .ref 2, .ref 3, .ref 4, .ref 5, .ref 6, .int a3, .int 1, .int 0, .int 0, .ref 7, .ref 10, .ref 14, .ref 15, .int 8, .int 0, .int 0, .ref 24]))).set 90 (.inr (.int, .inl (List.replicate 40 0)))).set 91 (.inr (.int, .inl [4, 0, 0, 0, 0, 0, 0, 0, 0, 0, 0, 0, 0, 0, 0, 0, 0, 0, 0, 0, 0, 0, 0, 0, 0, 0, 0, 0, 0, 0, 0, 0, 0, 0, 0, 0, 0, 0, 0, 0]))).set 92 (.inr (.int, .inl [3, 0, 0, 0, 0, 0, 0, 0, 0, 0, 0, 0, 0, 0, 0, 0, 0, 0, 0, 0, 0, 0, 0, 0, 0, 0, 0, 0, 0, 0, 0, 0, 0, 0, 0, 0, 0, 0, 0, 0]))).set 93 (.inr (.int, .inl [a3, 0, 0, 0, 0, 0, 0, 0, 0, 0, 0, 0, 0, 0, 0, 0, 0, 0, 0, 0, 0, 0, 0, 0, 0, 0, 0, 0, 0, 0, 0, 0, 0, 0, 0, 0, 0, 0, 0, 0]))).set 89 (.inl (1, [.ref 90, .ref 91, .ref 92, .ref 93, .int 0, .int 1]))).set 89 (.inl (1, [.ref 90, .ref 91, .ref 92, .ref 93, .int 1, .int 1]))), ((((((((((((((mi_G.set 1 (.inl (4, [.int 0, .ref 2, .ref 3, .ref 4, .ref 5, .ref 6, .int a3, .int 1, .int 0, .int 0, .ref 7, .ref 10, .ref 14, .ref 15, .int 8, .int 0, .int 0, .ref 24]))).set 90 (.inr (.int, .inl (List.replicate 40 0)))).set 91 (.inr (.int, .inl [4, 0, 0, 0, 0, 0, 0, 0, 0, 0, 0, 0, 0, 0, 0, 0, 0, 0, 0, 0, 0, 0, 0, 0, 0, 0, 0, 0, 0, 0, 0, 0, 0, 0, 0, 0, 0, 0, 0, 0]))).set 92 (.inr (.int, .inl [3, 0, 0, 0, 0, 0, 0, 0, 0, 0, 0, 0, 0, 0, 0, 0, 0, 0, 0, 0, 0, 0, 0, 0, 0, 0, 0, 0, 0, 0, 0, 0, 0, 0, 0, 0, 0, 0, 0, 0]))).set 93 (.inr (.int, .inl [a3, 0, 0, 0, 0, 0, 0, 0, 0, 0, 0, 0, 0, 0, 0, 0, 0, 0, 0, 0, 0, 0, 0, 0, 0, 0, 0, 0, 0, 0, 0, 0, 0, 0, 0, 0, 0, 0, 0, 0]))).set 89 (.inl (1, [.ref 90, .ref 91, .ref 92, .ref 93, .int 0, .int 1]))).set 89 (.inl (1, [.ref 90, .ref 91, .ref 92, .ref 93, .int 1, .int 1]))).set 116 (.inl (9, [.int 0, .ref 117, .int a3, .int 1, .ref 118, .int 0, .ref 119, .int 0, .int 0, .ref 120, .ref 121, .ref 122, .ref 123, .int 0, .int 0, .int 0, .int 0, .ref 124, .ref 125, .ref 126, .ref 127, .ref 128, .ref 129, .ref 130, .int 0, .int 0, .ref 131, .ref 132, .int 0, .int 0, .ref 133, .int 0, .ref 134, .int 0, .ref 135, .ref 136, .ref 137, .ref 138, .ref 139, .ref 140, .int 0, .int 0, .int 0, .int 0, .ref 141, .int 0, .ref 142, .ref 143, .ref 144, .ref 145, .ref 146, .ref 147, .int 0, .ref 148]))).set 133 (.inr (.int, .inl (List.replicate 160 0)))).set 133 (.inr (.int, .inl [0, 4, 0, 0, 0, 0, 0, 0, 0, 0, 0, 0, 0, 0, 0, 0, 0, 0, 0, 0, 0, 0, 0, 0, 0, 0, 0, 0, 0, 0, 0, 0, 0, 0, 0, 0, 0, 0, 0, 0, 0, 0, 0, 0, 0, 0, 0, 0, 0, 0, 0, 0, 0, 0, 0, 0, 0, 0, 0, 0, 0, 0, 0, 0, 0, 0, 0, 0, 0, 0, 0, 0, 0, 0, 0, 0, 0, 0, 0, 0, 0, 0, 0, 0, 0, 0, 0, 0, 0, 0, 0, 0, 0, 0, 0, 0, 0, 0, 0, 0, 0, 0, 0, 0, 0, 0, 0, 0, 0, 0, 0, 0, 0, 0, 0, 0, 0, 0, 0, 0, 0, 0, 0, 0, 0, 0, 0, 0, 0, 0, 0, 0, 0, 0, 0, 0, 0, 0, 0, 0, 0, 0, 0, 0, 0, 0, 0, 0, 0, 0, 0, 0, 0, 0, 0, 0, 0, 0, 0, 0]))).set 133 (.inr (.int, .inl [0, 4, 3, 0, 0, 0, 0, 0, 0, 0, 0, 0, 0, 0, 0, 0, 0, 0, 0, 0, 0, 0, 0, 0, 0, 0, 0, 0, 0, 0, 0, 0, 0, 0, 0, 0, 0, 0, 0, 0, 0, 0, 0, 0, 0, 0, 0, 0, 0, 0, 0, 0, 0, 0, 0, 0, 0, 0, 0, 0, 0, 0, 0, 0, 0, 0, 0, 0, 0, 0, 0, 0, 0, 0, 0, 0, 0, 0, 0, 0, 0, 0, 0, 0, 0, 0, 0, 0, 0, 0, 0, 0, 0, 0, 0, 0, 0, 0, 0, 0, 0, 0, 0, 0, 0, 0, 0, 0, 0, 0, 0, 0, 0, 0, 0, 0, 0, 0, 0, 0, 0, 0, 0, 0, 0, 0, 0, 0, 0, 0, 0, 0, 0, 0, 0, 0, 0, 0, 0, 0, 0, 0, 0, 0, 0, 0, 0, 0, 0, 0, 0, 0, 0, 0, 0, 0, 0, 0, 0, 0]))).set 133 (.inr (.int, .inl [0, 4, 3, a3, 0, 0, 0, 0, 0, 0, 0, 0, 0, 0, 0, 0, 0, 0, 0, 0, 0, 0, 0, 0, 0, 0, 0, 0, 0, 0, 0, 0, 0, 0, 0, 0, 0, 0, 0, 0, 0, 0, 0, 0, 0, 0, 0, 0, 0, 0, 0, 0, 0, 0, 0, 0, 0, 0, 0, 0, 0, 0, 0, 0, 0, 0, 0, 0, 0, 0, 0, 0, 0, 0, 0, 0, 0, 0, 0, 0, 0, 0, 0, 0, 0, 0, 0, 0, 0, 0, 0, 0, 0, 0, 0, 0, 0, 0, 0, 0, 0, 0, 0, 0, 0, 0, 0, 0, 0, 0, 0, 0, 0, 0, 0, 0, 0, 0, 0, 0, 0, 0, 0, 0, 0, 0, 0, 0, 0, 0, 0, 0, 0, 0, 0, 0, 0, 0, 0, 0, 0, 0, 0, 0, 0, 0, 0, 0, 0, 0, 0, 0, 0, 0, 0, 0, 0, 0, 0, 0]))).set 116 (.inl (9, [.int 0, .ref 117, .int a3, .int 1, .ref 118, .int 0, .ref 119, .int 0, .int 0, .ref 120, .ref 121, .ref 122, .ref 123, .int 0, .int 0, .int 0, .int 0, .ref 124, .ref 125, .ref 126, .ref 127, .ref 128, .ref 129, .ref 130, .int 0, .int 0, .ref 131, .ref 132, .int 0, .int 1, .ref 133, .int 0, .ref 134, .int 0, .ref 135, .ref 136, .ref 137, .ref 138, .ref 139, .ref 140, .int 0, .int 0, .int 0, .int 0, .ref 141, .int 0, .ref 142, .ref 143, .ref 144, .ref 145, .ref 146, .ref 147, .int 0, .ref 148]))).set 116 (.inl (9, [.int 0, .ref 117, .int a3, .int 1, .ref 118, .int 0, .ref 119, .int 0, .int 0, .ref 120, .ref 121, .ref 122, .ref 123, .int 0, .int 0, .int 0, .int 0, .ref 124, .ref 125, .ref 126, .ref 127, .ref 128, .ref 129, .ref 130, .int 0, .int 0, .ref 131, .ref 132, .int 1, .int 1, .ref 133, .int 0, .ref 134, .int 0, .ref 135, .ref 136, .ref 137, .ref 138, .ref 139, .ref 140, .int 0, .int 0, .int 0, .int 0, .ref 141, .int 0, .ref 142, .ref 143, .ref 144, .ref 145, .ref 146, .ref 147, .int 0, .ref 148]))), (mi_h83, mi_c83), (mi_h142, mi_c142), 3, 3, rfl, rfl, rfl, by decide, by decide, ?_, ?_⟩
  · refine mi_met_of (y := 83) (q := (mi_h83, mi_c83)) rfl (by decide) (Nat.le_of_ble_eq_true rfl) ?_
    refine mi_sem_steps mi_in83 (mi_calok_none _ _) 3 _ (3, [(0, .ref 0), (1, .int 0), (2, .int 4), (3, .int a3)], [.int 4, .int 0, .ref 0], (0, 0), mi_G) (by rfl) ?_
    have hM167 : mi_Met mi_N0 1 mi_h125 [.ref 0, .int 0, .int 4] mi_G (some (.int 1)) mi_G := mi_fun_ok mi_N0 1 125 (mi_h125, mi_c125) _ _ _ _ rfl (mi_eR_ok (by decide +kernel))
    refine mi_sem_call mi_in83 (i := (.invokevirtual 95, 3, 125, 0, 9, 0, 161)) (by rfl) (by rfl) hM167 (by decide) ⟨Nat.le_of_ble_eq_true rfl, Nat.le_of_ble_eq_true rfl⟩ ?_
    refine mi_sem_steps mi_in83 (mi_calok_none _ _) 3 _ (11, [(0, .ref 0), (1, .int 0), (2, .int 4), (3, .int a3)], [.int a3, .int 4], (0, 0), mi_G) (by rfl) ?_
    have hM170 : mi_Met mi_N0 2 mi_h126 [.int 4, .int a3] mi_G (some (.int 1)) mi_G := by
      refine mi_met_of (y := 126) (q := (mi_h126, mi_c126)) rfl (by decide) (Nat.le_of_ble_eq_true rfl) ?_
      refine mi_sem_steps mi_in126 (mi_calok_none _ _) 3 _ (4, [(0, .int 4), (1, .int a3)], [.int 6, .int 0, .int 4], (0, 0), mi_G) (by rfl) ?_
      have hM168 : mi_Met mi_N0 1 mi_h120 [.int 4, .int 0, .int 6] mi_G (some (.int 1)) mi_G := mi_fun_ok mi_N0 1 120 (mi_h120, mi_c120) _ _ _ _ rfl (mi_eR_ok (by decide +kernel))
      refine mi_sem_call mi_in126 (i := (.invokestatic 74, 3, 120, 0, 9, 0, 152)) (by rfl) (by rfl) hM168 (by decide) ⟨Nat.le_of_ble_eq_true rfl, Nat.le_of_ble_eq_true rfl⟩ ?_
      refine mi_sem_steps mi_in126 (mi_calok_none _ _) 8 _ (21, [(0, .int 4), (1, .int a3)], [.int 5, .int 1, .int a3], (0, 0), mi_G) (by rfl) ?_
      have hM169 : mi_Met mi_N0 1 mi_h120 [.int a3, .int 1, .int 5] mi_G (some (.int 1)) mi_G := by
        refine mi_met_of (y := 120) (q := (mi_h120, mi_c120)) rfl (by decide) (Nat.le_of_ble_eq_true rfl) ?_
        refine mi_sem_steps mi_in120 (mi_calok_none _ _) 2 _ (2, [(0, .int a3), (1, .int 1), (2, .int 5)], [.int 1, .int a3], (0, 0), mi_G) (by rfl) ?_
        refine mi_sem_b mi_in120 (decide (a3 < 1)) false (mi_ltF (1) (by decide) (by omega)) 14 5 ([(0, .int a3), (1, .int 1), (2, .int 5)], [], (0, 0), mi_G) (by rfl) ?_
        refine mi_sem_steps mi_in120 (mi_calok_none _ _) 2 _ (7, [(0, .int a3), (1, .int 1), (2, .int 5)], [.int 5, .int a3], (0, 0), mi_G) (by rfl) ?_
        refine mi_sem_b mi_in120 (decide (5 < a3)) false (mi_ltF2 (5) (by decide) (by omega)) 14 10 ([(0, .int a3), (1, .int 1), (2, .int 5)], [], (0, 0), mi_G) (by rfl) ?_
        refine mi_sem_steps mi_in120 (mi_calok_none _ _) 2 _ (15, [(0, .int a3), (1, .int 1), (2, .int 5)], [.int 1], (0, 0), mi_G) (by rfl) ?_
        exact mi_sem_ret (cal := fun _ _ _ => none) mi_in120 (by rfl)
      refine mi_sem_call mi_in126 (i := (.invokestatic 74, 3, 120, 0, 9, 0, 152)) (by rfl) (by rfl) hM169 (by decide) ⟨Nat.le_of_ble_eq_true rfl, Nat.le_of_ble_eq_true rfl⟩ ?_
      refine mi_sem_steps mi_in126 (mi_calok_none _ _) 3 _ (32, [(0, .int 4), (1, .int a3)], [.int 1], (0, 0), mi_G) (by rfl) ?_
      exact mi_sem_ret (cal := fun _ _ _ => none) mi_in126 (by rfl)
    refine mi_sem_call mi_in83 (i := (.invokestatic 58, 3, 126, 0, 9, 0, 151)) (by rfl) (by rfl) hM170 (by decide) ⟨Nat.le_of_ble_eq_true rfl, Nat.le_of_ble_eq_true rfl⟩ ?_
    refine mi_sem_steps mi_in83 (mi_calok_none _ _) 5 _ (25, [(0, .ref 0), (1, .int 0), (2, .int 4), (3, .int a3)], [.int 4, .int 0, .ref 1], (0, 0), mi_G) (by rfl) ?_
    have hM171 : mi_Met mi_N0 1 mi_h27 [.ref 1, .int 0, .int 4] mi_G (some (.int 3)) mi_G := mi_fun_ok mi_N0 1 27 (mi_h27, mi_c27) _ _ _ _ rfl (mi_eR_ok (by decide +kernel))
    refine mi_sem_call mi_in83 (i := (.invokevirtual 98, 3, 27, 0, 9, 0, 164)) (by rfl) (by rfl) hM171 (by decide) ⟨Nat.le_of_ble_eq_true rfl, Nat.le_of_ble_eq_true rfl⟩ ?_
    refine mi_sem_steps mi_in83 (mi_calok_none _ _) 3 _ (33, [(4, .int 3), (0, .ref 0), (1, .int 0), (2, .int 4), (3, .int a3)], [.int a3, .int 3], (0, 0), mi_G) (by rfl) ?_
    refine mi_sem_b mi_in83 ((3 == a3)) false (mi_eqF2 (3) (by decide) (by omega)) 58 36 ([(4, .int 3), (0, .ref 0), (1, .int 0), (2, .int 4), (3, .int a3)], [], (0, 0), mi_G) (by rfl) ?_
    refine mi_sem_steps mi_in83 (mi_calok_none _ _) 5 _ (43, [(4, .int 3), (0, .ref 0), (1, .int 0), (2, .int 4), (3, .int a3)], [.int a3, .int 4, .int 0, .ref 1], (0, 0), mi_G) (by rfl) ?_
    have hM172 : mi_Met mi_N0 1 mi_h28 [.ref 1, .int 0, .int 4, .int a3] mi_G none (mi_G.set 1 (.inl (4, [.int 0, .ref 2, .ref 3, .ref 4, .ref 5, .ref 6, .int a3, .int 1, .int 0, .int 0, .ref 7, .ref 10, .ref 14, .ref 15, .int 8, .int 0, .int 0, .ref 24]))) := by
      refine mi_met_of (y := 28) (q := (mi_h28, mi_c28)) rfl (by decide) (Nat.le_of_ble_eq_true rfl) ?_
      refine mi_sem_steps mi_in28 (mi_calok_none _ _) 7 _ (56, [(0, .ref 1), (1, .int 0), (2, .int 4), (3, .int a3)], [], (0, 0), (mi_G.set 1 (.inl (4, [.int 0, .ref 2, .ref 3, .ref 4, .ref 5, .ref 6, .int a3, .int 1, .int 0, .int 0, .ref 7, .ref 10, .ref 14, .ref 15, .int 8, .int 0, .int 0, .ref 24])))) (by rfl) ?_
      exact mi_sem_ret (cal := fun _ _ _ => none) mi_in28 (by rfl)
    refine mi_sem_call mi_in83 (i := (.invokevirtual 102, 3, 28, 0, 9, 0, 167)) (by rfl) (by rfl) hM172 (by decide) ⟨Nat.le_of_ble_eq_true rfl, Nat.le_of_ble_eq_true rfl⟩ ?_
    refine mi_sem_steps mi_in83 (mi_calok_none _ _) 6 _ (55, [(4, .int 3), (0, .ref 0), (1, .int 0), (2, .int 4), (3, .int a3)], [.int a3, .int 3, .int 4, .int 0, .ref 89], (0, 0), (mi_G.set 1 (.inl (4, [.int 0, .ref 2, .ref 3, .ref 4, .ref 5, .ref 6, .int a3, .int 1, .int 0, .int 0, .ref 7, .ref 10, .ref 14, .ref 15, .int 8, .int 0, .int 0, .ref 24])))) (by rfl) ?_
    have hM173 : mi_Met mi_N0 1 mi_h5 [.ref 89, .int 0, .int 4, .int 3, .int a3] (mi_G.set 1 (.inl (4, [.int 0, .ref 2, .ref 3, .ref 4, .ref 5, .ref 6, .int a3, .int 1, .int 0, .int 0, .ref 7, .ref 10, .ref 14, .ref 15, .int 8, .int 0, .int 0, .ref 24]))) none (((((((mi_G.set 1 (.inl (4, [.int 0, .ref 2, .ref 3, .ref 4, .ref 5, .ref 6, .int a3, .int 1, .int 0, .int 0, .ref 7, .ref 10, .ref 14, .ref 15, .int 8, .int 0, .int 0, .ref 24]))).set 90 (.inr (.int, .inl (List.replicate 40 0)))).set 91 (.inr (.int, .inl [4, 0, 0, 0, 0, 0, 0, 0, 0, 0, 0, 0, 0, 0, 0, 0, 0, 0, 0, 0, 0, 0, 0, 0, 0, 0, 0, 0, 0, 0, 0, 0, 0, 0, 0, 0, 0, 0, 0, 0]))).set 92 (.inr (.int, .inl [3, 0, 0, 0, 0, 0, 0, 0, 0, 0, 0, 0, 0, 0, 0, 0, 0, 0, 0, 0, 0, 0, 0, 0, 0, 0, 0, 0, 0, 0, 0, 0, 0, 0, 0, 0, 0, 0, 0, 0]))).set 93 (.inr (.int, .inl [a3, 0, 0, 0, 0, 0, 0, 0, 0, 0, 0, 0, 0, 0, 0, 0, 0, 0, 0, 0, 0, 0, 0, 0, 0, 0, 0, 0, 0, 0, 0, 0, 0, 0, 0, 0, 0, 0, 0, 0]))).set 89 (.inl (1, [.ref 90, .ref 91, .ref 92, .ref 93, .int 0, .int 1]))).set 89 (.inl (1, [.ref 90, .ref 91, .ref 92, .ref 93, .int 1, .int 1]))) := by
      refine mi_met_of (y := 5) (q := (mi_h5, mi_c5)) rfl (by decide) (Nat.le_of_ble_eq_true rfl) ?_
      refine mi_sem_steps mi_in5 (mi_calok_none _ _) 38 _ (72, [(0, .ref 89), (1, .int 0), (2, .int 4), (3, .int 3), (4, .int a3)], [], (0, 0), (((((((mi_G.set 1 (.inl (4, [.int 0, .ref 2, .ref 3, .ref 4, .ref 5, .ref 6, .int a3, .int 1, .int 0, .int 0, .ref 7, .ref 10, .ref 14, .ref 15, .int 8, .int 0, .int 0, .ref 24]))).set 90 (.inr (.int, .inl (List.replicate 40 0)))).set 91 (.inr (.int, .inl [4, 0, 0, 0, 0, 0, 0, 0, 0, 0, 0, 0, 0, 0, 0, 0, 0, 0, 0, 0, 0, 0, 0, 0, 0, 0, 0, 0, 0, 0, 0, 0, 0, 0, 0, 0, 0, 0, 0, 0]))).set 92 (.inr (.int, .inl [3, 0, 0, 0, 0, 0, 0, 0, 0, 0, 0, 0, 0, 0, 0, 0, 0, 0, 0, 0, 0, 0, 0, 0, 0, 0, 0, 0, 0, 0, 0, 0, 0, 0, 0, 0, 0, 0, 0, 0]))).set 93 (.inr (.int, .inl [a3, 0, 0, 0, 0, 0, 0, 0, 0, 0, 0, 0, 0, 0, 0, 0, 0, 0, 0, 0, 0, 0, 0, 0, 0, 0, 0, 0, 0, 0, 0, 0, 0, 0, 0, 0, 0, 0, 0, 0]))).set 89 (.inl (1, [.ref 90, .ref 91, .ref 92, .ref 93, .int 0, .int 1]))).set 89 (.inl (1, [.ref 90, .ref 91, .ref 92, .ref 93, .int 1, .int 1])))) (by rfl) ?_
      exact mi_sem_ret (cal := fun _ _ _ => none) mi_in5 (by rfl)
    refine mi_sem_call mi_in83 (i := (.invokevirtual 106, 3, 5, 0, 9, 0, 168)) (by rfl) (by rfl) hM173 (by decide) ⟨Nat.le_of_ble_eq_true rfl, Nat.le_of_ble_eq_true rfl⟩ ?_
    refine mi_sem_steps mi_in83 (mi_calok_none _ _) 1 _ (60, [(4, .int 3), (0, .ref 0), (1, .int 0), (2, .int 4), (3, .int a3)], [.int 3], (0, 0), (((((((mi_G.set 1 (.inl (4, [.int 0, .ref 2, .ref 3, .ref 4, .ref 5, .ref 6, .int a3, .int 1, .int 0, .int 0, .ref 7, .ref 10, .ref 14, .ref 15, .int 8, .int 0, .int 0, .ref 24]))).set 90 (.inr (.int, .inl (List.replicate 40 0)))).set 91 (.inr (.int, .inl [4, 0, 0, 0, 0, 0, 0, 0, 0, 0, 0, 0, 0, 0, 0, 0, 0, 0, 0, 0, 0, 0, 0, 0, 0, 0, 0, 0, 0, 0, 0, 0, 0, 0, 0, 0, 0, 0, 0, 0]))).set 92 (.inr (.int, .inl [3, 0, 0, 0, 0, 0, 0, 0, 0, 0, 0, 0, 0, 0, 0, 0, 0, 0, 0, 0, 0, 0, 0, 0, 0, 0, 0, 0, 0, 0, 0, 0, 0, 0, 0, 0, 0, 0, 0, 0]))).set 93 (.inr (.int, .inl [a3, 0, 0, 0, 0, 0, 0, 0, 0, 0, 0, 0, 0, 0, 0, 0, 0, 0, 0, 0, 0, 0, 0, 0, 0, 0, 0, 0, 0, 0, 0, 0, 0, 0, 0, 0, 0, 0, 0, 0]))).set 89 (.inl (1, [.ref 90, .ref 91, .ref 92, .ref 93, .int 0, .int 1]))).set 89 (.inl (1, [.ref 90, .ref 91, .ref 92, .ref 93, .int 1, .int 1])))) (by rfl) ?_
    exact mi_sem_ret (cal := fun _ _ _ => none) mi_in83 (by rfl)
  · refine mi_met_of (y := 142) (q := (mi_h142, mi_c142)) rfl (by decide) (Nat.le_of_ble_eq_true rfl) ?_
    refine mi_sem_steps mi_in142 (mi_calok_none _ _) 3 _ (3, [(0, .ref 116), (1, .int 0), (2, .int 4), (3, .int a3)], [.int 4, .int 0, .ref 116], (0, 0), (((((((mi_G.set 1 (.inl (4, [.int 0, .ref 2, .ref 3, .ref 4, .ref 5, .ref 6, .int a3, .int 1, .int 0, .int 0, .ref 7, .ref 10, .ref 14, .ref 15, .int 8, .int 0, .int 0, .ref 24]))).set 90 (.inr (.int, .inl (List.replicate 40 0)))).set 91 (.inr (.int, .inl [4, 0, 0, 0, 0, 0, 0, 0, 0, 0, 0, 0, 0, 0, 0, 0, 0, 0, 0, 0, 0, 0, 0, 0, 0, 0, 0, 0, 0, 0, 0, 0, 0, 0, 0, 0, 0, 0, 0, 0]))).set 92 (.inr (.int, .inl [3, 0, 0, 0, 0, 0, 0, 0, 0, 0, 0, 0, 0, 0, 0, 0, 0, 0, 0, 0, 0, 0, 0, 0, 0, 0, 0, 0, 0, 0, 0, 0, 0, 0, 0, 0, 0, 0, 0, 0]))).set 93 (.inr (.int, .inl [a3, 0, 0, 0, 0, 0, 0, 0, 0, 0, 0, 0, 0, 0, 0, 0, 0, 0, 0, 0, 0, 0, 0, 0, 0, 0, 0, 0, 0, 0, 0, 0, 0, 0, 0, 0, 0, 0, 0, 0]))).set 89 (.inl (1, [.ref 90, .ref 91, .ref 92, .ref 93, .int 0, .int 1]))).set 89 (.inl (1, [.ref 90, .ref 91, .ref 92, .ref 93, .int 1, .int 1])))) (by rfl) ?_
    have hM176 : mi_Met mi_N0 2 mi_h138 [.ref 116, .int 0, .int 4] (((((((mi_G.set 1 (.inl (4, [.int 0, .ref 2, .ref 3, .ref 4, .ref 5, .ref 6, .int a3, .int 1, .int 0, .int 0, .ref 7, .ref 10, .ref 14, .ref 15, .int 8, .int 0, .int 0, .ref 24]))).set 90 (.inr (.int, .inl (List.replicate 40 0)))).set 91 (.inr (.int, .inl [4, 0, 0, 0, 0, 0, 0, 0, 0, 0, 0, 0, 0, 0, 0, 0, 0, 0, 0, 0, 0, 0, 0, 0, 0, 0, 0, 0, 0, 0, 0, 0, 0, 0, 0, 0, 0, 0, 0, 0]))).set 92 (.inr (.int, .inl [3, 0, 0, 0, 0, 0, 0, 0, 0, 0, 0, 0, 0, 0, 0, 0, 0, 0, 0, 0, 0, 0, 0, 0, 0, 0, 0, 0, 0, 0, 0, 0, 0, 0, 0, 0, 0, 0, 0, 0]))).set 93 (.inr (.int, .inl [a3, 0, 0, 0, 0, 0, 0, 0, 0, 0, 0, 0, 0, 0, 0, 0, 0, 0, 0, 0, 0, 0, 0, 0, 0, 0, 0, 0, 0, 0, 0, 0, 0, 0, 0, 0, 0, 0, 0, 0]))).set 89 (.inl (1, [.ref 90, .ref 91, .ref 92, .ref 93, .int 0, .int 1]))).set 89 (.inl (1, [.ref 90, .ref 91, .ref 92, .ref 93, .int 1, .int 1]))) (some (.int 1)) (((((((mi_G.set 1 (.inl (4, [.int 0, .ref 2, .ref 3, .ref 4, .ref 5, .ref 6, .int a3, .int 1, .int 0, .int 0, .ref 7, .ref 10, .ref 14, .ref 15, .int 8, .int 0, .int 0, .ref 24]))).set 90 (.inr (.int, .inl (List.replicate 40 0)))).set 91 (.inr (.int, .inl [4, 0, 0, 0, 0, 0, 0, 0, 0, 0, 0, 0, 0, 0, 0, 0, 0, 0, 0, 0, 0, 0, 0, 0, 0, 0, 0, 0, 0, 0, 0, 0, 0, 0, 0, 0, 0, 0, 0, 0]))).set 92 (.inr (.int, .inl [3, 0, 0, 0, 0, 0, 0, 0, 0, 0, 0, 0, 0, 0, 0, 0, 0, 0, 0, 0, 0, 0, 0, 0, 0, 0, 0, 0, 0, 0, 0, 0, 0, 0, 0, 0, 0, 0, 0, 0]))).set 93 (.inr (.int, .inl [a3, 0, 0, 0, 0, 0, 0, 0, 0, 0, 0, 0, 0, 0, 0, 0, 0, 0, 0, 0, 0, 0, 0, 0, 0, 0, 0, 0, 0, 0, 0, 0, 0, 0, 0, 0, 0, 0, 0, 0]))).set 89 (.inl (1, [.ref 90, .ref 91, .ref 92, .ref 93, .int 0, .int 1]))).set 89 (.inl (1, [.ref 90, .ref 91, .ref 92, .ref 93, .int 1, .int 1]))) := by
      refine mi_met_of (y := 138) (q := (mi_h138, mi_c138)) rfl (by decide) (Nat.le_of_ble_eq_true rfl) ?_
      refine mi_sem_steps mi_in138 (mi_calok_none _ _) 3 _ (3, [(0, .ref 116), (1, .int 0), (2, .int 4)], [.int 3, .int 0, .int 4], (0, 0), (((((((mi_G.set 1 (.inl (4, [.int 0, .ref 2, .ref 3, .ref 4, .ref 5, .ref 6, .int a3, .int 1, .int 0, .int 0, .ref 7, .ref 10, .ref 14, .ref 15, .int 8, .int 0, .int 0, .ref 24]))).set 90 (.inr (.int, .inl (List.replicate 40 0)))).set 91 (.inr (.int, .inl [4, 0, 0, 0, 0, 0, 0, 0, 0, 0, 0, 0, 0, 0, 0, 0, 0, 0, 0, 0, 0, 0, 0, 0, 0, 0, 0, 0, 0, 0, 0, 0, 0, 0, 0, 0, 0, 0, 0, 0]))).set 92 (.inr (.int, .inl [3, 0, 0, 0, 0, 0, 0, 0, 0, 0, 0, 0, 0, 0, 0, 0, 0, 0, 0, 0, 0, 0, 0, 0, 0, 0, 0, 0, 0, 0, 0, 0, 0, 0, 0, 0, 0, 0, 0, 0]))).set 93 (.inr (.int, .inl [a3, 0, 0, 0, 0, 0, 0, 0, 0, 0, 0, 0, 0, 0, 0, 0, 0, 0, 0, 0, 0, 0, 0, 0, 0, 0, 0, 0, 0, 0, 0, 0, 0, 0, 0, 0, 0, 0, 0, 0]))).set 89 (.inl (1, [.ref 90, .ref 91, .ref 92, .ref 93, .int 0, .int 1]))).set 89 (.inl (1, [.ref 90, .ref 91, .ref 92, .ref 93, .int 1, .int 1])))) (by rfl) ?_
      have hM174 : mi_Met mi_N0 1 mi_h131 [.int 4, .int 0, .int 3] (((((((mi_G.set 1 (.inl (4, [.int 0, .ref 2, .ref 3, .ref 4, .ref 5, .ref 6, .int a3, .int 1, .int 0, .int 0, .ref 7, .ref 10, .ref 14, .ref 15, .int 8, .int 0, .int 0, .ref 24]))).set 90 (.inr (.int, .inl (List.replicate 40 0)))).set 91 (.inr (.int, .inl [4, 0, 0, 0, 0, 0, 0, 0, 0, 0, 0, 0, 0, 0, 0, 0, 0, 0, 0, 0, 0, 0, 0, 0, 0, 0, 0, 0, 0, 0, 0, 0, 0, 0, 0, 0, 0, 0, 0, 0]))).set 92 (.inr (.int, .inl [3, 0, 0, 0, 0, 0, 0, 0, 0, 0, 0, 0, 0, 0, 0, 0, 0, 0, 0, 0, 0, 0, 0, 0, 0, 0, 0, 0, 0, 0, 0, 0, 0, 0, 0, 0, 0, 0, 0, 0]))).set 93 (.inr (.int, .inl [a3, 0, 0, 0, 0, 0, 0, 0, 0, 0, 0, 0, 0, 0, 0, 0, 0, 0, 0, 0, 0, 0, 0, 0, 0, 0, 0, 0, 0, 0, 0, 0, 0, 0, 0, 0, 0, 0, 0, 0]))).set 89 (.inl (1, [.ref 90, .ref 91, .ref 92, .ref 93, .int 0, .int 1]))).set 89 (.inl (1, [.ref 90, .ref 91, .ref 92, .ref 93, .int 1, .int 1]))) (some (.int 0)) (((((((mi_G.set 1 (.inl (4, [.int 0, .ref 2, .ref 3, .ref 4, .ref 5, .ref 6, .int a3, .int 1, .int 0, .int 0, .ref 7, .ref 10, .ref 14, .ref 15, .int 8, .int 0, .int 0, .ref 24]))).set 90 (.inr (.int, .inl (List.replicate 40 0)))).set 91 (.inr (.int, .inl [4, 0, 0, 0, 0, 0, 0, 0, 0, 0, 0, 0, 0, 0, 0, 0, 0, 0, 0, 0, 0, 0, 0, 0, 0, 0, 0, 0, 0, 0, 0, 0, 0, 0, 0, 0, 0, 0, 0, 0]))).set 92 (.inr (.int, .inl [3, 0, 0, 0, 0, 0, 0, 0, 0, 0, 0, 0, 0, 0, 0, 0, 0, 0, 0, 0, 0, 0, 0, 0, 0, 0, 0, 0, 0, 0, 0, 0, 0, 0, 0, 0, 0, 0, 0, 0]))).set 93 (.inr (.int, .inl [a3, 0, 0, 0, 0, 0, 0, 0, 0, 0, 0, 0, 0, 0, 0, 0, 0, 0, 0, 0, 0, 0, 0, 0, 0, 0, 0, 0, 0, 0, 0, 0, 0, 0, 0, 0, 0, 0, 0, 0]))).set 89 (.inl (1, [.ref 90, .ref 91, .ref 92, .ref 93, .int 0, .int 1]))).set 89 (.inl (1, [.ref 90, .ref 91, .ref 92, .ref 93, .int 1, .int 1]))) := by
        refine mi_met_of (y := 131) (q := (mi_h131, mi_c131)) rfl (by decide) (Nat.le_of_ble_eq_true rfl) ?_
        refine mi_sem_steps mi_in131 (mi_calok_none _ _) 7 _ (15, [(0, .int 4), (1, .int 0), (2, .int 3)], [.int 0], (0, 0), (((((((mi_G.set 1 (.inl (4, [.int 0, .ref 2, .ref 3, .ref 4, .ref 5, .ref 6, .int a3, .int 1, .int 0, .int 0, .ref 7, .ref 10, .ref 14, .ref 15, .int 8, .int 0, .int 0, .ref 24]))).set 90 (.inr (.int, .inl (List.replicate 40 0)))).set 91 (.inr (.int, .inl [4, 0, 0, 0, 0, 0, 0, 0, 0, 0, 0, 0, 0, 0, 0, 0, 0, 0, 0, 0, 0, 0, 0, 0, 0, 0, 0, 0, 0, 0, 0, 0, 0, 0, 0, 0, 0, 0, 0, 0]))).set 92 (.inr (.int, .inl [3, 0, 0, 0, 0, 0, 0, 0, 0, 0, 0, 0, 0, 0, 0, 0, 0, 0, 0, 0, 0, 0, 0, 0, 0, 0, 0, 0, 0, 0, 0, 0, 0, 0, 0, 0, 0, 0, 0, 0]))).set 93 (.inr (.int, .inl [a3, 0, 0, 0, 0, 0, 0, 0, 0, 0, 0, 0, 0, 0, 0, 0, 0, 0, 0, 0, 0, 0, 0, 0, 0, 0, 0, 0, 0, 0, 0, 0, 0, 0, 0, 0, 0, 0, 0, 0]))).set 89 (.inl (1, [.ref 90, .ref 91, .ref 92, .ref 93, .int 0, .int 1]))).set 89 (.inl (1, [.ref 90, .ref 91, .ref 92, .ref 93, .int 1, .int 1])))) (by rfl) ?_
        exact mi_sem_ret (cal := fun _ _ _ => none) mi_in131 (by rfl)
      refine mi_sem_call mi_in138 (i := (.invokestatic 119, 3, 131, 0, 9, 0, 379)) (by rfl) (by rfl) hM174 (by decide) ⟨Nat.le_of_ble_eq_true rfl, Nat.le_of_ble_eq_true rfl⟩ ?_
      refine mi_sem_steps mi_in138 (mi_calok_none _ _) 4 _ (21, [(0, .ref 116), (1, .int 0), (2, .int 4)], [.int 6, .int 4, .int 4], (0, 0), (((((((mi_G.set 1 (.inl (4, [.int 0, .ref 2, .ref 3, .ref 4, .ref 5, .ref 6, .int a3, .int 1, .int 0, .int 0, .ref 7, .ref 10, .ref 14, .ref 15, .int 8, .int 0, .int 0, .ref 24]))).set 90 (.inr (.int, .inl (List.replicate 40 0)))).set 91 (.inr (.int, .inl [4, 0, 0, 0, 0, 0, 0, 0, 0, 0, 0, 0, 0, 0, 0, 0, 0, 0, 0, 0, 0, 0, 0, 0, 0, 0, 0, 0, 0, 0, 0, 0, 0, 0, 0, 0, 0, 0, 0, 0]))).set 92 (.inr (.int, .inl [3, 0, 0, 0, 0, 0, 0, 0, 0, 0, 0, 0, 0, 0, 0, 0, 0, 0, 0, 0, 0, 0, 0, 0, 0, 0, 0, 0, 0, 0, 0, 0, 0, 0, 0, 0, 0, 0, 0, 0]))).set 93 (.inr (.int, .inl [a3, 0, 0, 0, 0, 0, 0, 0, 0, 0, 0, 0, 0, 0, 0, 0, 0, 0, 0, 0, 0, 0, 0, 0, 0, 0, 0, 0, 0, 0, 0, 0, 0, 0, 0, 0, 0, 0, 0, 0]))).set 89 (.inl (1, [.ref 90, .ref 91, .ref 92, .ref 93, .int 0, .int 1]))).set 89 (.inl (1, [.ref 90, .ref 91, .ref 92, .ref 93, .int 1, .int 1])))) (by rfl) ?_
      have hM175 : mi_Met mi_N0 1 mi_h131 [.int 4, .int 4, .int 6] (((((((mi_G.set 1 (.inl (4, [.int 0, .ref 2, .ref 3, .ref 4, .ref 5, .ref 6, .int a3, .int 1, .int 0, .int 0, .ref 7, .ref 10, .ref 14, .ref 15, .int 8, .int 0, .int 0, .ref 24]))).set 90 (.inr (.int, .inl (List.replicate 40 0)))).set 91 (.inr (.int, .inl [4, 0, 0, 0, 0, 0, 0, 0, 0, 0, 0, 0, 0, 0, 0, 0, 0, 0, 0, 0, 0, 0, 0, 0, 0, 0, 0, 0, 0, 0, 0, 0, 0, 0, 0, 0, 0, 0, 0, 0]))).set 92 (.inr (.int, .inl [3, 0, 0, 0, 0, 0, 0, 0, 0, 0, 0, 0, 0, 0, 0, 0, 0, 0, 0, 0, 0, 0, 0, 0, 0, 0, 0, 0, 0, 0, 0, 0, 0, 0, 0, 0, 0, 0, 0, 0]))).set 93 (.inr (.int, .inl [a3, 0, 0, 0, 0, 0, 0, 0, 0, 0, 0, 0, 0, 0, 0, 0, 0, 0, 0, 0, 0, 0, 0, 0, 0, 0, 0, 0, 0, 0, 0, 0, 0, 0, 0, 0, 0, 0, 0, 0]))).set 89 (.inl (1, [.ref 90, .ref 91, .ref 92, .ref 93, .int 0, .int 1]))).set 89 (.inl (1, [.ref 90, .ref 91, .ref 92, .ref 93, .int 1, .int 1]))) (some (.int 1)) (((((((mi_G.set 1 (.inl (4, [.int 0, .ref 2, .ref 3, .ref 4, .ref 5, .ref 6, .int a3, .int 1, .int 0, .int 0, .ref 7, .ref 10, .ref 14, .ref 15, .int 8, .int 0, .int 0, .ref 24]))).set 90 (.inr (.int, .inl (List.replicate 40 0)))).set 91 (.inr (.int, .inl [4, 0, 0, 0, 0, 0, 0, 0, 0, 0, 0, 0, 0, 0, 0, 0, 0, 0, 0, 0, 0, 0, 0, 0, 0, 0, 0, 0, 0, 0, 0, 0, 0, 0, 0, 0, 0, 0, 0, 0]))).set 92 (.inr (.int, .inl [3, 0, 0, 0, 0, 0, 0, 0, 0, 0, 0, 0, 0, 0, 0, 0, 0, 0, 0, 0, 0, 0, 0, 0, 0, 0, 0, 0, 0, 0, 0, 0, 0, 0, 0, 0, 0, 0, 0, 0]))).set 93 (.inr (.int, .inl [a3, 0, 0, 0, 0, 0, 0, 0, 0, 0, 0, 0, 0, 0, 0, 0, 0, 0, 0, 0, 0, 0, 0, 0, 0, 0, 0, 0, 0, 0, 0, 0, 0, 0, 0, 0, 0, 0, 0, 0]))).set 89 (.inl (1, [.ref 90, .ref 91, .ref 92, .ref 93, .int 0, .int 1]))).set 89 (.inl (1, [.ref 90, .ref 91, .ref 92, .ref 93, .int 1, .int 1]))) := by
        refine mi_met_of (y := 131) (q := (mi_h131, mi_c131)) rfl (by decide) (Nat.le_of_ble_eq_true rfl) ?_
        refine mi_sem_steps mi_in131 (mi_calok_none _ _) 8 _ (15, [(0, .int 4), (1, .int 4), (2, .int 6)], [.int 1], (0, 0), (((((((mi_G.set 1 (.inl (4, [.int 0, .ref 2, .ref 3, .ref 4, .ref 5, .ref 6, .int a3, .int 1, .int 0, .int 0, .ref 7, .ref 10, .ref 14, .ref 15, .int 8, .int 0, .int 0, .ref 24]))).set 90 (.inr (.int, .inl (List.replicate 40 0)))).set 91 (.inr (.int, .inl [4, 0, 0, 0, 0, 0, 0, 0, 0, 0, 0, 0, 0, 0, 0, 0, 0, 0, 0, 0, 0, 0, 0, 0, 0, 0, 0, 0, 0, 0, 0, 0, 0, 0, 0, 0, 0, 0, 0, 0]))).set 92 (.inr (.int, .inl [3, 0, 0, 0, 0, 0, 0, 0, 0, 0, 0, 0, 0, 0, 0, 0, 0, 0, 0, 0, 0, 0, 0, 0, 0, 0, 0, 0, 0, 0, 0, 0, 0, 0, 0, 0, 0, 0, 0, 0]))).set 93 (.inr (.int, .inl [a3, 0, 0, 0, 0, 0, 0, 0, 0, 0, 0, 0, 0, 0, 0, 0, 0, 0, 0, 0, 0, 0, 0, 0, 0, 0, 0, 0, 0, 0, 0, 0, 0, 0, 0, 0, 0, 0, 0, 0]))).set 89 (.inl (1, [.ref 90, .ref 91, .ref 92, .ref 93, .int 0, .int 1]))).set 89 (.inl (1, [.ref 90, .ref 91, .ref 92, .ref 93, .int 1, .int 1])))) (by rfl) ?_
        exact mi_sem_ret (cal := fun _ _ _ => none) mi_in131 (by rfl)
      refine mi_sem_call mi_in138 (i := (.invokestatic 119, 3, 131, 0, 9, 0, 379)) (by rfl) (by rfl) hM175 (by decide) ⟨Nat.le_of_ble_eq_true rfl, Nat.le_of_ble_eq_true rfl⟩ ?_
      refine mi_sem_steps mi_in138 (mi_calok_none _ _) 5 _ (36, [(0, .ref 116), (1, .int 0), (2, .int 4)], [.int 1], (0, 0), (((((((mi_G.set 1 (.inl (4, [.int 0, .ref 2, .ref 3, .ref 4, .ref 5, .ref 6, .int a3, .int 1, .int 0, .int 0, .ref 7, .ref 10, .ref 14, .ref 15, .int 8, .int 0, .int 0, .ref 24]))).set 90 (.inr (.int, .inl (List.replicate 40 0)))).set 91 (.inr (.int, .inl [4, 0, 0, 0, 0, 0, 0, 0, 0, 0, 0, 0, 0, 0, 0, 0, 0, 0, 0, 0, 0, 0, 0, 0, 0, 0, 0, 0, 0, 0, 0, 0, 0, 0, 0, 0, 0, 0, 0, 0]))).set 92 (.inr (.int, .inl [3, 0, 0, 0, 0, 0, 0, 0, 0, 0, 0, 0, 0, 0, 0, 0, 0, 0, 0, 0, 0, 0, 0, 0, 0, 0, 0, 0, 0, 0, 0, 0, 0, 0, 0, 0, 0, 0, 0, 0]))).set 93 (.inr (.int, .inl [a3, 0, 0, 0, 0, 0, 0, 0, 0, 0, 0, 0, 0, 0, 0, 0, 0, 0, 0, 0, 0, 0, 0, 0, 0, 0, 0, 0, 0, 0, 0, 0, 0, 0, 0, 0, 0, 0, 0, 0]))).set 89 (.inl (1, [.ref 90, .ref 91, .ref 92, .ref 93, .int 0, .int 1]))).set 89 (.inl (1, [.ref 90, .ref 91, .ref 92, .ref 93, .int 1, .int 1])))) (by rfl) ?_
      exact mi_sem_ret (cal := fun _ _ _ => none) mi_in138 (by rfl)
    refine mi_sem_call mi_in142 (i := (.invokevirtual 140, 3, 138, 0, 9, 0, 386)) (by rfl) (by rfl) hM176 (by decide) ⟨Nat.le_of_ble_eq_true rfl, Nat.le_of_ble_eq_true rfl⟩ ?_
    refine mi_sem_steps mi_in142 (mi_calok_none _ _) 3 _ (11, [(0, .ref 116), (1, .int 0), (2, .int 4), (3, .int a3)], [.int a3, .int 4], (0, 0), (((((((mi_G.set 1 (.inl (4, [.int 0, .ref 2, .ref 3, .ref 4, .ref 5, .ref 6, .int a3, .int 1, .int 0, .int 0, .ref 7, .ref 10, .ref 14, .ref 15, .int 8, .int 0, .int 0, .ref 24]))).set 90 (.inr (.int, .inl (List.replicate 40 0)))).set 91 (.inr (.int, .inl [4, 0, 0, 0, 0, 0, 0, 0, 0, 0, 0, 0, 0, 0, 0, 0, 0, 0, 0, 0, 0, 0, 0, 0, 0, 0, 0, 0, 0, 0, 0, 0, 0, 0, 0, 0, 0, 0, 0, 0]))).set 92 (.inr (.int, .inl [3, 0, 0, 0, 0, 0, 0, 0, 0, 0, 0, 0, 0, 0, 0, 0, 0, 0, 0, 0, 0, 0, 0, 0, 0, 0, 0, 0, 0, 0, 0, 0, 0, 0, 0, 0, 0, 0, 0, 0]))).set 93 (.inr (.int, .inl [a3, 0, 0, 0, 0, 0, 0, 0, 0, 0, 0, 0, 0, 0, 0, 0, 0, 0, 0, 0, 0, 0, 0, 0, 0, 0, 0, 0, 0, 0, 0, 0, 0, 0, 0, 0, 0, 0, 0, 0]))).set 89 (.inl (1, [.ref 90, .ref 91, .ref 92, .ref 93, .int 0, .int 1]))).set 89 (.inl (1, [.ref 90, .ref 91, .ref 92, .ref 93, .int 1, .int 1])))) (by rfl) ?_
    have hM178 : mi_Met mi_N0 2 mi_h139 [.int 4, .int a3] (((((((mi_G.set 1 (.inl (4, [.int 0, .ref 2, .ref 3, .ref 4, .ref 5, .ref 6, .int a3, .int 1, .int 0, .int 0, .ref 7, .ref 10, .ref 14, .ref 15, .int 8, .int 0, .int 0, .ref 24]))).set 90 (.inr (.int, .inl (List.replicate 40 0)))).set 91 (.inr (.int, .inl [4, 0, 0, 0, 0, 0, 0, 0, 0, 0, 0, 0, 0, 0, 0, 0, 0, 0, 0, 0, 0, 0, 0, 0, 0, 0, 0, 0, 0, 0, 0, 0, 0, 0, 0, 0, 0, 0, 0, 0]))).set 92 (.inr (.int, .inl [3, 0, 0, 0, 0, 0, 0, 0, 0, 0, 0, 0, 0, 0, 0, 0, 0, 0, 0, 0, 0, 0, 0, 0, 0, 0, 0, 0, 0, 0, 0, 0, 0, 0, 0, 0, 0, 0, 0, 0]))).set 93 (.inr (.int, .inl [a3, 0, 0, 0, 0, 0, 0, 0, 0, 0, 0, 0, 0, 0, 0, 0, 0, 0, 0, 0, 0, 0, 0, 0, 0, 0, 0, 0, 0, 0, 0, 0, 0, 0, 0, 0, 0, 0, 0, 0]))).set 89 (.inl (1, [.ref 90, .ref 91, .ref 92, .ref 93, .int 0, .int 1]))).set 89 (.inl (1, [.ref 90, .ref 91, .ref 92, .ref 93, .int 1, .int 1]))) (some (.int 1)) (((((((mi_G.set 1 (.inl (4, [.int 0, .ref 2, .ref 3, .ref 4, .ref 5, .ref 6, .int a3, .int 1, .int 0, .int 0, .ref 7, .ref 10, .ref 14, .ref 15, .int 8, .int 0, .int 0, .ref 24]))).set 90 (.inr (.int, .inl (List.replicate 40 0)))).set 91 (.inr (.int, .inl [4, 0, 0, 0, 0, 0, 0, 0, 0, 0, 0, 0, 0, 0, 0, 0, 0, 0, 0, 0, 0, 0, 0, 0, 0, 0, 0, 0, 0, 0, 0, 0, 0, 0, 0, 0, 0, 0, 0, 0]))).set 92 (.inr (.int, .inl [3, 0, 0, 0, 0, 0, 0, 0, 0, 0, 0, 0, 0, 0, 0, 0, 0, 0, 0, 0, 0, 0, 0, 0, 0, 0, 0, 0, 0, 0, 0, 0, 0, 0, 0, 0, 0, 0, 0, 0]))).set 93 (.inr (.int, .inl [a3, 0, 0, 0, 0, 0, 0, 0, 0, 0, 0, 0, 0, 0, 0, 0, 0, 0, 0, 0, 0, 0, 0, 0, 0, 0, 0, 0, 0, 0, 0, 0, 0, 0, 0, 0, 0, 0, 0, 0]))).set 89 (.inl (1, [.ref 90, .ref 91, .ref 92, .ref 93, .int 0, .int 1]))).set 89 (.inl (1, [.ref 90, .ref 91, .ref 92, .ref 93, .int 1, .int 1]))) := by
      refine mi_met_of (y := 139) (q := (mi_h139, mi_c139)) rfl (by decide) (Nat.le_of_ble_eq_true rfl) ?_
      refine mi_sem_steps mi_in139 (mi_calok_none _ _) 5 _ (64, [(0, .int 4), (1, .int a3)], [.int 5, .int 1, .int a3], (0, 0), (((((((mi_G.set 1 (.inl (4, [.int 0, .ref 2, .ref 3, .ref 4, .ref 5, .ref 6, .int a3, .int 1, .int 0, .int 0, .ref 7, .ref 10, .ref 14, .ref 15, .int 8, .int 0, .int 0, .ref 24]))).set 90 (.inr (.int, .inl (List.replicate 40 0)))).set 91 (.inr (.int, .inl [4, 0, 0, 0, 0, 0, 0, 0, 0, 0, 0, 0, 0, 0, 0, 0, 0, 0, 0, 0, 0, 0, 0, 0, 0, 0, 0, 0, 0, 0, 0, 0, 0, 0, 0, 0, 0, 0, 0, 0]))).set 92 (.inr (.int, .inl [3, 0, 0, 0, 0, 0, 0, 0, 0, 0, 0, 0, 0, 0, 0, 0, 0, 0, 0, 0, 0, 0, 0, 0, 0, 0, 0, 0, 0, 0, 0, 0, 0, 0, 0, 0, 0, 0, 0, 0]))).set 93 (.inr (.int, .inl [a3, 0, 0, 0, 0, 0, 0, 0, 0, 0, 0, 0, 0, 0, 0, 0, 0, 0, 0, 0, 0, 0, 0, 0, 0, 0, 0, 0, 0, 0, 0, 0, 0, 0, 0, 0, 0, 0, 0, 0]))).set 89 (.inl (1, [.ref 90, .ref 91, .ref 92, .ref 93, .int 0, .int 1]))).set 89 (.inl (1, [.ref 90, .ref 91, .ref 92, .ref 93, .int 1, .int 1])))) (by rfl) ?_
      have hM177 : mi_Met mi_N0 1 mi_h131 [.int a3, .int 1, .int 5] (((((((mi_G.set 1 (.inl (4, [.int 0, .ref 2, .ref 3, .ref 4, .ref 5, .ref 6, .int a3, .int 1, .int 0, .int 0, .ref 7, .ref 10, .ref 14, .ref 15, .int 8, .int 0, .int 0, .ref 24]))).set 90 (.inr (.int, .inl (List.replicate 40 0)))).set 91 (.inr (.int, .inl [4, 0, 0, 0, 0, 0, 0, 0, 0, 0, 0, 0, 0, 0, 0, 0, 0, 0, 0, 0, 0, 0, 0, 0, 0, 0, 0, 0, 0, 0, 0, 0, 0, 0, 0, 0, 0, 0, 0, 0]))).set 92 (.inr (.int, .inl [3, 0, 0, 0, 0, 0, 0, 0, 0, 0, 0, 0, 0, 0, 0, 0, 0, 0, 0, 0, 0, 0, 0, 0, 0, 0, 0, 0, 0, 0, 0, 0, 0, 0, 0, 0, 0, 0, 0, 0]))).set 93 (.inr (.int, .inl [a3, 0, 0, 0, 0, 0, 0, 0, 0, 0, 0, 0, 0, 0, 0, 0, 0, 0, 0, 0, 0, 0, 0, 0, 0, 0, 0, 0, 0, 0, 0, 0, 0, 0, 0, 0, 0, 0, 0, 0]))).set 89 (.inl (1, [.ref 90, .ref 91, .ref 92, .ref 93, .int 0, .int 1]))).set 89 (.inl (1, [.ref 90, .ref 91, .ref 92, .ref 93, .int 1, .int 1]))) (some (.int 1)) (((((((mi_G.set 1 (.inl (4, [.int 0, .ref 2, .ref 3, .ref 4, .ref 5, .ref 6, .int a3, .int 1, .int 0, .int 0, .ref 7, .ref 10, .ref 14, .ref 15, .int 8, .int 0, .int 0, .ref 24]))).set 90 (.inr (.int, .inl (List.replicate 40 0)))).set 91 (.inr (.int, .inl [4, 0, 0, 0, 0, 0, 0, 0, 0, 0, 0, 0, 0, 0, 0, 0, 0, 0, 0, 0, 0, 0, 0, 0, 0, 0, 0, 0, 0, 0, 0, 0, 0, 0, 0, 0, 0, 0, 0, 0]))).set 92 (.inr (.int, .inl [3, 0, 0, 0, 0, 0, 0, 0, 0, 0, 0, 0, 0, 0, 0, 0, 0, 0, 0, 0, 0, 0, 0, 0, 0, 0, 0, 0, 0, 0, 0, 0, 0, 0, 0, 0, 0, 0, 0, 0]))).set 93 (.inr (.int, .inl [a3, 0, 0, 0, 0, 0, 0, 0, 0, 0, 0, 0, 0, 0, 0, 0, 0, 0, 0, 0, 0, 0, 0, 0, 0, 0, 0, 0, 0, 0, 0, 0, 0, 0, 0, 0, 0, 0, 0, 0]))).set 89 (.inl (1, [.ref 90, .ref 91, .ref 92, .ref 93, .int 0, .int 1]))).set 89 (.inl (1, [.ref 90, .ref 91, .ref 92, .ref 93, .int 1, .int 1]))) := by
        refine mi_met_of (y := 131) (q := (mi_h131, mi_c131)) rfl (by decide) (Nat.le_of_ble_eq_true rfl) ?_
        refine mi_sem_steps mi_in131 (mi_calok_none _ _) 2 _ (2, [(0, .int a3), (1, .int 1), (2, .int 5)], [.int 1, .int a3], (0, 0), (((((((mi_G.set 1 (.inl (4, [.int 0, .ref 2, .ref 3, .ref 4, .ref 5, .ref 6, .int a3, .int 1, .int 0, .int 0, .ref 7, .ref 10, .ref 14, .ref 15, .int 8, .int 0, .int 0, .ref 24]))).set 90 (.inr (.int, .inl (List.replicate 40 0)))).set 91 (.inr (.int, .inl [4, 0, 0, 0, 0, 0, 0, 0, 0, 0, 0, 0, 0, 0, 0, 0, 0, 0, 0, 0, 0, 0, 0, 0, 0, 0, 0, 0, 0, 0, 0, 0, 0, 0, 0, 0, 0, 0, 0, 0]))).set 92 (.inr (.int, .inl [3, 0, 0, 0, 0, 0, 0, 0, 0, 0, 0, 0, 0, 0, 0, 0, 0, 0, 0, 0, 0, 0, 0, 0, 0, 0, 0, 0, 0, 0, 0, 0, 0, 0, 0, 0, 0, 0, 0, 0]))).set 93 (.inr (.int, .inl [a3, 0, 0, 0, 0, 0, 0, 0, 0, 0, 0, 0, 0, 0, 0, 0, 0, 0, 0, 0, 0, 0, 0, 0, 0, 0, 0, 0, 0, 0, 0, 0, 0, 0, 0, 0, 0, 0, 0, 0]))).set 89 (.inl (1, [.ref 90, .ref 91, .ref 92, .ref 93, .int 0, .int 1]))).set 89 (.inl (1, [.ref 90, .ref 91, .ref 92, .ref 93, .int 1, .int 1])))) (by rfl) ?_
        refine mi_sem_b mi_in131 (decide (a3 < 1)) false (mi_ltF (1) (by decide) (by omega)) 14 5 ([(0, .int a3), (1, .int 1), (2, .int 5)], [], (0, 0), (((((((mi_G.set 1 (.inl (4, [.int 0, .ref 2, .ref 3, .ref 4, .ref 5, .ref 6, .int a3, .int 1, .int 0, .int 0, .ref 7, .ref 10, .ref 14, .ref 15, .int 8, .int 0, .int 0, .ref 24]))).set 90 (.inr (.int, .inl (List.replicate 40 0)))).set 91 (.inr (.int, .inl [4, 0, 0, 0, 0, 0, 0, 0, 0, 0, 0, 0, 0, 0, 0, 0, 0, 0, 0, 0, 0, 0, 0, 0, 0, 0, 0, 0, 0, 0, 0, 0, 0, 0, 0, 0, 0, 0, 0, 0]))).set 92 (.inr (.int, .inl [3, 0, 0, 0, 0, 0, 0, 0, 0, 0, 0, 0, 0, 0, 0, 0, 0, 0, 0, 0, 0, 0, 0, 0, 0, 0, 0, 0, 0, 0, 0, 0, 0, 0, 0, 0, 0, 0, 0, 0]))).set 93 (.inr (.int, .inl [a3, 0, 0, 0, 0, 0, 0, 0, 0, 0, 0, 0, 0, 0, 0, 0, 0, 0, 0, 0, 0, 0, 0, 0, 0, 0, 0, 0, 0, 0, 0, 0, 0, 0, 0, 0, 0, 0, 0, 0]))).set 89 (.inl (1, [.ref 90, .ref 91, .ref 92, .ref 93, .int 0, .int 1]))).set 89 (.inl (1, [.ref 90, .ref 91, .ref 92, .ref 93, .int 1, .int 1])))) (by rfl) ?_
        refine mi_sem_steps mi_in131 (mi_calok_none _ _) 2 _ (7, [(0, .int a3), (1, .int 1), (2, .int 5)], [.int 5, .int a3], (0, 0), (((((((mi_G.set 1 (.inl (4, [.int 0, .ref 2, .ref 3, .ref 4, .ref 5, .ref 6, .int a3, .int 1, .int 0, .int 0, .ref 7, .ref 10, .ref 14, .ref 15, .int 8, .int 0, .int 0, .ref 24]))).set 90 (.inr (.int, .inl (List.replicate 40 0)))).set 91 (.inr (.int, .inl [4, 0, 0, 0, 0, 0, 0, 0, 0, 0, 0, 0, 0, 0, 0, 0, 0, 0, 0, 0, 0, 0, 0, 0, 0, 0, 0, 0, 0, 0, 0, 0, 0, 0, 0, 0, 0, 0, 0, 0]))).set 92 (.inr (.int, .inl [3, 0, 0, 0, 0, 0, 0, 0, 0, 0, 0, 0, 0, 0, 0, 0, 0, 0, 0, 0, 0, 0, 0, 0, 0, 0, 0, 0, 0, 0, 0, 0, 0, 0, 0, 0, 0, 0, 0, 0]))).set 93 (.inr (.int, .inl [a3, 0, 0, 0, 0, 0, 0, 0, 0, 0, 0, 0, 0, 0, 0, 0, 0, 0, 0, 0, 0, 0, 0, 0, 0, 0, 0, 0, 0, 0, 0, 0, 0, 0, 0, 0, 0, 0, 0, 0]))).set 89 (.inl (1, [.ref 90, .ref 91, .ref 92, .ref 93, .int 0, .int 1]))).set 89 (.inl (1, [.ref 90, .ref 91, .ref 92, .ref 93, .int 1, .int 1])))) (by rfl) ?_
        refine mi_sem_b mi_in131 (decide (5 < a3)) false (mi_ltF2 (5) (by decide) (by omega)) 14 10 ([(0, .int a3), (1, .int 1), (2, .int 5)], [], (0, 0), (((((((mi_G.set 1 (.inl (4, [.int 0, .ref 2, .ref 3, .ref 4, .ref 5, .ref 6, .int a3, .int 1, .int 0, .int 0, .ref 7, .ref 10, .ref 14, .ref 15, .int 8, .int 0, .int 0, .ref 24]))).set 90 (.inr (.int, .inl (List.replicate 40 0)))).set 91 (.inr (.int, .inl [4, 0, 0, 0, 0, 0, 0, 0, 0, 0, 0, 0, 0, 0, 0, 0, 0, 0, 0, 0, 0, 0, 0, 0, 0, 0, 0, 0, 0, 0, 0, 0, 0, 0, 0, 0, 0, 0, 0, 0]))).set 92 (.inr (.int, .inl [3, 0, 0, 0, 0, 0, 0, 0, 0, 0, 0, 0, 0, 0, 0, 0, 0, 0, 0, 0, 0, 0, 0, 0, 0, 0, 0, 0, 0, 0, 0, 0, 0, 0, 0, 0, 0, 0, 0, 0]))).set 93 (.inr (.int, .inl [a3, 0, 0, 0, 0, 0, 0, 0, 0, 0, 0, 0, 0, 0, 0, 0, 0, 0, 0, 0, 0, 0, 0, 0, 0, 0, 0, 0, 0, 0, 0, 0, 0, 0, 0, 0, 0, 0, 0, 0]))).set 89 (.inl (1, [.ref 90, .ref 91, .ref 92, .ref 93, .int 0, .int 1]))).set 89 (.inl (1, [.ref 90, .ref 91, .ref 92, .ref 93, .int 1, .int 1])))) (by rfl) ?_
        refine mi_sem_steps mi_in131 (mi_calok_none _ _) 2 _ (15, [(0, .int a3), (1, .int 1), (2, .int 5)], [.int 1], (0, 0), (((((((mi_G.set 1 (.inl (4, [.int 0, .ref 2, .ref 3, .ref 4, .ref 5, .ref 6, .int a3, .int 1, .int 0, .int 0, .ref 7, .ref 10, .ref 14, .ref 15, .int 8, .int 0, .int 0, .ref 24]))).set 90 (.inr (.int, .inl (List.replicate 40 0)))).set 91 (.inr (.int, .inl [4, 0, 0, 0, 0, 0, 0, 0, 0, 0, 0, 0, 0, 0, 0, 0, 0, 0, 0, 0, 0, 0, 0, 0, 0, 0, 0, 0, 0, 0, 0, 0, 0, 0, 0, 0, 0, 0, 0, 0]))).set 92 (.inr (.int, .inl [3, 0, 0, 0, 0, 0, 0, 0, 0, 0, 0, 0, 0, 0, 0, 0, 0, 0, 0, 0, 0, 0, 0, 0, 0, 0, 0, 0, 0, 0, 0, 0, 0, 0, 0, 0, 0, 0, 0, 0]))).set 93 (.inr (.int, .inl [a3, 0, 0, 0, 0, 0, 0, 0, 0, 0, 0, 0, 0, 0, 0, 0, 0, 0, 0, 0, 0, 0, 0, 0, 0, 0, 0, 0, 0, 0, 0, 0, 0, 0, 0, 0, 0, 0, 0, 0]))).set 89 (.inl (1, [.ref 90, .ref 91, .ref 92, .ref 93, .int 0, .int 1]))).set 89 (.inl (1, [.ref 90, .ref 91, .ref 92, .ref 93, .int 1, .int 1])))) (by rfl) ?_
        exact mi_sem_ret (cal := fun _ _ _ => none) mi_in131 (by rfl)
      refine mi_sem_call mi_in139 (i := (.invokestatic 119, 3, 131, 0, 9, 0, 379)) (by rfl) (by rfl) hM177 (by decide) ⟨Nat.le_of_ble_eq_true rfl, Nat.le_of_ble_eq_true rfl⟩ ?_
      exact mi_sem_ret (cal := fun _ _ _ => none) mi_in139 (by rfl)
    refine mi_sem_call mi_in142 (i := (.invokestatic 144, 3, 139, 0, 9, 0, 388)) (by rfl) (by rfl) hM178 (by decide) ⟨Nat.le_of_ble_eq_true rfl, Nat.le_of_ble_eq_true rfl⟩ ?_
    refine mi_sem_steps mi_in142 (mi_calok_none _ _) 4 _ (22, [(0, .ref 116), (1, .int 0), (2, .int 4), (3, .int a3)], [.int 4, .int 0, .ref 116], (0, 0), (((((((mi_G.set 1 (.inl (4, [.int 0, .ref 2, .ref 3, .ref 4, .ref 5, .ref 6, .int a3, .int 1, .int 0, .int 0, .ref 7, .ref 10, .ref 14, .ref 15, .int 8, .int 0, .int 0, .ref 24]))).set 90 (.inr (.int, .inl (List.replicate 40 0)))).set 91 (.inr (.int, .inl [4, 0, 0, 0, 0, 0, 0, 0, 0, 0, 0, 0, 0, 0, 0, 0, 0, 0, 0, 0, 0, 0, 0, 0, 0, 0, 0, 0, 0, 0, 0, 0, 0, 0, 0, 0, 0, 0, 0, 0]))).set 92 (.inr (.int, .inl [3, 0, 0, 0, 0, 0, 0, 0, 0, 0, 0, 0, 0, 0, 0, 0, 0, 0, 0, 0, 0, 0, 0, 0, 0, 0, 0, 0, 0, 0, 0, 0, 0, 0, 0, 0, 0, 0, 0, 0]))).set 93 (.inr (.int, .inl [a3, 0, 0, 0, 0, 0, 0, 0, 0, 0, 0, 0, 0, 0, 0, 0, 0, 0, 0, 0, 0, 0, 0, 0, 0, 0, 0, 0, 0, 0, 0, 0, 0, 0, 0, 0, 0, 0, 0, 0]))).set 89 (.inl (1, [.ref 90, .ref 91, .ref 92, .ref 93, .int 0, .int 1]))).set 89 (.inl (1, [.ref 90, .ref 91, .ref 92, .ref 93, .int 1, .int 1])))) (by rfl) ?_
    have hM179 : mi_Met mi_N0 1 mi_h140 [.ref 116, .int 0, .int 4] (((((((mi_G.set 1 (.inl (4, [.int 0, .ref 2, .ref 3, .ref 4, .ref 5, .ref 6, .int a3, .int 1, .int 0, .int 0, .ref 7, .ref 10, .ref 14, .ref 15, .int 8, .int 0, .int 0, .ref 24]))).set 90 (.inr (.int, .inl (List.replicate 40 0)))).set 91 (.inr (.int, .inl [4, 0, 0, 0, 0, 0, 0, 0, 0, 0, 0, 0, 0, 0, 0, 0, 0, 0, 0, 0, 0, 0, 0, 0, 0, 0, 0, 0, 0, 0, 0, 0, 0, 0, 0, 0, 0, 0, 0, 0]))).set 92 (.inr (.int, .inl [3, 0, 0, 0, 0, 0, 0, 0, 0, 0, 0, 0, 0, 0, 0, 0, 0, 0, 0, 0, 0, 0, 0, 0, 0, 0, 0, 0, 0, 0, 0, 0, 0, 0, 0, 0, 0, 0, 0, 0]))).set 93 (.inr (.int, .inl [a3, 0, 0, 0, 0, 0, 0, 0, 0, 0, 0, 0, 0, 0, 0, 0, 0, 0, 0, 0, 0, 0, 0, 0, 0, 0, 0, 0, 0, 0, 0, 0, 0, 0, 0, 0, 0, 0, 0, 0]))).set 89 (.inl (1, [.ref 90, .ref 91, .ref 92, .ref 93, .int 0, .int 1]))).set 89 (.inl (1, [.ref 90, .ref 91, .ref 92, .ref 93, .int 1, .int 1]))) (some (.int 3)) (((((((mi_G.set 1 (.inl (4, [.int 0, .ref 2, .ref 3, .ref 4, .ref 5, .ref 6, .int a3, .int 1, .int 0, .int 0, .ref 7, .ref 10, .ref 14, .ref 15, .int 8, .int 0, .int 0, .ref 24]))).set 90 (.inr (.int, .inl (List.replicate 40 0)))).set 91 (.inr (.int, .inl [4, 0, 0, 0, 0, 0, 0, 0, 0, 0, 0, 0, 0, 0, 0, 0, 0, 0, 0, 0, 0, 0, 0, 0, 0, 0, 0, 0, 0, 0, 0, 0, 0, 0, 0, 0, 0, 0, 0, 0]))).set 92 (.inr (.int, .inl [3, 0, 0, 0, 0, 0, 0, 0, 0, 0, 0, 0, 0, 0, 0, 0, 0, 0, 0, 0, 0, 0, 0, 0, 0, 0, 0, 0, 0, 0, 0, 0, 0, 0, 0, 0, 0, 0, 0, 0]))).set 93 (.inr (.int, .inl [a3, 0, 0, 0, 0, 0, 0, 0, 0, 0, 0, 0, 0, 0, 0, 0, 0, 0, 0, 0, 0, 0, 0, 0, 0, 0, 0, 0, 0, 0, 0, 0, 0, 0, 0, 0, 0, 0, 0, 0]))).set 89 (.inl (1, [.ref 90, .ref 91, .ref 92, .ref 93, .int 0, .int 1]))).set 89 (.inl (1, [.ref 90, .ref 91, .ref 92, .ref 93, .int 1, .int 1]))) := by
      refine mi_met_of (y := 140) (q := (mi_h140, mi_c140)) rfl (by decide) (Nat.le_of_ble_eq_true rfl) ?_
      refine mi_sem_steps mi_in140 (mi_calok_none _ _) 4 _ (55, [(0, .ref 116), (1, .int 0), (2, .int 4)], [.int 3], (0, 0), (((((((mi_G.set 1 (.inl (4, [.int 0, .ref 2, .ref 3, .ref 4, .ref 5, .ref 6, .int a3, .int 1, .int 0, .int 0, .ref 7, .ref 10, .ref 14, .ref 15, .int 8, .int 0, .int 0, .ref 24]))).set 90 (.inr (.int, .inl (List.replicate 40 0)))).set 91 (.inr (.int, .inl [4, 0, 0, 0, 0, 0, 0, 0, 0, 0, 0, 0, 0, 0, 0, 0, 0, 0, 0, 0, 0, 0, 0, 0, 0, 0, 0, 0, 0, 0, 0, 0, 0, 0, 0, 0, 0, 0, 0, 0]))).set 92 (.inr (.int, .inl [3, 0, 0, 0, 0, 0, 0, 0, 0, 0, 0, 0, 0, 0, 0, 0, 0, 0, 0, 0, 0, 0, 0, 0, 0, 0, 0, 0, 0, 0, 0, 0, 0, 0, 0, 0, 0, 0, 0, 0]))).set 93 (.inr (.int, .inl [a3, 0, 0, 0, 0, 0, 0, 0, 0, 0, 0, 0, 0, 0, 0, 0, 0, 0, 0, 0, 0, 0, 0, 0, 0, 0, 0, 0, 0, 0, 0, 0, 0, 0, 0, 0, 0, 0, 0, 0]))).set 89 (.inl (1, [.ref 90, .ref 91, .ref 92, .ref 93, .int 0, .int 1]))).set 89 (.inl (1, [.ref 90, .ref 91, .ref 92, .ref 93, .int 1, .int 1])))) (by rfl) ?_
      exact mi_sem_ret (cal := fun _ _ _ => none) mi_in140 (by rfl)
    refine mi_sem_call mi_in142 (i := (.invokevirtual 147, 3, 140, 0, 9, 0, 389)) (by rfl) (by rfl) hM179 (by decide) ⟨Nat.le_of_ble_eq_true rfl, Nat.le_of_ble_eq_true rfl⟩ ?_
    refine mi_sem_steps mi_in142 (mi_calok_none _ _) 3 _ (30, [(4, .int 3), (0, .ref 116), (1, .int 0), (2, .int 4), (3, .int a3)], [.int a3, .int 3], (0, 0), (((((((mi_G.set 1 (.inl (4, [.int 0, .ref 2, .ref 3, .ref 4, .ref 5, .ref 6, .int a3, .int 1, .int 0, .int 0, .ref 7, .ref 10, .ref 14, .ref 15, .int 8, .int 0, .int 0, .ref 24]))).set 90 (.inr (.int, .inl (List.replicate 40 0)))).set 91 (.inr (.int, .inl [4, 0, 0, 0, 0, 0, 0, 0, 0, 0, 0, 0, 0, 0, 0, 0, 0, 0, 0, 0, 0, 0, 0, 0, 0, 0, 0, 0, 0, 0, 0, 0, 0, 0, 0, 0, 0, 0, 0, 0]))).set 92 (.inr (.int, .inl [3, 0, 0, 0, 0, 0, 0, 0, 0, 0, 0, 0, 0, 0, 0, 0, 0, 0, 0, 0, 0, 0, 0, 0, 0, 0, 0, 0, 0, 0, 0, 0, 0, 0, 0, 0, 0, 0, 0, 0]))).set 93 (.inr (.int, .inl [a3, 0, 0, 0, 0, 0, 0, 0, 0, 0, 0, 0, 0, 0, 0, 0, 0, 0, 0, 0, 0, 0, 0, 0, 0, 0, 0, 0, 0, 0, 0, 0, 0, 0, 0, 0, 0, 0, 0, 0]))).set 89 (.inl (1, [.ref 90, .ref 91, .ref 92, .ref 93, .int 0, .int 1]))).set 89 (.inl (1, [.ref 90, .ref 91, .ref 92, .ref 93, .int 1, .int 1])))) (by rfl) ?_
    refine mi_sem_b mi_in142 ((3 != a3)) true (mi_neT2 (3) (by decide) (by omega)) 36 33 ([(4, .int 3), (0, .ref 116), (1, .int 0), (2, .int 4), (3, .int a3)], [], (0, 0), (((((((mi_G.set 1 (.inl (4, [.int 0, .ref 2, .ref 3, .ref 4, .ref 5, .ref 6, .int a3, .int 1, .int 0, .int 0, .ref 7, .ref 10, .ref 14, .ref 15, .int 8, .int 0, .int 0, .ref 24]))).set 90 (.inr (.int, .inl (List.replicate 40 0)))).set 91 (.inr (.int, .inl [4, 0, 0, 0, 0, 0, 0, 0, 0, 0, 0, 0, 0, 0, 0, 0, 0, 0, 0, 0, 0, 0, 0, 0, 0, 0, 0, 0, 0, 0, 0, 0, 0, 0, 0, 0, 0, 0, 0, 0]))).set 92 (.inr (.int, .inl [3, 0, 0, 0, 0, 0, 0, 0, 0, 0, 0, 0, 0, 0, 0, 0, 0, 0, 0, 0, 0, 0, 0, 0, 0, 0, 0, 0, 0, 0, 0, 0, 0, 0, 0, 0, 0, 0, 0, 0]))).set 93 (.inr (.int, .inl [a3, 0, 0, 0, 0, 0, 0, 0, 0, 0, 0, 0, 0, 0, 0, 0, 0, 0, 0, 0, 0, 0, 0, 0, 0, 0, 0, 0, 0, 0, 0, 0, 0, 0, 0, 0, 0, 0, 0, 0]))).set 89 (.inl (1, [.ref 90, .ref 91, .ref 92, .ref 93, .int 0, .int 1]))).set 89 (.inl (1, [.ref 90, .ref 91, .ref 92, .ref 93, .int 1, .int 1])))) (by rfl) ?_
    refine mi_sem_steps mi_in142 (mi_calok_none _ _) 4 _ (40, [(4, .int 3), (0, .ref 116), (1, .int 0), (2, .int 4), (3, .int a3)], [.int a3, .int 4, .int 0, .ref 116], (0, 0), (((((((mi_G.set 1 (.inl (4, [.int 0, .ref 2, .ref 3, .ref 4, .ref 5, .ref 6, .int a3, .int 1, .int 0, .int 0, .ref 7, .ref 10, .ref 14, .ref 15, .int 8, .int 0, .int 0, .ref 24]))).set 90 (.inr (.int, .inl (List.replicate 40 0)))).set 91 (.inr (.int, .inl [4, 0, 0, 0, 0, 0, 0, 0, 0, 0, 0, 0, 0, 0, 0, 0, 0, 0, 0, 0, 0, 0, 0, 0, 0, 0, 0, 0, 0, 0, 0, 0, 0, 0, 0, 0, 0, 0, 0, 0]))).set 92 (.inr (.int, .inl [3, 0, 0, 0, 0, 0, 0, 0, 0, 0, 0, 0, 0, 0, 0, 0, 0, 0, 0, 0, 0, 0, 0, 0, 0, 0, 0, 0, 0, 0, 0, 0, 0, 0, 0, 0, 0, 0, 0, 0]))).set 93 (.inr (.int, .inl [a3, 0, 0, 0, 0, 0, 0, 0, 0, 0, 0, 0, 0, 0, 0, 0, 0, 0, 0, 0, 0, 0, 0, 0, 0, 0, 0, 0, 0, 0, 0, 0, 0, 0, 0, 0, 0, 0, 0, 0]))).set 89 (.inl (1, [.ref 90, .ref 91, .ref 92, .ref 93, .int 0, .int 1]))).set 89 (.inl (1, [.ref 90, .ref 91, .ref 92, .ref 93, .int 1, .int 1])))) (by rfl) ?_
    have hM180 : mi_Met mi_N0 1 mi_h141 [.ref 116, .int 0, .int 4, .int a3] (((((((mi_G.set 1 (.inl (4, [.int 0, .ref 2, .ref 3, .ref 4, .ref 5, .ref 6, .int a3, .int 1, .int 0, .int 0, .ref 7, .ref 10, .ref 14, .ref 15, .int 8, .int 0, .int 0, .ref 24]))).set 90 (.inr (.int, .inl (List.replicate 40 0)))).set 91 (.inr (.int, .inl [4, 0, 0, 0, 0, 0, 0, 0, 0, 0, 0, 0, 0, 0, 0, 0, 0, 0, 0, 0, 0, 0, 0, 0, 0, 0, 0, 0, 0, 0, 0, 0, 0, 0, 0, 0, 0, 0, 0, 0]))).set 92 (.inr (.int, .inl [3, 0, 0, 0, 0, 0, 0, 0, 0, 0, 0, 0, 0, 0, 0, 0, 0, 0, 0, 0, 0, 0, 0, 0, 0, 0, 0, 0, 0, 0, 0, 0, 0, 0, 0, 0, 0, 0, 0, 0]))).set 93 (.inr (.int, .inl [a3, 0, 0, 0, 0, 0, 0, 0, 0, 0, 0, 0, 0, 0, 0, 0, 0, 0, 0, 0, 0, 0, 0, 0, 0, 0, 0, 0, 0, 0, 0, 0, 0, 0, 0, 0, 0, 0, 0, 0]))).set 89 (.inl (1, [.ref 90, .ref 91, .ref 92, .ref 93, .int 0, .int 1]))).set 89 (.inl (1, [.ref 90, .ref 91, .ref 92, .ref 93, .int 1, .int 1]))) none ((((((((mi_G.set 1 (.inl (4, [.int 0, .ref 2, .ref 3, .ref 4, .ref 5, .ref 6, .int a3, .int 1, .int 0, .int 0, .ref 7, .ref 10, .ref 14, .ref 15, .int 8, .int 0, .int 0, .ref 24]))).set 90 (.inr (.int, .inl (List.replicate 40 0)))).set 91 (.inr (.int, .inl [4, 0, 0, 0, 0, 0, 0, 0, 0, 0, 0, 0, 0, 0, 0, 0, 0, 0, 0, 0, 0, 0, 0, 0, 0, 0, 0, 0, 0, 0, 0, 0, 0, 0, 0, 0, 0, 0, 0, 0]))).set 92 (.inr (.int, .inl [3, 0, 0, 0, 0, 0, 0, 0, 0, 0, 0, 0, 0, 0, 0, 0, 0, 0, 0, 0, 0, 0, 0, 0, 0, 0, 0, 0, 0, 0, 0, 0, 0, 0, 0, 0, 0, 0, 0, 0]))).set 93 (.inr (.int, .inl [a3, 0, 0, 0, 0, 0, 0, 0, 0, 0, 0, 0, 0, 0, 0, 0, 0, 0, 0, 0, 0, 0, 0, 0, 0, 0, 0, 0, 0, 0, 0, 0, 0, 0, 0, 0, 0, 0, 0, 0]))).set 89 (.inl (1, [.ref 90, .ref 91, .ref 92, .ref 93, .int 0, .int 1]))).set 89 (.inl (1, [.ref 90, .ref 91, .ref 92, .ref 93, .int 1, .int 1]))).set 116 (.inl (9, [.int 0, .ref 117, .int a3, .int 1, .ref 118, .int 0, .ref 119, .int 0, .int 0, .ref 120, .ref 121, .ref 122, .ref 123, .int 0, .int 0, .int 0, .int 0, .ref 124, .ref 125, .ref 126, .ref 127, .ref 128, .ref 129, .ref 130, .int 0, .int 0, .ref 131, .ref 132, .int 0, .int 0, .ref 133, .int 0, .ref 134, .int 0, .ref 135, .ref 136, .ref 137, .ref 138, .ref 139, .ref 140, .int 0, .int 0, .int 0, .int 0, .ref 141, .int 0, .ref 142, .ref 143, .ref 144, .ref 145, .ref 146, .ref 147, .int 0, .ref 148]))) := by
      refine mi_met_of (y := 141) (q := (mi_h141, mi_c141)) rfl (by decide) (Nat.le_of_ble_eq_true rfl) ?_
      refine mi_sem_steps mi_in141 (mi_calok_none _ _) 6 _ (96, [(0, .ref 116), (1, .int 0), (2, .int 4), (3, .int a3)], [], (0, 0), ((((((((mi_G.set 1 (.inl (4, [.int 0, .ref 2, .ref 3, .ref 4, .ref 5, .ref 6, .int a3, .int 1, .int 0, .int 0, .ref 7, .ref 10, .ref 14, .ref 15, .int 8, .int 0, .int 0, .ref 24]))).set 90 (.inr (.int, .inl (List.replicate 40 0)))).set 91 (.inr (.int, .inl [4, 0, 0, 0, 0, 0, 0, 0, 0, 0, 0, 0, 0, 0, 0, 0, 0, 0, 0, 0, 0, 0, 0, 0, 0, 0, 0, 0, 0, 0, 0, 0, 0, 0, 0, 0, 0, 0, 0, 0]))).set 92 (.inr (.int, .inl [3, 0, 0, 0, 0, 0, 0, 0, 0, 0, 0, 0, 0, 0, 0, 0, 0, 0, 0, 0, 0, 0, 0, 0, 0, 0, 0, 0, 0, 0, 0, 0, 0, 0, 0, 0, 0, 0, 0, 0]))).set 93 (.inr (.int, .inl [a3, 0, 0, 0, 0, 0, 0, 0, 0, 0, 0, 0, 0, 0, 0, 0, 0, 0, 0, 0, 0, 0, 0, 0, 0, 0, 0, 0, 0, 0, 0, 0, 0, 0, 0, 0, 0, 0, 0, 0]))).set 89 (.inl (1, [.ref 90, .ref 91, .ref 92, .ref 93, .int 0, .int 1]))).set 89 (.inl (1, [.ref 90, .ref 91, .ref 92, .ref 93, .int 1, .int 1]))).set 116 (.inl (9, [.int 0, .ref 117, .int a3, .int 1, .ref 118, .int 0, .ref 119, .int 0, .int 0, .ref 120, .ref 121, .ref 122, .ref 123, .int 0, .int 0, .int 0, .int 0, .ref 124, .ref 125, .ref 126, .ref 127, .ref 128, .ref 129, .ref 130, .int 0, .int 0, .ref 131, .ref 132, .int 0, .int 0, .ref 133, .int 0, .ref 134, .int 0, .ref 135, .ref 136, .ref 137, .ref 138, .ref 139, .ref 140, .int 0, .int 0, .int 0, .int 0, .ref 141, .int 0, .ref 142, .ref 143, .ref 144, .ref 145, .ref 146, .ref 147, .int 0, .ref 148])))) (by rfl) ?_
      exact mi_sem_ret (cal := fun _ _ _ => none) mi_in141 (by rfl)
    refine mi_sem_call mi_in142 (i := (.invokevirtual 150, 3, 141, 0, 9, 0, 390)) (by rfl) (by rfl) hM180 (by decide) ⟨Nat.le_of_ble_eq_true rfl, Nat.le_of_ble_eq_true rfl⟩ ?_
    refine mi_sem_steps mi_in142 (mi_calok_none _ _) 53 _ (170, [(4, .int 3), (0, .ref 116), (1, .int 0), (2, .int 4), (3, .int a3)], [.int 3], (0, 0), ((((((((((((((mi_G.set 1 (.inl (4, [.int 0, .ref 2, .ref 3, .ref 4, .ref 5, .ref 6, .int a3, .int 1, .int 0, .int 0, .ref 7, .ref 10, .ref 14, .ref 15, .int 8, .int 0, .int 0, .ref 24]))).set 90 (.inr (.int, .inl (List.replicate 40 0)))).set 91 (.inr (.int, .inl [4, 0, 0, 0, 0, 0, 0, 0, 0, 0, 0, 0, 0, 0, 0, 0, 0, 0, 0, 0, 0, 0, 0, 0, 0, 0, 0, 0, 0, 0, 0, 0, 0, 0, 0, 0, 0, 0, 0, 0]))).set 92 (.inr (.int, .inl [3, 0, 0, 0, 0, 0, 0, 0, 0, 0, 0, 0, 0, 0, 0, 0, 0, 0, 0, 0, 0, 0, 0, 0, 0, 0, 0, 0, 0, 0, 0, 0, 0, 0, 0, 0, 0, 0, 0, 0]))).set 93 (.inr (.int, .inl [a3, 0, 0, 0, 0, 0, 0, 0, 0, 0, 0, 0, 0, 0, 0, 0, 0, 0, 0, 0, 0, 0, 0, 0, 0, 0, 0, 0, 0, 0, 0, 0, 0, 0, 0, 0, 0, 0, 0, 0]))).set 89 (.inl (1, [.ref 90, .ref 91, .ref 92, .ref 93, .int 0, .int 1]))).set 89 (.inl (1, [.ref 90, .ref 91, .ref 92, .ref 93, .int 1, .int 1]))).set 116 (.inl (9, [.int 0, .ref 117, .int a3, .int 1, .ref 118, .int 0, .ref 119, .int 0, .int 0, .ref 120, .ref 121, .ref 122, .ref 123, .int 0, .int 0, .int 0, .int 0, .ref 124, .ref 125, .ref 126, .ref 127, .ref 128, .ref 129, .ref 130, .int 0, .int 0, .ref 131, .ref 132, .int 0, .int 0, .ref 133, .int 0, .ref 134, .int 0, .ref 135, .ref 136, .ref 137, .ref 138, .ref 139, .ref 140, .int 0, .int 0, .int 0, .int 0, .ref 141, .int 0, .ref 142, .ref 143, .ref 144, .ref 145, .ref 146, .ref 147, .int 0, .ref 148]))).set 133 (.inr (.int, .inl (List.replicate 160 0)))).set 133 (.inr (.int, .inl [0, 4, 0, 0, 0, 0, 0, 0, 0, 0, 0, 0, 0, 0, 0, 0, 0, 0, 0, 0, 0, 0, 0, 0, 0, 0, 0, 0, 0, 0, 0, 0, 0, 0, 0, 0, 0, 0, 0, 0, 0, 0, 0, 0, 0, 0, 0, 0, 0, 0, 0, 0, 0, 0, 0, 0, 0, 0, 0, 0, 0, 0, 0, 0, 0, 0, 0, 0, 0, 0, 0, 0, 0, 0, 0, 0, 0, 0, 0, 0, 0, 0, 0, 0, 0, 0, 0, 0, 0, 0, 0, 0, 0, 0, 0, 0, 0, 0, 0, 0, 0, 0, 0, 0, 0, 0, 0, 0, 0, 0, 0, 0, 0, 0, 0, 0, 0, 0, 0, 0, 0, 0, 0, 0, 0, 0, 0, 0, 0, 0, 0, 0, 0, 0, 0, 0, 0, 0, 0, 0, 0, 0, 0, 0, 0, 0, 0, 0, 0, 0, 0, 0, 0, 0, 0, 0, 0, 0, 0, 0]))).set 133 (.inr (.int, .inl [0, 4, 3, 0, 0, 0, 0, 0, 0, 0, 0, 0, 0, 0, 0, 0, 0, 0, 0, 0, 0, 0, 0, 0, 0, 0, 0, 0, 0, 0, 0, 0, 0, 0, 0, 0, 0, 0, 0, 0, 0, 0, 0, 0, 0, 0, 0, 0, 0, 0, 0, 0, 0, 0, 0, 0, 0, 0, 0, 0, 0, 0, 0, 0, 0, 0, 0, 0, 0, 0, 0, 0, 0, 0, 0, 0, 0, 0, 0, 0, 0, 0, 0, 0, 0, 0, 0, 0, 0, 0, 0, 0, 0, 0, 0, 0, 0, 0, 0, 0, 0, 0, 0, 0, 0, 0, 0, 0, 0, 0, 0, 0, 0, 0, 0, 0, 0, 0, 0, 0, 0, 0, 0, 0, 0, 0, 0, 0, 0, 0, 0, 0, 0, 0, 0, 0, 0, 0, 0, 0, 0, 0, 0, 0, 0, 0, 0, 0, 0, 0, 0, 0, 0, 0, 0, 0, 0, 0, 0, 0]))).set 133 (.inr (.int, .inl [0, 4, 3, a3, 0, 0, 0, 0, 0, 0, 0, 0, 0, 0, 0, 0, 0, 0, 0, 0, 0, 0, 0, 0, 0, 0, 0, 0, 0, 0, 0, 0, 0, 0, 0, 0, 0, 0, 0, 0, 0, 0, 0, 0, 0, 0, 0, 0, 0, 0, 0, 0, 0, 0, 0, 0, 0, 0, 0, 0, 0, 0, 0, 0, 0, 0, 0, 0, 0, 0, 0, 0, 0, 0, 0, 0, 0, 0, 0, 0, 0, 0, 0, 0, 0, 0, 0, 0, 0, 0, 0, 0, 0, 0, 0, 0, 0, 0, 0, 0, 0, 0, 0, 0, 0, 0, 0, 0, 0, 0, 0, 0, 0, 0, 0, 0, 0, 0, 0, 0, 0, 0, 0, 0, 0, 0, 0, 0, 0, 0, 0, 0, 0, 0, 0, 0, 0, 0, 0, 0, 0, 0, 0, 0, 0, 0, 0, 0, 0, 0, 0, 0, 0, 0, 0, 0, 0, 0, 0, 0]))).set 116 (.inl (9, [.int 0, .ref 117, .int a3, .int 1, .ref 118, .int 0, .ref 119, .int 0, .int 0, .ref 120, .ref 121, .ref 122, .ref 123, .int 0, .int 0, .int 0, .int 0, .ref 124, .ref 125, .ref 126, .ref 127, .ref 128, .ref 129, .ref 130, .int 0, .int 0, .ref 131, .ref 132, .int 0, .int 1, .ref 133, .int 0, .ref 134, .int 0, .ref 135, .ref 136, .ref 137, .ref 138, .ref 139, .ref 140, .int 0, .int 0, .int 0, .int 0, .ref 141, .int 0, .ref 142, .ref 143, .ref 144, .ref 145, .ref 146, .ref 147, .int 0, .ref 148]))).set 116 (.inl (9, [.int 0, .ref 117, .int a3, .int 1, .ref 118, .int 0, .ref 119, .int 0, .int 0, .ref 120, .ref 121, .ref 122, .ref 123, .int 0, .int 0, .int 0, .int 0, .ref 124, .ref 125, .ref 126, .ref 127, .ref 128, .ref 129, .ref 130, .int 0, .int 0, .ref 131, .ref 132, .int 1, .int 1, .ref 133, .int 0, .ref 134, .int 0, .ref 135, .ref 136, .ref 137, .ref 138, .ref 139, .ref 140, .int 0, .int 0, .int 0, .int 0, .ref 141, .int 0, .ref 142, .ref 143, .ref 144, .ref 145, .ref 146, .ref 147, .int 0, .ref 148])))) (by rfl) ?_
    exact mi_sem_ret (cal := fun _ _ _ => none) mi_in142 (by rfl)

set_option maxRecDepth 100000 in
set_option maxHeartbeats 4000000 in
theorem mp_mend_8 (a3 : Int32) (r0 : 6 ≤ (a3).toInt ∧ (a3).toInt ≤ 2147483647) : mi_P 83 142 [.int 0, .int 4, .int a3] := by
  refine ⟨.int (-1), mi_G, mi_G, (mi_h83, mi_c83), (mi_h142, mi_c142), 3, 3, rfl, rfl, rfl, by decide, by decide, ?_, ?_⟩
  · refine mi_met_of (y := 83) (q := (mi_h83, mi_c83)) rfl (by decide) (Nat.le_of_ble_eq_true rfl) ?_
    refine mi_sem_steps mi_in83 (mi_calok_none _ _) 3 _ (3, [(0, .ref 0), (1, .int 0), (2, .int 4), (3, .int a3)], [.int 4, .int 0, .ref 0], (0, 0), mi_G) (by rfl) ?_
    have hM181 : mi_Met mi_N0 1 mi_h125 [.ref 0, .int 0, .int 4] mi_G (some (.int 1)) mi_G := mi_fun_ok mi_N0 1 125 (mi_h125, mi_c125) _ _ _ _ rfl (mi_eR_ok (by decide +kernel))
    refine mi_sem_call mi_in83 (i := (.invokevirtual 95, 3, 125, 0, 9, 0, 161)) (by rfl) (by rfl) hM181 (by decide) ⟨Nat.le_of_ble_eq_true rfl, Nat.le_of_ble_eq_true rfl⟩ ?_
    refine mi_sem_steps mi_in83 (mi_calok_none _ _) 3 _ (11, [(0, .ref 0), (1, .int 0), (2, .int 4), (3, .int a3)], [.int a3, .int 4], (0, 0), mi_G) (by rfl) ?_
    have hM184 : mi_Met mi_N0 2 mi_h126 [.int 4, .int a3] mi_G (some (.int 0)) mi_G := by
      refine mi_met_of (y := 126) (q := (mi_h126, mi_c126)) rfl (by decide) (Nat.le_of_ble_eq_true rfl) ?_
      refine mi_sem_steps mi_in126 (mi_calok_none _ _) 3 _ (4, [(0, .int 4), (1, .int a3)], [.int 6, .int 0, .int 4], (0, 0), mi_G) (by rfl) ?_
      have hM182 : mi_Met mi_N0 1 mi_h120 [.int 4, .int 0, .int 6] mi_G (some (.int 1)) mi_G := mi_fun_ok mi_N0 1 120 (mi_h120, mi_c120) _ _ _ _ rfl (mi_eR_ok (by decide +kernel))
      refine mi_sem_call mi_in126 (i := (.invokestatic 74, 3, 120, 0, 9, 0, 152)) (by rfl) (by rfl) hM182 (by decide) ⟨Nat.le_of_ble_eq_true rfl, Nat.le_of_ble_eq_true rfl⟩ ?_
      refine mi_sem_steps mi_in126 (mi_calok_none _ _) 8 _ (21, [(0, .int 4), (1, .int a3)], [.int 5, .int 1, .int a3], (0, 0), mi_G) (by rfl) ?_
      have hM183 : mi_Met mi_N0 1 mi_h120 [.int a3, .int 1, .int 5] mi_G (some (.int 0)) mi_G := by
        refine mi_met_of (y := 120) (q := (mi_h120, mi_c120)) rfl (by decide) (Nat.le_of_ble_eq_true rfl) ?_
        refine mi_sem_steps mi_in120 (mi_calok_none _ _) 2 _ (2, [(0, .int a3), (1, .int 1), (2, .int 5)], [.int 1, .int a3], (0, 0), mi_G) (by rfl) ?_
        refine mi_sem_b mi_in120 (decide (a3 < 1)) false (mi_ltF (1) (by decide) (by omega)) 14 5 ([(0, .int a3), (1, .int 1), (2, .int 5)], [], (0, 0), mi_G) (by rfl) ?_
        refine mi_sem_steps mi_in120 (mi_calok_none _ _) 2 _ (7, [(0, .int a3), (1, .int 1), (2, .int 5)], [.int 5, .int a3], (0, 0), mi_G) (by rfl) ?_
        refine mi_sem_b mi_in120 (decide (5 < a3)) true (mi_ltT2 (5) (by decide) (by omega)) 14 10 ([(0, .int a3), (1, .int 1), (2, .int 5)], [], (0, 0), mi_G) (by rfl) ?_
        refine mi_sem_steps mi_in120 (mi_calok_none _ _) 1 _ (15, [(0, .int a3), (1, .int 1), (2, .int 5)], [.int 0], (0, 0), mi_G) (by rfl) ?_
        exact mi_sem_ret (cal := fun _ _ _ => none) mi_in120 (by rfl)
      refine mi_sem_call mi_in126 (i := (.invokestatic 74, 3, 120, 0, 9, 0, 152)) (by rfl) (by rfl) hM183 (by decide) ⟨Nat.le_of_ble_eq_true rfl, Nat.le_of_ble_eq_true rfl⟩ ?_
      refine mi_sem_steps mi_in126 (mi_calok_none _ _) 2 _ (32, [(0, .int 4), (1, .int a3)], [.int 0], (0, 0), mi_G) (by rfl) ?_
      exact mi_sem_ret (cal := fun _ _ _ => none) mi_in126 (by rfl)
    refine mi_sem_call mi_in83 (i := (.invokestatic 58, 3, 126, 0, 9, 0, 151)) (by rfl) (by rfl) hM184 (by decide) ⟨Nat.le_of_ble_eq_true rfl, Nat.le_of_ble_eq_true rfl⟩ ?_
    refine mi_sem_steps mi_in83 (mi_calok_none _ _) 2 _ (18, [(0, .ref 0), (1, .int 0), (2, .int 4), (3, .int a3)], [.int (-1)], (0, 0), mi_G) (by rfl) ?_
    exact mi_sem_ret (cal := fun _ _ _ => none) mi_in83 (by rfl)
  · refine mi_met_of (y := 142) (q := (mi_h142, mi_c142)) rfl (by decide) (Nat.le_of_ble_eq_true rfl) ?_
    refine mi_sem_steps mi_in142 (mi_calok_none _ _) 3 _ (3, [(0, .ref 116), (1, .int 0), (2, .int 4), (3, .int a3)], [.int 4, .int 0, .ref 116], (0, 0), mi_G) (by rfl) ?_
    have hM185 : mi_Met mi_N0 2 mi_h138 [.ref 116, .int 0, .int 4] mi_G (some (.int 1)) mi_G := mi_fun_ok mi_N0 2 138 (mi_h138, mi_c138) _ _ _ _ rfl (mi_eR_ok (by decide +kernel))
    refine mi_sem_call mi_in142 (i := (.invokevirtual 140, 3, 138, 0, 9, 0, 386)) (by rfl) (by rfl) hM185 (by decide) ⟨Nat.le_of_ble_eq_true rfl, Nat.le_of_ble_eq_true rfl⟩ ?_
    refine mi_sem_steps mi_in142 (mi_calok_none _ _) 3 _ (11, [(0, .ref 116), (1, .int 0), (2, .int 4), (3, .int a3)], [.int a3, .int 4], (0, 0), mi_G) (by rfl) ?_
    have hM187 : mi_Met mi_N0 2 mi_h139 [.int 4, .int a3] mi_G (some (.int 0)) mi_G := by
      refine mi_met_of (y := 139) (q := (mi_h139, mi_c139)) rfl (by decide) (Nat.le_of_ble_eq_true rfl) ?_
      refine mi_sem_steps mi_in139 (mi_calok_none _ _) 5 _ (64, [(0, .int 4), (1, .int a3)], [.int 5, .int 1, .int a3], (0, 0), mi_G) (by rfl) ?_
      have hM186 : mi_Met mi_N0 1 mi_h131 [.int a3, .int 1, .int 5] mi_G (some (.int 0)) mi_G := by
        refine mi_met_of (y := 131) (q := (mi_h131, mi_c131)) rfl (by decide) (Nat.le_of_ble_eq_true rfl) ?_
        refine mi_sem_steps mi_in131 (mi_calok_none _ _) 2 _ (2, [(0, .int a3), (1, .int 1), (2, .int 5)], [.int 1, .int a3], (0, 0), mi_G) (by rfl) ?_
        refine mi_sem_b mi_in131 (decide (a3 < 1)) false (mi_ltF (1) (by decide) (by omega)) 14 5 ([(0, .int a3), (1, .int 1), (2, .int 5)], [], (0, 0), mi_G) (by rfl) ?_
        refine mi_sem_steps mi_in131 (mi_calok_none _ _) 2 _ (7, [(0, .int a3), (1, .int 1), (2, .int 5)], [.int 5, .int a3], (0, 0), mi_G) (by rfl) ?_
        refine mi_sem_b mi_in131 (decide (5 < a3)) true (mi_ltT2 (5) (by decide) (by omega)) 14 10 ([(0, .int a3), (1, .int 1), (2, .int 5)], [], (0, 0), mi_G) (by rfl) ?_
        refine mi_sem_steps mi_in131 (mi_calok_none _ _) 1 _ (15, [(0, .int a3), (1, .int 1), (2, .int 5)], [.int 0], (0, 0), mi_G) (by rfl) ?_
        exact mi_sem_ret (cal := fun _ _ _ => none) mi_in131 (by rfl)
      refine mi_sem_call mi_in139 (i := (.invokestatic 119, 3, 131, 0, 9, 0, 379)) (by rfl) (by rfl) hM186 (by decide) ⟨Nat.le_of_ble_eq_true rfl, Nat.le_of_ble_eq_true rfl⟩ ?_
      exact mi_sem_ret (cal := fun _ _ _ => none) mi_in139 (by rfl)
    refine mi_sem_call mi_in142 (i := (.invokestatic 144, 3, 139, 0, 9, 0, 388)) (by rfl) (by rfl) hM187 (by decide) ⟨Nat.le_of_ble_eq_true rfl, Nat.le_of_ble_eq_true rfl⟩ ?_
    refine mi_sem_steps mi_in142 (mi_calok_none _ _) 2 _ (18, [(0, .ref 116), (1, .int 0), (2, .int 4), (3, .int a3)], [.int (-1)], (0, 0), mi_G) (by rfl) ?_
    exact mi_sem_ret (cal := fun _ _ _ => none) mi_in142 (by rfl)

set_option maxRecDepth 100000 in
set_option maxHeartbeats 4000000 in
theorem mp_mend_9 (a3 : Int32) (r0 : (-2147483648) ≤ (a3).toInt ∧ (a3).toInt ≤ (-1)) : mi_P 83 142 [.int 0, .int 5, .int a3] := by
  refine ⟨.int (-1), mi_G, mi_G, (mi_h83, mi_c83), (mi_h142, mi_c142), 3, 3, rfl, rfl, rfl, by decide, by decide, ?_, ?_⟩
  · refine mi_met_of (y := 83) (q := (mi_h83, mi_c83)) rfl (by decide) (Nat.le_of_ble_eq_true rfl) ?_
    refine mi_sem_steps mi_in83 (mi_calok_none _ _) 3 _ (3, [(0, .ref 0), (1, .int 0), (2, .int 5), (3, .int a3)], [.int 5, .int 0, .ref 0], (0, 0), mi_G) (by rfl) ?_
    have hM192 : mi_Met mi_N0 1 mi_h125 [.ref 0, .int 0, .int 5] mi_G (some (.int 1)) mi_G := mi_fun_ok mi_N0 1 125 (mi_h125, mi_c125) _ _ _ _ rfl (mi_eR_ok (by decide +kernel))
    refine mi_sem_call mi_in83 (i := (.invokevirtual 95, 3, 125, 0, 9, 0, 161)) (by rfl) (by rfl) hM192 (by decide) ⟨Nat.le_of_ble_eq_true rfl, Nat.le_of_ble_eq_true rfl⟩ ?_
    refine mi_sem_steps mi_in83 (mi_calok_none _ _) 3 _ (11, [(0, .ref 0), (1, .int 0), (2, .int 5), (3, .int a3)], [.int a3, .int 5], (0, 0), mi_G) (by rfl) ?_
    have hM195 : mi_Met mi_N0 2 mi_h126 [.int 5, .int a3] mi_G (some (.int 0)) mi_G := by
      refine mi_met_of (y := 126) (q := (mi_h126, mi_c126)) rfl (by decide) (Nat.le_of_ble_eq_true rfl) ?_
      refine mi_sem_steps mi_in126 (mi_calok_none _ _) 3 _ (4, [(0, .int 5), (1, .int a3)], [.int 6, .int 0, .int 5], (0, 0), mi_G) (by rfl) ?_
      have hM193 : mi_Met mi_N0 1 mi_h120 [.int 5, .int 0, .int 6] mi_G (some (.int 1)) mi_G := mi_fun_ok mi_N0 1 120 (mi_h120, mi_c120) _ _ _ _ rfl (mi_eR_ok (by decide +kernel))
      refine mi_sem_call mi_in126 (i := (.invokestatic 74, 3, 120, 0, 9, 0, 152)) (by rfl) (by rfl) hM193 (by decide) ⟨Nat.le_of_ble_eq_true rfl, Nat.le_of_ble_eq_true rfl⟩ ?_
      refine mi_sem_steps mi_in126 (mi_calok_none _ _) 8 _ (21, [(0, .int 5), (1, .int a3)], [.int 1, .int 0, .int a3], (0, 0), mi_G) (by rfl) ?_
      have hM194 : mi_Met mi_N0 1 mi_h120 [.int a3, .int 0, .int 1] mi_G (some (.int 0)) mi_G := by
        refine mi_met_of (y := 120) (q := (mi_h120, mi_c120)) rfl (by decide) (Nat.le_of_ble_eq_true rfl) ?_
        refine mi_sem_steps mi_in120 (mi_calok_none _ _) 2 _ (2, [(0, .int a3), (1, .int 0), (2, .int 1)], [.int 0, .int a3], (0, 0), mi_G) (by rfl) ?_
        refine mi_sem_b mi_in120 (decide (a3 < 0)) true (mi_ltT (0) (by decide) (by omega)) 14 5 ([(0, .int a3), (1, .int 0), (2, .int 1)], [], (0, 0), mi_G) (by rfl) ?_
        refine mi_sem_steps mi_in120 (mi_calok_none _ _) 1 _ (15, [(0, .int a3), (1, .int 0), (2, .int 1)], [.int 0], (0, 0), mi_G) (by rfl) ?_
        exact mi_sem_ret (cal := fun _ _ _ => none) mi_in120 (by rfl)
      refine mi_sem_call mi_in126 (i := (.invokestatic 74, 3, 120, 0, 9, 0, 152)) (by rfl) (by rfl) hM194 (by decide) ⟨Nat.le_of_ble_eq_true rfl, Nat.le_of_ble_eq_true rfl⟩ ?_
      refine mi_sem_steps mi_in126 (mi_calok_none _ _) 2 _ (32, [(0, .int 5), (1, .int a3)], [.int 0], (0, 0), mi_G) (by rfl) ?_
      exact mi_sem_ret (cal := fun _ _ _ => none) mi_in126 (by rfl)
    refine mi_sem_call mi_in83 (i := (.invokestatic 58, 3, 126, 0, 9, 0, 151)) (by rfl) (by rfl) hM195 (by decide) ⟨Nat.le_of_ble_eq_true rfl, Nat.le_of_ble_eq_true rfl⟩ ?_
    refine mi_sem_steps mi_in83 (mi_calok_none _ _) 2 _ (18, [(0, .ref 0), (1, .int 0), (2, .int 5), (3, .int a3)], [.int (-1)], (0, 0), mi_G) (by rfl) ?_
    exact mi_sem_ret (cal := fun _ _ _ => none) mi_in83 (by rfl)
  · refine mi_met_of (y := 142) (q := (mi_h142, mi_c142)) rfl (by decide) (Nat.le_of_ble_eq_true rfl) ?_
    refine mi_sem_steps mi_in142 (mi_calok_none _ _) 3 _ (3, [(0, .ref 116), (1, .int 0), (2, .int 5), (3, .int a3)], [.int 5, .int 0, .ref 116], (0, 0), mi_G) (by rfl) ?_
    have hM196 : mi_Met mi_N0 2 mi_h138 [.ref 116, .int 0, .int 5] mi_G (some (.int 1)) mi_G := mi_fun_ok mi_N0 2 138 (mi_h138, mi_c138) _ _ _ _ rfl (mi_eR_ok (by decide +kernel))
    refine mi_sem_call mi_in142 (i := (.invokevirtual 140, 3, 138, 0, 9, 0, 386)) (by rfl) (by rfl) hM196 (by decide) ⟨Nat.le_of_ble_eq_true rfl, Nat.le_of_ble_eq_true rfl⟩ ?_
    refine mi_sem_steps mi_in142 (mi_calok_none _ _) 3 _ (11, [(0, .ref 116), (1, .int 0), (2, .int 5), (3, .int a3)], [.int a3, .int 5], (0, 0), mi_G) (by rfl) ?_
    have hM198 : mi_Met mi_N0 2 mi_h139 [.int 5, .int a3] mi_G (some (.int 0)) mi_G := by
      refine mi_met_of (y := 139) (q := (mi_h139, mi_c139)) rfl (by decide) (Nat.le_of_ble_eq_true rfl) ?_
      refine mi_sem_steps mi_in139 (mi_calok_none _ _) 5 _ (79, [(0, .int 5), (1, .int a3)], [.int 1, .int 0, .int a3], (0, 0), mi_G) (by rfl) ?_
      have hM197 : mi_Met mi_N0 1 mi_h131 [.int a3, .int 0, .int 1] mi_G (some (.int 0)) mi_G := by
        refine mi_met_of (y := 131) (q := (mi_h131, mi_c131)) rfl (by decide) (Nat.le_of_ble_eq_true rfl) ?_
        refine mi_sem_steps mi_in131 (mi_calok_none _ _) 2 _ (2, [(0, .int a3), (1, .int 0), (2, .int 1)], [.int 0, .int a3], (0, 0), mi_G) (by rfl) ?_
        refine mi_sem_b mi_in131 (decide (a3 < 0)) true (mi_ltT (0) (by decide) (by omega)) 14 5 ([(0, .int a3), (1, .int 0), (2, .int 1)], [], (0, 0), mi_G) (by rfl) ?_
        refine mi_sem_steps mi_in131 (mi_calok_none _ _) 1 _ (15, [(0, .int a3), (1, .int 0), (2, .int 1)], [.int 0], (0, 0), mi_G) (by rfl) ?_
        exact mi_sem_ret (cal := fun _ _ _ => none) mi_in131 (by rfl)
      refine mi_sem_call mi_in139 (i := (.invokestatic 119, 3, 131, 0, 9, 0, 379)) (by rfl) (by rfl) hM197 (by decide) ⟨Nat.le_of_ble_eq_true rfl, Nat.le_of_ble_eq_true rfl⟩ ?_
      exact mi_sem_ret (cal := fun _ _ _ => none) mi_in139 (by rfl)
    refine mi_sem_call mi_in142 (i := (.invokestatic 144, 3, 139, 0, 9, 0, 388)) (by rfl) (by rfl) hM198 (by decide) ⟨Nat.le_of_ble_eq_true rfl, Nat.le_of_ble_eq_true rfl⟩ ?_
    refine mi_sem_steps mi_in142 (mi_calok_none _ _) 2 _ (18, [(0, .ref 116), (1, .int 0), (2, .int 5), (3, .int a3)], [.int (-1)], (0, 0), mi_G) (by rfl) ?_
    exact mi_sem_ret (cal := fun _ _ _ => none) mi_in142 (by rfl)

set_option maxRecDepth 100000 in
set_option maxHeartbeats 4000000 in
theorem mp_mend_10   : mi_P 83 142 [.int 0, .int 5, .int 0] := by
  refine ⟨.int 1, ((((mi_G.set 1 (.inl (4, [.int 0, .ref 2, .ref 3, .ref 4, .ref 5, .ref 6, .int 3, .int 0, .int 0, .int 0, .ref 7, .ref 10, .ref 14, .ref 15, .int 8, .int 0, .int 0, .ref 24]))).set 89 (.inl (1, [.ref 90, .ref 91, .ref 92, .ref 93, .int 1, .int 1]))).set 91 (.inr (.int, .inl [5, 0, 0, 0, 0, 0, 0, 0, 0, 0, 0, 0, 0, 0, 0, 0, 0, 0, 0, 0, 0, 0, 0, 0, 0, 0, 0, 0, 0, 0, 0, 0, 0, 0, 0, 0, 0, 0, 0, 0]))).set 92 (.inr (.int, .inl [1, 0, 0, 0, 0, 0, 0, 0, 0, 0, 0, 0, 0, 0, 0, 0, 0, 0, 0, 0, 0, 0, 0, 0, 0, 0, 0, 0, 0, 0, 0, 0, 0, 0, 0, 0, 0, 0, 0, 0]))), ((((((mi_G.set 1 (.inl (4, [.int 0, .ref 2, .ref 3, .ref 4, .ref 5, .ref 6, .int 3, .int 0, .int 0, .int 0, .ref 7, .ref 10, .ref 14, .ref 15, .int 8, .int 0, .int 0, .ref 24]))).set 89 (.inl (1, [.ref 90, .ref 91, .ref 92, .ref 93, .int 1, .int 1]))).set 91 (.inr (.int, .inl [5, 0, 0, 0, 0, 0, 0, 0, 0, 0, 0, 0, 0, 0, 0, 0, 0, 0, 0, 0, 0, 0, 0, 0, 0, 0, 0, 0, 0, 0, 0, 0, 0, 0, 0, 0, 0, 0, 0, 0]))).set 92 (.inr (.int, .inl [1, 0, 0, 0, 0, 0, 0, 0, 0, 0, 0, 0, 0, 0, 0, 0, 0, 0, 0, 0, 0, 0, 0, 0, 0, 0, 0, 0, 0, 0, 0, 0, 0, 0, 0, 0, 0, 0, 0, 0]))).set 116 (.inl (9, [.int 0, .ref 117, .int 3, .int 0, .ref 118, .int 0, .ref 119, .int 0, .int 0, .ref 120, .ref 121, .ref 122, .ref 123, .int 0, .int 0, .int 0, .int 0, .ref 124, .ref 125, .ref 126, .ref 127, .ref 128, .ref 129, .ref 130, .int 0, .int 0, .ref 131, .ref 132, .int 1, .int 1, .ref 133, .int 0, .ref 134, .int 0, .ref 135, .ref 136, .ref 137, .ref 138, .ref 139, .ref 140, .int 0, .int 0, .int 0, .int 0, .ref 141, .int 0, .ref 142, .ref 143, .ref 144, .ref 145, .ref 146, .ref 147, .int 0, .ref 148]))).set 133 (.inr (.int, .inl [0, 5, 1, 0, 0, 0, 0, 0, 0, 0, 0, 0, 0, 0, 0, 0, 0, 0, 0, 0, 0, 0, 0, 0, 0, 0, 0, 0, 0, 0, 0, 0, 0, 0, 0, 0, 0, 0, 0, 0, 0, 0, 0, 0, 0, 0, 0, 0, 0, 0, 0, 0, 0, 0, 0, 0, 0, 0, 0, 0, 0, 0, 0, 0, 0, 0, 0, 0, 0, 0, 0, 0, 0, 0, 0, 0, 0, 0, 0, 0, 0, 0, 0, 0, 0, 0, 0, 0, 0, 0, 0, 0, 0, 0, 0, 0, 0, 0, 0, 0, 0, 0, 0, 0, 0, 0, 0, 0, 0, 0, 0, 0, 0, 0, 0, 0, 0, 0, 0, 0, 0, 0, 0, 0, 0, 0, 0, 0, 0, 0, 0, 0, 0, 0, 0, 0, 0, 0, 0, 0, 0, 0, 0, 0, 0, 0, 0, 0, 0, 0, 0, 0, 0, 0, 0, 0, 0, 0, 0, 0]))), (mi_h83, mi_c83), (mi_h142, mi_c142), 3, 3, rfl, rfl, rfl, by decide, by decide, ?_, ?_⟩
  · exact mi_fun_ok mi_N0 3 83 (mi_h83, mi_c83) _ _ _ _ rfl (mi_eR_ok (by decide +kernel))
  · exact mi_fun_ok mi_N0 3 142 (mi_h142, mi_c142) _ _ _ _ rfl (mi_eR_ok (by decide +kernel))

set_option maxRecDepth 100000 in
set_option maxHeartbeats 4000000 in
theorem mp_mend_11   : mi_P 83 142 [.int 0, .int 5, .int 1] := by
  refine ⟨.int 1, mi_G, mi_G, (mi_h83, mi_c83), (mi_h142, mi_c142), 3, 3, rfl, rfl, rfl, by decide, by decide, ?_, ?_⟩
  · exact mi_fun_ok mi_N0 3 83 (mi_h83, mi_c83) _ _ _ _ rfl (mi_eR_ok (by decide +kernel))
  · exact mi_fun_ok mi_N0 3 142 (mi_h142, mi_c142) _ _ _ _ rfl (mi_eR_ok (by decide +kernel))

set_option maxRecDepth 100000 in
set_option maxHeartbeats 4000000 in
theorem mp_mend_12 (a3 : Int32) (r0 : 2 ≤ (a3).toInt ∧ (a3).toInt ≤ 2147483647) : mi_P 83 142 [.int 0, .int 5, .int a3] := by
  refine ⟨.int (-1), mi_G, mi_G, (mi_h83, mi_c83), (mi_h142, mi_c142), 3, 3, rfl, rfl, rfl, by decide, by decide, ?_, ?_⟩
  · refine mi_met_of (y := 83) (q := (mi_h83, mi_c83)) rfl (by decide) (Nat.le_of_ble_eq_true rfl) ?_
    refine mi_sem_steps mi_in83 (mi_calok_none _ _) 3 _ (3, [(0, .ref 0), (1, .int 0), (2, .int 5), (3, .int a3)], [.int 5, .int 0, .ref 0], (0, 0), mi_G) (by rfl) ?_
    have hM206 : mi_Met mi_N0 1 mi_h125 [.ref 0, .int 0, .int 5] mi_G (some (.int 1)) mi_G := mi_fun_ok mi_N0 1 125 (mi_h125, mi_c125) _ _ _ _ rfl (mi_eR_ok (by decide +kernel))
    refine mi_sem_call mi_in83 (i := (.invokevirtual 95, 3, 125, 0, 9, 0, 161)) (by rfl) (by rfl) hM206 (by decide) ⟨Nat.le_of_ble_eq_true rfl, Nat.le_of_ble_eq_true rfl⟩ ?_
    refine mi_sem_steps mi_in83 (mi_calok_none _ _) 3 _ (11, [(0, .ref 0), (1, .int 0), (2, .int 5), (3, .int a3)], [.int a3, .int 5], (0, 0), mi_G) (by rfl) ?_
    have hM209 : mi_Met mi_N0 2 mi_h126 [.int 5, .int a3] mi_G (some (.int 0)) mi_G := by
      refine mi_met_of (y := 126) (q := (mi_h126, mi_c126)) rfl (by decide) (Nat.le_of_ble_eq_true rfl) ?_
      refine mi_sem_steps mi_in126 (mi_calok_none _ _) 3 _ (4, [(0, .int 5), (1, .int a3)], [.int 6, .int 0, .int 5], (0, 0), mi_G) (by rfl) ?_
      have hM207 : mi_Met mi_N0 1 mi_h120 [.int 5, .int 0, .int 6] mi_G (some (.int 1)) mi_G := mi_fun_ok mi_N0 1 120 (mi_h120, mi_c120) _ _ _ _ rfl (mi_eR_ok (by decide +kernel))
      refine mi_sem_call mi_in126 (i := (.invokestatic 74, 3, 120, 0, 9, 0, 152)) (by rfl) (by rfl) hM207 (by decide) ⟨Nat.le_of_ble_eq_true rfl, Nat.le_of_ble_eq_true rfl⟩ ?_
      refine mi_sem_steps mi_in126 (mi_calok_none _ _) 8 _ (21, [(0, .int 5), (1, .int a3)], [.int 1, .int 0, .int a3], (0, 0), mi_G) (by rfl) ?_
      have hM208 : mi_Met mi_N0 1 mi_h120 [.int a3, .int 0, .int 1] mi_G (some (.int 0)) mi_G := by
        refine mi_met_of (y := 120) (q := (mi_h120, mi_c120)) rfl (by decide) (Nat.le_of_ble_eq_true rfl) ?_
        refine mi_sem_steps mi_in120 (mi_calok_none _ _) 2 _ (2, [(0, .int a3), (1, .int 0), (2, .int 1)], [.int 0, .int a3], (0, 0), mi_G) (by rfl) ?_
        refine mi_sem_b mi_in120 (decide (a3 < 0)) false (mi_ltF (0) (by decide) (by omega)) 14 5 ([(0, .int a3), (1, .int 0), (2, .int 1)], [], (0, 0), mi_G) (by rfl) ?_
        refine mi_sem_steps mi_in120 (mi_calok_none _ _) 2 _ (7, [(0, .int a3), (1, .int 0), (2, .int 1)], [.int 1, .int a3], (0, 0), mi_G) (by rfl) ?_
        refine mi_sem_b mi_in120 (decide (1 < a3)) true (mi_ltT2 (1) (by decide) (by omega)) 14 10 ([(0, .int a3), (1, .int 0), (2, .int 1)], [], (0, 0), mi_G) (by rfl) ?_
        refine mi_sem_steps mi_in120 (mi_calok_none _ _) 1 _ (15, [(0, .int a3), (1, .int 0), (2, .int 1)], [.int 0], (0, 0), mi_G) (by rfl) ?_
        exact mi_sem_ret (cal := fun _ _ _ => none) mi_in120 (by rfl)
      refine mi_sem_call mi_in126 (i := (.invokestatic 74, 3, 120, 0, 9, 0, 152)) (by rfl) (by rfl) hM208 (by decide) ⟨Nat.le_of_ble_eq_true rfl, Nat.le_of_ble_eq_true rfl⟩ ?_
      refine mi_sem_steps mi_in126 (mi_calok_none _ _) 2 _ (32, [(0, .int 5), (1, .int a3)], [.int 0], (0, 0), mi_G) (by rfl) ?_
      exact mi_sem_ret (cal := fun _ _ _ => none) mi_in126 (by rfl)
    refine mi_sem_call mi_in83 (i := (.invokestatic 58, 3, 126, 0, 9, 0, 151)) (by rfl) (by rfl) hM209 (by decide) ⟨Nat.le_of_ble_eq_true rfl, Nat.le_of_ble_eq_true rfl⟩ ?_
    refine mi_sem_steps mi_in83 (mi_calok_none _ _) 2 _ (18, [(0, .ref 0), (1, .int 0), (2, .int 5), (3, .int a3)], [.int (-1)], (0, 0), mi_G) (by rfl) ?_
    exact mi_sem_ret (cal := fun _ _ _ => none) mi_in83 (by rfl)
  · refine mi_met_of (y := 142) (q := (mi_h142, mi_c142)) rfl (by decide) (Nat.le_of_ble_eq_true rfl) ?_
    refine mi_sem_steps mi_in142 (mi_calok_none _ _) 3 _ (3, [(0, .ref 116), (1, .int 0), (2, .int 5), (3, .int a3)], [.int 5, .int 0, .ref 116], (0, 0), mi_G) (by rfl) ?_
    have hM210 : mi_Met mi_N0 2 mi_h138 [.ref 116, .int 0, .int 5] mi_G (some (.int 1)) mi_G := mi_fun_ok mi_N0 2 138 (mi_h138, mi_c138) _ _ _ _ rfl (mi_eR_ok (by decide +kernel))
    refine mi_sem_call mi_in142 (i := (.invokevirtual 140, 3, 138, 0, 9, 0, 386)) (by rfl) (by rfl) hM210 (by decide) ⟨Nat.le_of_ble_eq_true rfl, Nat.le_of_ble_eq_true rfl⟩ ?_
    refine mi_sem_steps mi_in142 (mi_calok_none _ _) 3 _ (11, [(0, .ref 116), (1, .int 0), (2, .int 5), (3, .int a3)], [.int a3, .int 5], (0, 0), mi_G) (by rfl) ?_
    have hM212 : mi_Met mi_N0 2 mi_h139 [.int 5, .int a3] mi_G (some (.int 0)) mi_G := by
      refine mi_met_of (y := 139) (q := (mi_h139, mi_c139)) rfl (by decide) (Nat.le_of_ble_eq_true rfl) ?_
      refine mi_sem_steps mi_in139 (mi_calok_none _ _) 5 _ (79, [(0, .int 5), (1, .int a3)], [.int 1, .int 0, .int a3], (0, 0), mi_G) (by rfl) ?_
      have hM211 : mi_Met mi_N0 1 mi_h131 [.int a3, .int 0, .int 1] mi_G (some (.int 0)) mi_G := by
        refine mi_met_of (y := 131) (q := (mi_h131, mi_c131)) rfl (by decide) (Nat.le_of_ble_eq_true rfl) ?_
        refine mi_sem_steps mi_in131 (mi_calok_none _ _) 2 _ (2, [(0, .int a3), (1, .int 0), (2, .int 1)], [.int 0, .int a3], (0, 0), mi_G) (by rfl) ?_
        refine mi_sem_b mi_in131 (decide (a3 < 0)) false (mi_ltF (0) (by decide) (by omega)) 14 5 ([(0, .int a3), (1, .int 0), (2, .int 1)], [], (0, 0), mi_G) (by rfl) ?_
        refine mi_sem_steps mi_in131 (mi_calok_none _ _) 2 _ (7, [(0, .int a3), (1, .int 0), (2, .int 1)], [.int 1, .int a3], (0, 0), mi_G) (by rfl) ?_
        refine mi_sem_b mi_in131 (decide (1 < a3)) true (mi_ltT2 (1) (by decide) (by omega)) 14 10 ([(0, .int a3), (1, .int 0), (2, .int 1)], [], (0, 0), mi_G) (by rfl) ?_
        refine mi_sem_steps mi_in131 (mi_calok_none _ _) 1 _ (15, [(0, .int a3), (1, .int 0), (2, .int 1)], [.int 0], (0, 0), mi_G) (by rfl) ?_
        exact mi_sem_ret (cal := fun _ _ _ => none) mi_in131 (by rfl)
      refine mi_sem_call mi_in139 (i := (.invokestatic 119, 3, 131, 0, 9, 0, 379)) (by rfl) (by rfl) hM211 (by decide) ⟨Nat.le_of_ble_eq_true rfl, Nat.le_of_ble_eq_true rfl⟩ ?_
      exact mi_sem_ret (cal := fun _ _ _ => none) mi_in139 (by rfl)
    refine mi_sem_call mi_in142 (i := (.invokestatic 144, 3, 139, 0, 9, 0, 388)) (by rfl) (by rfl) hM212 (by decide) ⟨Nat.le_of_ble_eq_true rfl, Nat.le_of_ble_eq_true rfl⟩ ?_
    refine mi_sem_steps mi_in142 (mi_calok_none _ _) 2 _ (18, [(0, .ref 116), (1, .int 0), (2, .int 5), (3, .int a3)], [.int (-1)], (0, 0), mi_G) (by rfl) ?_
    exact mi_sem_ret (cal := fun _ _ _ => none) mi_in142 (by rfl)

set_option maxRecDepth 100000 in
set_option maxHeartbeats 4000000 in
theorem mp_mend_13 (a3 : Int32) (r0 : (-2147483648) ≤ (a3).toInt ∧ (a3).toInt ≤ (-1)) : mi_P 83 142 [.int 0, .int 6, .int a3] := by
  refine ⟨.int (-1), mi_G, mi_G, (mi_h83, mi_c83), (mi_h142, mi_c142), 3, 3, rfl, rfl, rfl, by decide, by decide, ?_, ?_⟩
  · refine mi_met_of (y := 83) (q := (mi_h83, mi_c83)) rfl (by decide) (Nat.le_of_ble_eq_true rfl) ?_
    refine mi_sem_steps mi_in83 (mi_calok_none _ _) 3 _ (3, [(0, .ref 0), (1, .int 0), (2, .int 6), (3, .int a3)], [.int 6, .int 0, .ref 0], (0, 0), mi_G) (by rfl) ?_
    have hM215 : mi_Met mi_N0 1 mi_h125 [.ref 0, .int 0, .int 6] mi_G (some (.int 1)) mi_G := mi_fun_ok mi_N0 1 125 (mi_h125, mi_c125) _ _ _ _ rfl (mi_eR_ok (by decide +kernel))
    refine mi_sem_call mi_in83 (i := (.invokevirtual 95, 3, 125, 0, 9, 0, 161)) (by rfl) (by rfl) hM215 (by decide) ⟨Nat.le_of_ble_eq_true rfl, Nat.le_of_ble_eq_true rfl⟩ ?_
    refine mi_sem_steps mi_in83 (mi_calok_none _ _) 3 _ (11, [(0, .ref 0), (1, .int 0), (2, .int 6), (3, .int a3)], [.int a3, .int 6], (0, 0), mi_G) (by rfl) ?_
    have hM218 : mi_Met mi_N0 2 mi_h126 [.int 6, .int a3] mi_G (some (.int 0)) mi_G := by
      refine mi_met_of (y := 126) (q := (mi_h126, mi_c126)) rfl (by decide) (Nat.le_of_ble_eq_true rfl) ?_
      refine mi_sem_steps mi_in126 (mi_calok_none _ _) 3 _ (4, [(0, .int 6), (1, .int a3)], [.int 6, .int 0, .int 6], (0, 0), mi_G) (by rfl) ?_
      have hM216 : mi_Met mi_N0 1 mi_h120 [.int 6, .int 0, .int 6] mi_G (some (.int 1)) mi_G := mi_fun_ok mi_N0 1 120 (mi_h120, mi_c120) _ _ _ _ rfl (mi_eR_ok (by decide +kernel))
      refine mi_sem_call mi_in126 (i := (.invokestatic 74, 3, 120, 0, 9, 0, 152)) (by rfl) (by rfl) hM216 (by decide) ⟨Nat.le_of_ble_eq_true rfl, Nat.le_of_ble_eq_true rfl⟩ ?_
      refine mi_sem_steps mi_in126 (mi_calok_none _ _) 8 _ (21, [(0, .int 6), (1, .int a3)], [.int 99, .int 0, .int a3], (0, 0), mi_G) (by rfl) ?_
      have hM217 : mi_Met mi_N0 1 mi_h120 [.int a3, .int 0, .int 99] mi_G (some (.int 0)) mi_G := by
        refine mi_met_of (y := 120) (q := (mi_h120, mi_c120)) rfl (by decide) (Nat.le_of_ble_eq_true rfl) ?_
        refine mi_sem_steps mi_in120 (mi_calok_none _ _) 2 _ (2, [(0, .int a3), (1, .int 0), (2, .int 99)], [.int 0, .int a3], (0, 0), mi_G) (by rfl) ?_
        refine mi_sem_b mi_in120 (decide (a3 < 0)) true (mi_ltT (0) (by decide) (by omega)) 14 5 ([(0, .int a3), (1, .int 0), (2, .int 99)], [], (0, 0), mi_G) (by rfl) ?_
        refine mi_sem_steps mi_in120 (mi_calok_none _ _) 1 _ (15, [(0, .int a3), (1, .int 0), (2, .int 99)], [.int 0], (0, 0), mi_G) (by rfl) ?_
        exact mi_sem_ret (cal := fun _ _ _ => none) mi_in120 (by rfl)
      refine mi_sem_call mi_in126 (i := (.invokestatic 74, 3, 120, 0, 9, 0, 152)) (by rfl) (by rfl) hM217 (by decide) ⟨Nat.le_of_ble_eq_true rfl, Nat.le_of_ble_eq_true rfl⟩ ?_
      refine mi_sem_steps mi_in126 (mi_calok_none _ _) 2 _ (32, [(0, .int 6), (1, .int a3)], [.int 0], (0, 0), mi_G) (by rfl) ?_
      exact mi_sem_ret (cal := fun _ _ _ => none) mi_in126 (by rfl)
    refine mi_sem_call mi_in83 (i := (.invokestatic 58, 3, 126, 0, 9, 0, 151)) (by rfl) (by rfl) hM218 (by decide) ⟨Nat.le_of_ble_eq_true rfl, Nat.le_of_ble_eq_true rfl⟩ ?_
    refine mi_sem_steps mi_in83 (mi_calok_none _ _) 2 _ (18, [(0, .ref 0), (1, .int 0), (2, .int 6), (3, .int a3)], [.int (-1)], (0, 0), mi_G) (by rfl) ?_
    exact mi_sem_ret (cal := fun _ _ _ => none) mi_in83 (by rfl)
  · refine mi_met_of (y := 142) (q := (mi_h142, mi_c142)) rfl (by decide) (Nat.le_of_ble_eq_true rfl) ?_
    refine mi_sem_steps mi_in142 (mi_calok_none _ _) 3 _ (3, [(0, .ref 116), (1, .int 0), (2, .int 6), (3, .int a3)], [.int 6, .int 0, .ref 116], (0, 0), mi_G) (by rfl) ?_
    have hM219 : mi_Met mi_N0 2 mi_h138 [.ref 116, .int 0, .int 6] mi_G (some (.int 1)) mi_G := mi_fun_ok mi_N0 2 138 (mi_h138, mi_c138) _ _ _ _ rfl (mi_eR_ok (by decide +kernel))
    refine mi_sem_call mi_in142 (i := (.invokevirtual 140, 3, 138, 0, 9, 0, 386)) (by rfl) (by rfl) hM219 (by decide) ⟨Nat.le_of_ble_eq_true rfl, Nat.le_of_ble_eq_true rfl⟩ ?_
    refine mi_sem_steps mi_in142 (mi_calok_none _ _) 3 _ (11, [(0, .ref 116), (1, .int 0), (2, .int 6), (3, .int a3)], [.int a3, .int 6], (0, 0), mi_G) (by rfl) ?_
    have hM221 : mi_Met mi_N0 2 mi_h139 [.int 6, .int a3] mi_G (some (.int 0)) mi_G := by
      refine mi_met_of (y := 139) (q := (mi_h139, mi_c139)) rfl (by decide) (Nat.le_of_ble_eq_true rfl) ?_
      refine mi_sem_steps mi_in139 (mi_calok_none _ _) 5 _ (72, [(0, .int 6), (1, .int a3)], [.int 99, .int 0, .int a3], (0, 0), mi_G) (by rfl) ?_
      have hM220 : mi_Met mi_N0 1 mi_h131 [.int a3, .int 0, .int 99] mi_G (some (.int 0)) mi_G := by
        refine mi_met_of (y := 131) (q := (mi_h131, mi_c131)) rfl (by decide) (Nat.le_of_ble_eq_true rfl) ?_
        refine mi_sem_steps mi_in131 (mi_calok_none _ _) 2 _ (2, [(0, .int a3), (1, .int 0), (2, .int 99)], [.int 0, .int a3], (0, 0), mi_G) (by rfl) ?_
        refine mi_sem_b mi_in131 (decide (a3 < 0)) true (mi_ltT (0) (by decide) (by omega)) 14 5 ([(0, .int a3), (1, .int 0), (2, .int 99)], [], (0, 0), mi_G) (by rfl) ?_
        refine mi_sem_steps mi_in131 (mi_calok_none _ _) 1 _ (15, [(0, .int a3), (1, .int 0), (2, .int 99)], [.int 0], (0, 0), mi_G) (by rfl) ?_
        exact mi_sem_ret (cal := fun _ _ _ => none) mi_in131 (by rfl)
      refine mi_sem_call mi_in139 (i := (.invokestatic 119, 3, 131, 0, 9, 0, 379)) (by rfl) (by rfl) hM220 (by decide) ⟨Nat.le_of_ble_eq_true rfl, Nat.le_of_ble_eq_true rfl⟩ ?_
      exact mi_sem_ret (cal := fun _ _ _ => none) mi_in139 (by rfl)
    refine mi_sem_call mi_in142 (i := (.invokestatic 144, 3, 139, 0, 9, 0, 388)) (by rfl) (by rfl) hM221 (by decide) ⟨Nat.le_of_ble_eq_true rfl, Nat.le_of_ble_eq_true rfl⟩ ?_
    refine mi_sem_steps mi_in142 (mi_calok_none _ _) 2 _ (18, [(0, .ref 116), (1, .int 0), (2, .int 6), (3, .int a3)], [.int (-1)], (0, 0), mi_G) (by rfl) ?_
    exact mi_sem_ret (cal := fun _ _ _ => none) mi_in142 (by rfl)

set_option maxRecDepth 100000 in
set_option maxHeartbeats 4000000 in
theorem mp_mend_14   : mi_P 83 142 [.int 0, .int 6, .int 0] := by
  refine ⟨.int 0, mi_G, mi_G, (mi_h83, mi_c83), (mi_h142, mi_c142), 3, 3, rfl, rfl, rfl, by decide, by decide, ?_, ?_⟩
  · exact mi_fun_ok mi_N0 3 83 (mi_h83, mi_c83) _ _ _ _ rfl (mi_eR_ok (by decide +kernel))
  · exact mi_fun_ok mi_N0 3 142 (mi_h142, mi_c142) _ _ _ _ rfl (mi_eR_ok (by decide +kernel))

set_option maxRecDepth 100000 in
set_option maxHeartbeats 4000000 in
theorem mp_mend_15 (a3 : Int32) (r0 : 1 ≤ (a3).toInt ∧ (a3).toInt ≤ 99) : mi_P 83 142 [.int 0, .int 6, .int a3] := by
  refine ⟨.int 0, (((((((mi_G.set 1 (.inl (4, [.int 0, .ref 2, .ref 3, .ref 4, .ref 5, .ref 6, .int 3, .int 1, .int a3, .int 0, .ref 7, .ref 10, .ref 14, .ref 15, .int 8, .int 0, .int 0, .ref 24]))).set 90 (.inr (.int, .inl (List.replicate 40 0)))).set 91 (.inr (.int, .inl [6, 0, 0, 0, 0, 0, 0, 0, 0, 0, 0, 0, 0, 0, 0, 0, 0, 0, 0, 0, 0, 0, 0, 0, 0, 0, 0, 0, 0, 0, 0, 0, 0, 0, 0, 0, 0, 0, 0, 0]))).set 92 (.inr (.int, .inl (List.replicate 40 0)))).set 93 (.inr (.int, .inl [a3, 0, 0, 0, 0, 0, 0, 0, 0, 0, 0, 0, 0, 0, 0, 0, 0, 0, 0, 0, 0, 0, 0, 0, 0, 0, 0, 0, 0, 0, 0, 0, 0, 0, 0, 0, 0, 0, 0, 0]))).set 89 (.inl (1, [.ref 90, .ref 91, .ref 92, .ref 93, .int 0, .int 1]))).set 89 (.inl (1, [.ref 90, .ref 91, .ref 92, .ref 93, .int 1, .int 1]))), ((((((((((((((mi_G.set 1 (.inl (4, [.int 0, .ref 2, .ref 3, .ref 4, .ref 5, .ref 6, .int 3, .int 1, .int a3, .int 0, .ref 7, .ref 10, .ref 14, .ref 15, .int 8, .int 0, .int 0, .ref 24]))).set 90 (.inr (.int, .inl (List.replicate 40 0)))).set 91 (.inr (.int, .inl [6, 0, 0, 0, 0, 0, 0, 0, 0, 0, 0, 0, 0, 0, 0, 0, 0, 0, 0, 0, 0, 0, 0, 0, 0, 0, 0, 0, 0, 0, 0, 0, 0, 0, 0, 0, 0, 0, 0, 0]))).set 92 (.inr (.int, .inl (List.replicate 40 0)))).set 93 (.inr (.int, .inl [a3, 0, 0, 0, 0, 0, 0, 0, 0, 0, 0, 0, 0, 0, 0, 0, 0, 0, 0, 0, 0, 0, 0, 0, 0, 0, 0, 0, 0, 0, 0, 0, 0, 0, 0, 0, 0, 0, 0, 0]))).set 89 (.inl (1, [.ref 90, .ref 91, .ref 92, .ref 93, .int 0, .int 1]))).set 89 (.inl (1, [.ref 90, .ref 91, .ref 92, .ref 93, .int 1, .int 1]))).set 118 (.inr (.int, .inl [0, 0, 0, 0, 0, 0, 0, 0, a3, 0, 0, 0, 0, 0, 0, 0, 0, 0, 0, 0, 0, 0, 0, 0, 0, 0, 0, 0, 0, 0, 0]))).set 133 (.inr (.int, .inl (List.replicate 160 0)))).set 133 (.inr (.int, .inl [0, 6, 0, 0, 0, 0, 0, 0, 0, 0, 0, 0, 0, 0, 0, 0, 0, 0, 0, 0, 0, 0, 0, 0, 0, 0, 0, 0, 0, 0, 0, 0, 0, 0, 0, 0, 0, 0, 0, 0, 0, 0, 0, 0, 0, 0, 0, 0, 0, 0, 0, 0, 0, 0, 0, 0, 0, 0, 0, 0, 0, 0, 0, 0, 0, 0, 0, 0, 0, 0, 0, 0, 0, 0, 0, 0, 0, 0, 0, 0, 0, 0, 0, 0, 0, 0, 0, 0, 0, 0, 0, 0, 0, 0, 0, 0, 0, 0, 0, 0, 0, 0, 0, 0, 0, 0, 0, 0, 0, 0, 0, 0, 0, 0, 0, 0, 0, 0, 0, 0, 0, 0, 0, 0, 0, 0, 0, 0, 0, 0, 0, 0, 0, 0, 0, 0, 0, 0, 0, 0, 0, 0, 0, 0, 0, 0, 0, 0, 0, 0, 0, 0, 0, 0, 0, 0, 0, 0, 0, 0]))).set 133 (.inr (.int, .inl [0, 6, 0, 0, 0, 0, 0, 0, 0, 0, 0, 0, 0, 0, 0, 0, 0, 0, 0, 0, 0, 0, 0, 0, 0, 0, 0, 0, 0, 0, 0, 0, 0, 0, 0, 0, 0, 0, 0, 0, 0, 0, 0, 0, 0, 0, 0, 0, 0, 0, 0, 0, 0, 0, 0, 0, 0, 0, 0, 0, 0, 0, 0, 0, 0, 0, 0, 0, 0, 0, 0, 0, 0, 0, 0, 0, 0, 0, 0, 0, 0, 0, 0, 0, 0, 0, 0, 0, 0, 0, 0, 0, 0, 0, 0, 0, 0, 0, 0, 0, 0, 0, 0, 0, 0, 0, 0, 0, 0, 0, 0, 0, 0, 0, 0, 0, 0, 0, 0, 0, 0, 0, 0, 0, 0, 0, 0, 0, 0, 0, 0, 0, 0, 0, 0, 0, 0, 0, 0, 0, 0, 0, 0, 0, 0, 0, 0, 0, 0, 0, 0, 0, 0, 0, 0, 0, 0, 0, 0, 0]))).set 133 (.inr (.int, .inl [0, 6, 0, a3, 0, 0, 0, 0, 0, 0, 0, 0, 0, 0, 0, 0, 0, 0, 0, 0, 0, 0, 0, 0, 0, 0, 0, 0, 0, 0, 0, 0, 0, 0, 0, 0, 0, 0, 0, 0, 0, 0, 0, 0, 0, 0, 0, 0, 0, 0, 0, 0, 0, 0, 0, 0, 0, 0, 0, 0, 0, 0, 0, 0, 0, 0, 0, 0, 0, 0, 0, 0, 0, 0, 0, 0, 0, 0, 0, 0, 0, 0, 0, 0, 0, 0, 0, 0, 0, 0, 0, 0, 0, 0, 0, 0, 0, 0, 0, 0, 0, 0, 0, 0, 0, 0, 0, 0, 0, 0, 0, 0, 0, 0, 0, 0, 0, 0, 0, 0, 0, 0, 0, 0, 0, 0, 0, 0, 0, 0, 0, 0, 0, 0, 0, 0, 0, 0, 0, 0, 0, 0, 0, 0, 0, 0, 0, 0, 0, 0, 0, 0, 0, 0, 0, 0, 0, 0, 0, 0]))).set 116 (.inl (9, [.int 0, .ref 117, .int 3, .int 1, .ref 118, .int 0, .ref 119, .int 0, .int 0, .ref 120, .ref 121, .ref 122, .ref 123, .int 0, .int 0, .int 0, .int 0, .ref 124, .ref 125, .ref 126, .ref 127, .ref 128, .ref 129, .ref 130, .int 0, .int 0, .ref 131, .ref 132, .int 0, .int 1, .ref 133, .int 0, .ref 134, .int 0, .ref 135, .ref 136, .ref 137, .ref 138, .ref 139, .ref 140, .int 0, .int 0, .int 0, .int 0, .ref 141, .int 0, .ref 142, .ref 143, .ref 144, .ref 145, .ref 146, .ref 147, .int 0, .ref 148]))).set 116 (.inl (9, [.int 0, .ref 117, .int 3, .int 1, .ref 118, .int 0, .ref 119, .int 0, .int 0, .ref 120, .ref 121, .ref 122, .ref 123, .int 0, .int 0, .int 0, .int 0, .ref 124, .ref 125, .ref 126, .ref 127, .ref 128, .ref 129, .ref 130, .int 0, .int 0, .ref 131, .ref 132, .int 1, .int 1, .ref 133, .int 0, .ref 134, .int 0, .ref 135, .ref 136, .ref 137, .ref 138, .ref 139, .ref 140, .int 0, .int 0, .int 0, .int 0, .ref 141, .int 0, .ref 142, .ref 143, .ref 144, .ref 145, .ref 146, .ref 147, .int 0, .ref 148]))), (mi_h83, mi_c83), (mi_h142, mi_c142), 3, 3, rfl, rfl, rfl, by decide, by decide, ?_, ?_⟩
  · refine mi_met_of (y := 83) (q := (mi_h83, mi_c83)) rfl (by decide) (Nat.le_of_ble_eq_true rfl) ?_
    refine mi_sem_steps mi_in83 (mi_calok_none _ _) 3 _ (3, [(0, .ref 0), (1, .int 0), (2, .int 6), (3, .int a3)], [.int 6, .int 0, .ref 0], (0, 0), mi_G) (by rfl) ?_
    have hM229 : mi_Met mi_N0 1 mi_h125 [.ref 0, .int 0, .int 6] mi_G (some (.int 1)) mi_G := mi_fun_ok mi_N0 1 125 (mi_h125, mi_c125) _ _ _ _ rfl (mi_eR_ok (by decide +kernel))
    refine mi_sem_call mi_in83 (i := (.invokevirtual 95, 3, 125, 0, 9, 0, 161)) (by rfl) (by rfl) hM229 (by decide) ⟨Nat.le_of_ble_eq_true rfl, Nat.le_of_ble_eq_true rfl⟩ ?_
    refine mi_sem_steps mi_in83 (mi_calok_none _ _) 3 _ (11, [(0, .ref 0), (1, .int 0), (2, .int 6), (3, .int a3)], [.int a3, .int 6], (0, 0), mi_G) (by rfl) ?_
    have hM232 : mi_Met mi_N0 2 mi_h126 [.int 6, .int a3] mi_G (some (.int 1)) mi_G := by
      refine mi_met_of (y := 126) (q := (mi_h126, mi_c126)) rfl (by decide) (Nat.le_of_ble_eq_true rfl) ?_
      refine mi_sem_steps mi_in126 (mi_calok_none _ _) 3 _ (4, [(0, .int 6), (1, .int a3)], [.int 6, .int 0, .int 6], (0, 0), mi_G) (by rfl) ?_
      have hM230 : mi_Met mi_N0 1 mi_h120 [.int 6, .int 0, .int 6] mi_G (some (.int 1)) mi_G := mi_fun_ok mi_N0 1 120 (mi_h120, mi_c120) _ _ _ _ rfl (mi_eR_ok (by decide +kernel))
      refine mi_sem_call mi_in126 (i := (.invokestatic 74, 3, 120, 0, 9, 0, 152)) (by rfl) (by rfl) hM230 (by decide) ⟨Nat.le_of_ble_eq_true rfl, Nat.le_of_ble_eq_true rfl⟩ ?_
      refine mi_sem_steps mi_in126 (mi_calok_none _ _) 8 _ (21, [(0, .int 6), (1, .int a3)], [.int 99, .int 0, .int a3], (0, 0), mi_G) (by rfl) ?_
      have hM231 : mi_Met mi_N0 1 mi_h120 [.int a3, .int 0, .int 99] mi_G (some (.int 1)) mi_G := by
        refine mi_met_of (y := 120) (q := (mi_h120, mi_c120)) rfl (by decide) (Nat.le_of_ble_eq_true rfl) ?_
        refine mi_sem_steps mi_in120 (mi_calok_none _ _) 2 _ (2, [(0, .int a3), (1, .int 0), (2, .int 99)], [.int 0, .int a3], (0, 0), mi_G) (by rfl) ?_
        refine mi_sem_b mi_in120 (decide (a3 < 0)) false (mi_ltF (0) (by decide) (by omega)) 14 5 ([(0, .int a3), (1, .int 0), (2, .int 99)], [], (0, 0), mi_G) (by rfl) ?_
        refine mi_sem_steps mi_in120 (mi_calok_none _ _) 2 _ (7, [(0, .int a3), (1, .int 0), (2, .int 99)], [.int 99, .int a3], (0, 0), mi_G) (by rfl) ?_
        refine mi_sem_b mi_in120 (decide (99 < a3)) false (mi_ltF2 (99) (by decide) (by omega)) 14 10 ([(0, .int a3), (1, .int 0), (2, .int 99)], [], (0, 0), mi_G) (by rfl) ?_
        refine mi_sem_steps mi_in120 (mi_calok_none _ _) 2 _ (15, [(0, .int a3), (1, .int 0), (2, .int 99)], [.int 1], (0, 0), mi_G) (by rfl) ?_
        exact mi_sem_ret (cal := fun _ _ _ => none) mi_in120 (by rfl)
      refine mi_sem_call mi_in126 (i := (.invokestatic 74, 3, 120, 0, 9, 0, 152)) (by rfl) (by rfl) hM231 (by decide) ⟨Nat.le_of_ble_eq_true rfl, Nat.le_of_ble_eq_true rfl⟩ ?_
      refine mi_sem_steps mi_in126 (mi_calok_none _ _) 3 _ (32, [(0, .int 6), (1, .int a3)], [.int 1], (0, 0), mi_G) (by rfl) ?_
      exact mi_sem_ret (cal := fun _ _ _ => none) mi_in126 (by rfl)
    refine mi_sem_call mi_in83 (i := (.invokestatic 58, 3, 126, 0, 9, 0, 151)) (by rfl) (by rfl) hM232 (by decide) ⟨Nat.le_of_ble_eq_true rfl, Nat.le_of_ble_eq_true rfl⟩ ?_
    refine mi_sem_steps mi_in83 (mi_calok_none _ _) 5 _ (25, [(0, .ref 0), (1, .int 0), (2, .int 6), (3, .int a3)], [.int 6, .int 0, .ref 1], (0, 0), mi_G) (by rfl) ?_
    have hM233 : mi_Met mi_N0 1 mi_h27 [.ref 1, .int 0, .int 6] mi_G (some (.int 0)) mi_G := mi_fun_ok mi_N0 1 27 (mi_h27, mi_c27) _ _ _ _ rfl (mi_eR_ok (by decide +kernel))
    refine mi_sem_call mi_in83 (i := (.invokevirtual 98, 3, 27, 0, 9, 0, 164)) (by rfl) (by rfl) hM233 (by decide) ⟨Nat.le_of_ble_eq_true rfl, Nat.le_of_ble_eq_true rfl⟩ ?_
    refine mi_sem_steps mi_in83 (mi_calok_none _ _) 3 _ (33, [(4, .int 0), (0, .ref 0), (1, .int 0), (2, .int 6), (3, .int a3)], [.int a3, .int 0], (0, 0), mi_G) (by rfl) ?_
    refine mi_sem_b mi_in83 ((0 == a3)) false (mi_eqF2 (0) (by decide) (by omega)) 58 36 ([(4, .int 0), (0, .ref 0), (1, .int 0), (2, .int 6), (3, .int a3)], [], (0, 0), mi_G) (by rfl) ?_
    refine mi_sem_steps mi_in83 (mi_calok_none _ _) 5 _ (43, [(4, .int 0), (0, .ref 0), (1, .int 0), (2, .int 6), (3, .int a3)], [.int a3, .int 6, .int 0, .ref 1], (0, 0), mi_G) (by rfl) ?_
    have hM234 : mi_Met mi_N0 1 mi_h28 [.ref 1, .int 0, .int 6, .int a3] mi_G none (mi_G.set 1 (.inl (4, [.int 0, .ref 2, .ref 3, .ref 4, .ref 5, .ref 6, .int 3, .int 1, .int a3, .int 0, .ref 7, .ref 10, .ref 14, .ref 15, .int 8, .int 0, .int 0, .ref 24]))) := by
      refine mi_met_of (y := 28) (q := (mi_h28, mi_c28)) rfl (by decide) (Nat.le_of_ble_eq_true rfl) ?_
      refine mi_sem_steps mi_in28 (mi_calok_none _ _) 13 _ (56, [(0, .ref 1), (1, .int 0), (2, .int 6), (3, .int a3)], [], (0, 0), (mi_G.set 1 (.inl (4, [.int 0, .ref 2, .ref 3, .ref 4, .ref 5, .ref 6, .int 3, .int 1, .int a3, .int 0, .ref 7, .ref 10, .ref 14, .ref 15, .int 8, .int 0, .int 0, .ref 24])))) (by rfl) ?_
      exact mi_sem_ret (cal := fun _ _ _ => none) mi_in28 (by rfl)
    refine mi_sem_call mi_in83 (i := (.invokevirtual 102, 3, 28, 0, 9, 0, 167)) (by rfl) (by rfl) hM234 (by decide) ⟨Nat.le_of_ble_eq_true rfl, Nat.le_of_ble_eq_true rfl⟩ ?_
    refine mi_sem_steps mi_in83 (mi_calok_none _ _) 6 _ (55, [(4, .int 0), (0, .ref 0), (1, .int 0), (2, .int 6), (3, .int a3)], [.int a3, .int 0, .int 6, .int 0, .ref 89], (0, 0), (mi_G.set 1 (.inl (4, [.int 0, .ref 2, .ref 3, .ref 4, .ref 5, .ref 6, .int 3, .int 1, .int a3, .int 0, .ref 7, .ref 10, .ref 14, .ref 15, .int 8, .int 0, .int 0, .ref 24])))) (by rfl) ?_
    have hM235 : mi_Met mi_N0 1 mi_h5 [.ref 89, .int 0, .int 6, .int 0, .int a3] (mi_G.set 1 (.inl (4, [.int 0, .ref 2, .ref 3, .ref 4, .ref 5, .ref 6, .int 3, .int 1, .int a3, .int 0, .ref 7, .ref 10, .ref 14, .ref 15, .int 8, .int 0, .int 0, .ref 24]))) none (((((((mi_G.set 1 (.inl (4, [.int 0, .ref 2, .ref 3, .ref 4, .ref 5, .ref 6, .int 3, .int 1, .int a3, .int 0, .ref 7, .ref 10, .ref 14, .ref 15, .int 8, .int 0, .int 0, .ref 24]))).set 90 (.inr (.int, .inl (List.replicate 40 0)))).set 91 (.inr (.int, .inl [6, 0, 0, 0, 0, 0, 0, 0, 0, 0, 0, 0, 0, 0, 0, 0, 0, 0, 0, 0, 0, 0, 0, 0, 0, 0, 0, 0, 0, 0, 0, 0, 0, 0, 0, 0, 0, 0, 0, 0]))).set 92 (.inr (.int, .inl (List.replicate 40 0)))).set 93 (.inr (.int, .inl [a3, 0, 0, 0, 0, 0, 0, 0, 0, 0, 0, 0, 0, 0, 0, 0, 0, 0, 0, 0, 0, 0, 0, 0, 0, 0, 0, 0, 0, 0, 0, 0, 0, 0, 0, 0, 0, 0, 0, 0]))).set 89 (.inl (1, [.ref 90, .ref 91, .ref 92, .ref 93, .int 0, .int 1]))).set 89 (.inl (1, [.ref 90, .ref 91, .ref 92, .ref 93, .int 1, .int 1]))) := by
      refine mi_met_of (y := 5) (q := (mi_h5, mi_c5)) rfl (by decide) (Nat.le_of_ble_eq_true rfl) ?_
      refine mi_sem_steps mi_in5 (mi_calok_none _ _) 38 _ (72, [(0, .ref 89), (1, .int 0), (2, .int 6), (3, .int 0), (4, .int a3)], [], (0, 0), (((((((mi_G.set 1 (.inl (4, [.int 0, .ref 2, .ref 3, .ref 4, .ref 5, .ref 6, .int 3, .int 1, .int a3, .int 0, .ref 7, .ref 10, .ref 14, .ref 15, .int 8, .int 0, .int 0, .ref 24]))).set 90 (.inr (.int, .inl (List.replicate 40 0)))).set 91 (.inr (.int, .inl [6, 0, 0, 0, 0, 0, 0, 0, 0, 0, 0, 0, 0, 0, 0, 0, 0, 0, 0, 0, 0, 0, 0, 0, 0, 0, 0, 0, 0, 0, 0, 0, 0, 0, 0, 0, 0, 0, 0, 0]))).set 92 (.inr (.int, .inl (List.replicate 40 0)))).set 93 (.inr (.int, .inl [a3, 0, 0, 0, 0, 0, 0, 0, 0, 0, 0, 0, 0, 0, 0, 0, 0, 0, 0, 0, 0, 0, 0, 0, 0, 0, 0, 0, 0, 0, 0, 0, 0, 0, 0, 0, 0, 0, 0, 0]))).set 89 (.inl (1, [.ref 90, .ref 91, .ref 92, .ref 93, .int 0, .int 1]))).set 89 (.inl (1, [.ref 90, .ref 91, .ref 92, .ref 93, .int 1, .int 1])))) (by rfl) ?_
      exact mi_sem_ret (cal := fun _ _ _ => none) mi_in5 (by rfl)
    refine mi_sem_call mi_in83 (i := (.invokevirtual 106, 3, 5, 0, 9, 0, 168)) (by rfl) (by rfl) hM235 (by decide) ⟨Nat.le_of_ble_eq_true rfl, Nat.le_of_ble_eq_true rfl⟩ ?_
    refine mi_sem_steps mi_in83 (mi_calok_none _ _) 1 _ (60, [(4, .int 0), (0, .ref 0), (1, .int 0), (2, .int 6), (3, .int a3)], [.int 0], (0, 0), (((((((mi_G.set 1 (.inl (4, [.int 0, .ref 2, .ref 3, .ref 4, .ref 5, .ref 6, .int 3, .int 1, .int a3, .int 0, .ref 7, .ref 10, .ref 14, .ref 15, .int 8, .int 0, .int 0, .ref 24]))).set 90 (.inr (.int, .inl (List.replicate 40 0)))).set 91 (.inr (.int, .inl [6, 0, 0, 0, 0, 0, 0, 0, 0, 0, 0, 0, 0, 0, 0, 0, 0, 0, 0, 0, 0, 0, 0, 0, 0, 0, 0, 0, 0, 0, 0, 0, 0, 0, 0, 0, 0, 0, 0, 0]))).set 92 (.inr (.int, .inl (List.replicate 40 0)))).set 93 (.inr (.int, .inl [a3, 0, 0, 0, 0, 0, 0, 0, 0, 0, 0, 0, 0, 0, 0, 0, 0, 0, 0, 0, 0, 0, 0, 0, 0, 0, 0, 0, 0, 0, 0, 0, 0, 0, 0, 0, 0, 0, 0, 0]))).set 89 (.inl (1, [.ref 90, .ref 91, .ref 92, .ref 93, .int 0, .int 1]))).set 89 (.inl (1, [.ref 90, .ref 91, .ref 92, .ref 93, .int 1, .int 1])))) (by rfl) ?_
    exact mi_sem_ret (cal := fun _ _ _ => none) mi_in83 (by rfl)
  · refine mi_met_of (y := 142) (q := (mi_h142, mi_c142)) rfl (by decide) (Nat.le_of_ble_eq_true rfl) ?_
    refine mi_sem_steps mi_in142 (mi_calok_none _ _) 3 _ (3, [(0, .ref 116), (1, .int 0), (2, .int 6), (3, .int a3)], [.int 6, .int 0, .ref 116], (0, 0), (((((((mi_G.set 1 (.inl (4, [.int 0, .ref 2, .ref 3, .ref 4, .ref 5, .ref 6, .int 3, .int 1, .int a3, .int 0, .ref 7, .ref 10, .ref 14, .ref 15, .int 8, .int 0, .int 0, .ref 24]))).set 90 (.inr (.int, .inl (List.replicate 40 0)))).set 91 (.inr (.int, .inl [6, 0, 0, 0, 0, 0, 0, 0, 0, 0, 0, 0, 0, 0, 0, 0, 0, 0, 0, 0, 0, 0, 0, 0, 0, 0, 0, 0, 0, 0, 0, 0, 0, 0, 0, 0, 0, 0, 0, 0]))).set 92 (.inr (.int, .inl (List.replicate 40 0)))).set 93 (.inr (.int, .inl [a3, 0, 0, 0, 0, 0, 0, 0, 0, 0, 0, 0, 0, 0, 0, 0, 0, 0, 0, 0, 0, 0, 0, 0, 0, 0, 0, 0, 0, 0, 0, 0, 0, 0, 0, 0, 0, 0, 0, 0]))).set 89 (.inl (1, [.ref 90, .ref 91, .ref 92, .ref 93, .int 0, .int 1]))).set 89 (.inl (1, [.ref 90, .ref 91, .ref 92, .ref 93, .int 1, .int 1])))) (by rfl) ?_
    have hM238 : mi_Met mi_N0 2 mi_h138 [.ref 116, .int 0, .int 6] (((((((mi_G.set 1 (.inl (4, [.int 0, .ref 2, .ref 3, .ref 4, .ref 5, .ref 6, .int 3, .int 1, .int a3, .int 0, .ref 7, .ref 10, .ref 14, .ref 15, .int 8, .int 0, .int 0, .ref 24]))).set 90 (.inr (.int, .inl (List.replicate 40 0)))).set 91 (.inr (.int, .inl [6, 0, 0, 0, 0, 0, 0, 0, 0, 0, 0, 0, 0, 0, 0, 0, 0, 0, 0, 0, 0, 0, 0, 0, 0, 0, 0, 0, 0, 0, 0, 0, 0, 0, 0, 0, 0, 0, 0, 0]))).set 92 (.inr (.int, .inl (List.replicate 40 0)))).set 93 (.inr (.int, .inl [a3, 0, 0, 0, 0, 0, 0, 0, 0, 0, 0, 0, 0, 0, 0, 0, 0, 0, 0, 0, 0, 0, 0, 0, 0, 0, 0, 0, 0, 0, 0, 0, 0, 0, 0, 0, 0, 0, 0, 0]))).set 89 (.inl (1, [.ref 90, .ref 91, .ref 92, .ref 93, .int 0, .int 1]))).set 89 (.inl (1, [.ref 90, .ref 91, .ref 92, .ref 93, .int 1, .int 1]))) (some (.int 1)) (((((((mi_G.set 1 (.inl (4, [.int 0, .ref 2, .ref 3, .ref 4, .ref 5, .ref 6, .int 3, .int 1, .int a3, .int 0, .ref 7, .ref 10, .ref 14, .ref 15, .int 8, .int 0, .int 0, .ref 24]))).set 90 (.inr (.int, .inl (List.replicate 40 0)))).set 91 (.inr (.int, .inl [6, 0, 0, 0, 0, 0, 0, 0, 0, 0, 0, 0, 0, 0, 0, 0, 0, 0, 0, 0, 0, 0, 0, 0, 0, 0, 0, 0, 0, 0, 0, 0, 0, 0, 0, 0, 0, 0, 0, 0]))).set 92 (.inr (.int, .inl (List.replicate 40 0)))).set 93 (.inr (.int, .inl [a3, 0, 0, 0, 0, 0, 0, 0, 0, 0, 0, 0, 0, 0, 0, 0, 0, 0, 0, 0, 0, 0, 0, 0, 0, 0, 0, 0, 0, 0, 0, 0, 0, 0, 0, 0, 0, 0, 0, 0]))).set 89 (.inl (1, [.ref 90, .ref 91, .ref 92, .ref 93, .int 0, .int 1]))).set 89 (.inl (1, [.ref 90, .ref 91, .ref 92, .ref 93, .int 1, .int 1]))) := by
      refine mi_met_of (y := 138) (q := (mi_h138, mi_c138)) rfl (by decide) (Nat.le_of_ble_eq_true rfl) ?_
      refine mi_sem_steps mi_in138 (mi_calok_none _ _) 3 _ (3, [(0, .ref 116), (1, .int 0), (2, .int 6)], [.int 3, .int 0, .int 6], (0, 0), (((((((mi_G.set 1 (.inl (4, [.int 0, .ref 2, .ref 3, .ref 4, .ref 5, .ref 6, .int 3, .int 1, .int a3, .int 0, .ref 7, .ref 10, .ref 14, .ref 15, .int 8, .int 0, .int 0, .ref 24]))).set 90 (.inr (.int, .inl (List.replicate 40 0)))).set 91 (.inr (.int, .inl [6, 0, 0, 0, 0, 0, 0, 0, 0, 0, 0, 0, 0, 0, 0, 0, 0, 0, 0, 0, 0, 0, 0, 0, 0, 0, 0, 0, 0, 0, 0, 0, 0, 0, 0, 0, 0, 0, 0, 0]))).set 92 (.inr (.int, .inl (List.replicate 40 0)))).set 93 (.inr (.int, .inl [a3, 0, 0, 0, 0, 0, 0, 0, 0, 0, 0, 0, 0, 0, 0, 0, 0, 0, 0, 0, 0, 0, 0, 0, 0, 0, 0, 0, 0, 0, 0, 0, 0, 0, 0, 0, 0, 0, 0, 0]))).set 89 (.inl (1, [.ref 90, .ref 91, .ref 92, .ref 93, .int 0, .int 1]))).set 89 (.inl (1, [.ref 90, .ref 91, .ref 92, .ref 93, .int 1, .int 1])))) (by rfl) ?_
      have hM236 : mi_Met mi_N0 1 mi_h131 [.int 6, .int 0, .int 3] (((((((mi_G.set 1 (.inl (4, [.int 0, .ref 2, .ref 3, .ref 4, .ref 5, .ref 6, .int 3, .int 1, .int a3, .int 0, .ref 7, .ref 10, .ref 14, .ref 15, .int 8, .int 0, .int 0, .ref 24]))).set 90 (.inr (.int, .inl (List.replicate 40 0)))).set 91 (.inr (.int, .inl [6, 0, 0, 0, 0, 0, 0, 0, 0, 0, 0, 0, 0, 0, 0, 0, 0, 0, 0, 0, 0, 0, 0, 0, 0, 0, 0, 0, 0, 0, 0, 0, 0, 0, 0, 0, 0, 0, 0, 0]))).set 92 (.inr (.int, .inl (List.replicate 40 0)))).set 93 (.inr (.int, .inl [a3, 0, 0, 0, 0, 0, 0, 0, 0, 0, 0, 0, 0, 0, 0, 0, 0, 0, 0, 0, 0, 0, 0, 0, 0, 0, 0, 0, 0, 0, 0, 0, 0, 0, 0, 0, 0, 0, 0, 0]))).set 89 (.inl (1, [.ref 90, .ref 91, .ref 92, .ref 93, .int 0, .int 1]))).set 89 (.inl (1, [.ref 90, .ref 91, .ref 92, .ref 93, .int 1, .int 1]))) (some (.int 0)) (((((((mi_G.set 1 (.inl (4, [.int 0, .ref 2, .ref 3, .ref 4, .ref 5, .ref 6, .int 3, .int 1, .int a3, .int 0, .ref 7, .ref 10, .ref 14, .ref 15, .int 8, .int 0, .int 0, .ref 24]))).set 90 (.inr (.int, .inl (List.replicate 40 0)))).set 91 (.inr (.int, .inl [6, 0, 0, 0, 0, 0, 0, 0, 0, 0, 0, 0, 0, 0, 0, 0, 0, 0, 0, 0, 0, 0, 0, 0, 0, 0, 0, 0, 0, 0, 0, 0, 0, 0, 0, 0, 0, 0, 0, 0]))).set 92 (.inr (.int, .inl (List.replicate 40 0)))).set 93 (.inr (.int, .inl [a3, 0, 0, 0, 0, 0, 0, 0, 0, 0, 0, 0, 0, 0, 0, 0, 0, 0, 0, 0, 0, 0, 0, 0, 0, 0, 0, 0, 0, 0, 0, 0, 0, 0, 0, 0, 0, 0, 0, 0]))).set 89 (.inl (1, [.ref 90, .ref 91, .ref 92, .ref 93, .int 0, .int 1]))).set 89 (.inl (1, [.ref 90, .ref 91, .ref 92, .ref 93, .int 1, .int 1]))) := by
        refine mi_met_of (y := 131) (q := (mi_h131, mi_c131)) rfl (by decide) (Nat.le_of_ble_eq_true rfl) ?_
        refine mi_sem_steps mi_in131 (mi_calok_none _ _) 7 _ (15, [(0, .int 6), (1, .int 0), (2, .int 3)], [.int 0], (0, 0), (((((((mi_G.set 1 (.inl (4, [.int 0, .ref 2, .ref 3, .ref 4, .ref 5, .ref 6, .int 3, .int 1, .int a3, .int 0, .ref 7, .ref 10, .ref 14, .ref 15, .int 8, .int 0, .int 0, .ref 24]))).set 90 (.inr (.int, .inl (List.replicate 40 0)))).set 91 (.inr (.int, .inl [6, 0, 0, 0, 0, 0, 0, 0, 0, 0, 0, 0, 0, 0, 0, 0, 0, 0, 0, 0, 0, 0, 0, 0, 0, 0, 0, 0, 0, 0, 0, 0, 0, 0, 0, 0, 0, 0, 0, 0]))).set 92 (.inr (.int, .inl (List.replicate 40 0)))).set 93 (.inr (.int, .inl [a3, 0, 0, 0, 0, 0, 0, 0, 0, 0, 0, 0, 0, 0, 0, 0, 0, 0, 0, 0, 0, 0, 0, 0, 0, 0, 0, 0, 0, 0, 0, 0, 0, 0, 0, 0, 0, 0, 0, 0]))).set 89 (.inl (1, [.ref 90, .ref 91, .ref 92, .ref 93, .int 0, .int 1]))).set 89 (.inl (1, [.ref 90, .ref 91, .ref 92, .ref 93, .int 1, .int 1])))) (by rfl) ?_
        exact mi_sem_ret (cal := fun _ _ _ => none) mi_in131 (by rfl)
      refine mi_sem_call mi_in138 (i := (.invokestatic 119, 3, 131, 0, 9, 0, 379)) (by rfl) (by rfl) hM236 (by decide) ⟨Nat.le_of_ble_eq_true rfl, Nat.le_of_ble_eq_true rfl⟩ ?_
      refine mi_sem_steps mi_in138 (mi_calok_none _ _) 4 _ (21, [(0, .ref 116), (1, .int 0), (2, .int 6)], [.int 6, .int 4, .int 6], (0, 0), (((((((mi_G.set 1 (.inl (4, [.int 0, .ref 2, .ref 3, .ref 4, .ref 5, .ref 6, .int 3, .int 1, .int a3, .int 0, .ref 7, .ref 10, .ref 14, .ref 15, .int 8, .int 0, .int 0, .ref 24]))).set 90 (.inr (.int, .inl (List.replicate 40 0)))).set 91 (.inr (.int, .inl [6, 0, 0, 0, 0, 0, 0, 0, 0, 0, 0, 0, 0, 0, 0, 0, 0, 0, 0, 0, 0, 0, 0, 0, 0, 0, 0, 0, 0, 0, 0, 0, 0, 0, 0, 0, 0, 0, 0, 0]))).set 92 (.inr (.int, .inl (List.replicate 40 0)))).set 93 (.inr (.int, .inl [a3, 0, 0, 0, 0, 0, 0, 0, 0, 0, 0, 0, 0, 0, 0, 0, 0, 0, 0, 0, 0, 0, 0, 0, 0, 0, 0, 0, 0, 0, 0, 0, 0, 0, 0, 0, 0, 0, 0, 0]))).set 89 (.inl (1, [.ref 90, .ref 91, .ref 92, .ref 93, .int 0, .int 1]))).set 89 (.inl (1, [.ref 90, .ref 91, .ref 92, .ref 93, .int 1, .int 1])))) (by rfl) ?_
      have hM237 : mi_Met mi_N0 1 mi_h131 [.int 6, .int 4, .int 6] (((((((mi_G.set 1 (.inl (4, [.int 0, .ref 2, .ref 3, .ref 4, .ref 5, .ref 6, .int 3, .int 1, .int a3, .int 0, .ref 7, .ref 10, .ref 14, .ref 15, .int 8, .int 0, .int 0, .ref 24]))).set 90 (.inr (.int, .inl (List.replicate 40 0)))).set 91 (.inr (.int, .inl [6, 0, 0, 0, 0, 0, 0, 0, 0, 0, 0, 0, 0, 0, 0, 0, 0, 0, 0, 0, 0, 0, 0, 0, 0, 0, 0, 0, 0, 0, 0, 0, 0, 0, 0, 0, 0, 0, 0, 0]))).set 92 (.inr (.int, .inl (List.replicate 40 0)))).set 93 (.inr (.int, .inl [a3, 0, 0, 0, 0, 0, 0, 0, 0, 0, 0, 0, 0, 0, 0, 0, 0, 0, 0, 0, 0, 0, 0, 0, 0, 0, 0, 0, 0, 0, 0, 0, 0, 0, 0, 0, 0, 0, 0, 0]))).set 89 (.inl (1, [.ref 90, .ref 91, .ref 92, .ref 93, .int 0, .int 1]))).set 89 (.inl (1, [.ref 90, .ref 91, .ref 92, .ref 93, .int 1, .int 1]))) (some (.int 1)) (((((((mi_G.set 1 (.inl (4, [.int 0, .ref 2, .ref 3, .ref 4, .ref 5, .ref 6, .int 3, .int 1, .int a3, .int 0, .ref 7, .ref 10, .ref 14, .ref 15, .int 8, .int 0, .int 0, .ref 24]))).set 90 (.inr (.int, .inl (List.replicate 40 0)))).set 91 (.inr (.int, .inl [6, 0, 0, 0, 0, 0, 0, 0, 0, 0, 0, 0, 0, 0, 0, 0, 0, 0, 0, 0, 0, 0, 0, 0, 0, 0, 0, 0, 0, 0, 0, 0, 0, 0, 0, 0, 0, 0, 0, 0]))).set 92 (.inr (.int, .inl (List.replicate 40 0)))).set 93 (.inr (.int, .inl [a3, 0, 0, 0, 0, 0, 0, 0, 0, 0, 0, 0, 0, 0, 0, 0, 0, 0, 0, 0, 0, 0, 0, 0, 0, 0, 0, 0, 0, 0, 0, 0, 0, 0, 0, 0, 0, 0, 0, 0]))).set 89 (.inl (1, [.ref 90, .ref 91, .ref 92, .ref 93, .int 0, .int 1]))).set 89 (.inl (1, [.ref 90, .ref 91, .ref 92, .ref 93, .int 1, .int 1]))) := by
        refine mi_met_of (y := 131) (q := (mi_h131, mi_c131)) rfl (by decide) (Nat.le_of_ble_eq_true rfl) ?_
        refine mi_sem_steps mi_in131 (mi_calok_none _ _) 8 _ (15, [(0, .int 6), (1, .int 4), (2, .int 6)], [.int 1], (0, 0), (((((((mi_G.set 1 (.inl (4, [.int 0, .ref 2, .ref 3, .ref 4, .ref 5, .ref 6, .int 3, .int 1, .int a3, .int 0, .ref 7, .ref 10, .ref 14, .ref 15, .int 8, .int 0, .int 0, .ref 24]))).set 90 (.inr (.int, .inl (List.replicate 40 0)))).set 91 (.inr (.int, .inl [6, 0, 0, 0, 0, 0, 0, 0, 0, 0, 0, 0, 0, 0, 0, 0, 0, 0, 0, 0, 0, 0, 0, 0, 0, 0, 0, 0, 0, 0, 0, 0, 0, 0, 0, 0, 0, 0, 0, 0]))).set 92 (.inr (.int, .inl (List.replicate 40 0)))).set 93 (.inr (.int, .inl [a3, 0, 0, 0, 0, 0, 0, 0, 0, 0, 0, 0, 0, 0, 0, 0, 0, 0, 0, 0, 0, 0, 0, 0, 0, 0, 0, 0, 0, 0, 0, 0, 0, 0, 0, 0, 0, 0, 0, 0]))).set 89 (.inl (1, [.ref 90, .ref 91, .ref 92, .ref 93, .int 0, .int 1]))).set 89 (.inl (1, [.ref 90, .ref 91, .ref 92, .ref 93, .int 1, .int 1])))) (by rfl) ?_
        exact mi_sem_ret (cal := fun _ _ _ => none) mi_in131 (by rfl)
      refine mi_sem_call mi_in138 (i := (.invokestatic 119, 3, 131, 0, 9, 0, 379)) (by rfl) (by rfl) hM237 (by decide) ⟨Nat.le_of_ble_eq_true rfl, Nat.le_of_ble_eq_true rfl⟩ ?_
      refine mi_sem_steps mi_in138 (mi_calok_none _ _) 5 _ (36, [(0, .ref 116), (1, .int 0), (2, .int 6)], [.int 1], (0, 0), (((((((mi_G.set 1 (.inl (4, [.int 0, .ref 2, .ref 3, .ref 4, .ref 5, .ref 6, .int 3, .int 1, .int a3, .int 0, .ref 7, .ref 10, .ref 14, .ref 15, .int 8, .int 0, .int 0, .ref 24]))).set 90 (.inr (.int, .inl (List.replicate 40 0)))).set 91 (.inr (.int, .inl [6, 0, 0, 0, 0, 0, 0, 0, 0, 0, 0, 0, 0, 0, 0, 0, 0, 0, 0, 0, 0, 0, 0, 0, 0, 0, 0, 0, 0, 0, 0, 0, 0, 0, 0, 0, 0, 0, 0, 0]))).set 92 (.inr (.int, .inl (List.replicate 40 0)))).set 93 (.inr (.int, .inl [a3, 0, 0, 0, 0, 0, 0, 0, 0, 0, 0, 0, 0, 0, 0, 0, 0, 0, 0, 0, 0, 0, 0, 0, 0, 0, 0, 0, 0, 0, 0, 0, 0, 0, 0, 0, 0, 0, 0, 0]))).set 89 (.inl (1, [.ref 90, .ref 91, .ref 92, .ref 93, .int 0, .int 1]))).set 89 (.inl (1, [.ref 90, .ref 91, .ref 92, .ref 93, .int 1, .int 1])))) (by rfl) ?_
      exact mi_sem_ret (cal := fun _ _ _ => none) mi_in138 (by rfl)
    refine mi_sem_call mi_in142 (i := (.invokevirtual 140, 3, 138, 0, 9, 0, 386)) (by rfl) (by rfl) hM238 (by decide) ⟨Nat.le_of_ble_eq_true rfl, Nat.le_of_ble_eq_true rfl⟩ ?_
    refine mi_sem_steps mi_in142 (mi_calok_none _ _) 3 _ (11, [(0, .ref 116), (1, .int 0), (2, .int 6), (3, .int a3)], [.int a3, .int 6], (0, 0), (((((((mi_G.set 1 (.inl (4, [.int 0, .ref 2, .ref 3, .ref 4, .ref 5, .ref 6, .int 3, .int 1, .int a3, .int 0, .ref 7, .ref 10, .ref 14, .ref 15, .int 8, .int 0, .int 0, .ref 24]))).set 90 (.inr (.int, .inl (List.replicate 40 0)))).set 91 (.inr (.int, .inl [6, 0, 0, 0, 0, 0, 0, 0, 0, 0, 0, 0, 0, 0, 0, 0, 0, 0, 0, 0, 0, 0, 0, 0, 0, 0, 0, 0, 0, 0, 0, 0, 0, 0, 0, 0, 0, 0, 0, 0]))).set 92 (.inr (.int, .inl (List.replicate 40 0)))).set 93 (.inr (.int, .inl [a3, 0, 0, 0, 0, 0, 0, 0, 0, 0, 0, 0, 0, 0, 0, 0, 0, 0, 0, 0, 0, 0, 0, 0, 0, 0, 0, 0, 0, 0, 0, 0, 0, 0, 0, 0, 0, 0, 0, 0]))).set 89 (.inl (1, [.ref 90, .ref 91, .ref 92, .ref 93, .int 0, .int 1]))).set 89 (.inl (1, [.ref 90, .ref 91, .ref 92, .ref 93, .int 1, .int 1])))) (by rfl) ?_
    have hM240 : mi_Met mi_N0 2 mi_h139 [.int 6, .int a3] (((((((mi_G.set 1 (.inl (4, [.int 0, .ref 2, .ref 3, .ref 4, .ref 5, .ref 6, .int 3, .int 1, .int a3, .int 0, .ref 7, .ref 10, .ref 14, .ref 15, .int 8, .int 0, .int 0, .ref 24]))).set 90 (.inr (.int, .inl (List.replicate 40 0)))).set 91 (.inr (.int, .inl [6, 0, 0, 0, 0, 0, 0, 0, 0, 0, 0, 0, 0, 0, 0, 0, 0, 0, 0, 0, 0, 0, 0, 0, 0, 0, 0, 0, 0, 0, 0, 0, 0, 0, 0, 0, 0, 0, 0, 0]))).set 92 (.inr (.int, .inl (List.replicate 40 0)))).set 93 (.inr (.int, .inl [a3, 0, 0, 0, 0, 0, 0, 0, 0, 0, 0, 0, 0, 0, 0, 0, 0, 0, 0, 0, 0, 0, 0, 0, 0, 0, 0, 0, 0, 0, 0, 0, 0, 0, 0, 0, 0, 0, 0, 0]))).set 89 (.inl (1, [.ref 90, .ref 91, .ref 92, .ref 93, .int 0, .int 1]))).set 89 (.inl (1, [.ref 90, .ref 91, .ref 92, .ref 93, .int 1, .int 1]))) (some (.int 1)) (((((((mi_G.set 1 (.inl (4, [.int 0, .ref 2, .ref 3, .ref 4, .ref 5, .ref 6, .int 3, .int 1, .int a3, .int 0, .ref 7, .ref 10, .ref 14, .ref 15, .int 8, .int 0, .int 0, .ref 24]))).set 90 (.inr (.int, .inl (List.replicate 40 0)))).set 91 (.inr (.int, .inl [6, 0, 0, 0, 0, 0, 0, 0, 0, 0, 0, 0, 0, 0, 0, 0, 0, 0, 0, 0, 0, 0, 0, 0, 0, 0, 0, 0, 0, 0, 0, 0, 0, 0, 0, 0, 0, 0, 0, 0]))).set 92 (.inr (.int, .inl (List.replicate 40 0)))).set 93 (.inr (.int, .inl [a3, 0, 0, 0, 0, 0, 0, 0, 0, 0, 0, 0, 0, 0, 0, 0, 0, 0, 0, 0, 0, 0, 0, 0, 0, 0, 0, 0, 0, 0, 0, 0, 0, 0, 0, 0, 0, 0, 0, 0]))).set 89 (.inl (1, [.ref 90, .ref 91, .ref 92, .ref 93, .int 0, .int 1]))).set 89 (.inl (1, [.ref 90, .ref 91, .ref 92, .ref 93, .int 1, .int 1]))) := by
      refine mi_met_of (y := 139) (q := (mi_h139, mi_c139)) rfl (by decide) (Nat.le_of_ble_eq_true rfl) ?_
      refine mi_sem_steps mi_in139 (mi_calok_none _ _) 5 _ (72, [(0, .int 6), (1, .int a3)], [.int 99, .int 0, .int a3], (0, 0), (((((((mi_G.set 1 (.inl (4, [.int 0, .ref 2, .ref 3, .ref 4, .ref 5, .ref 6, .int 3, .int 1, .int a3, .int 0, .ref 7, .ref 10, .ref 14, .ref 15, .int 8, .int 0, .int 0, .ref 24]))).set 90 (.inr (.int, .inl (List.replicate 40 0)))).set 91 (.inr (.int, .inl [6, 0, 0, 0, 0, 0, 0, 0, 0, 0, 0, 0, 0, 0, 0, 0, 0, 0, 0, 0, 0, 0, 0, 0, 0, 0, 0, 0, 0, 0, 0, 0, 0, 0, 0, 0, 0, 0, 0, 0]))).set 92 (.inr (.int, .inl (List.replicate 40 0)))).set 93 (.inr (.int, .inl [a3, 0, 0, 0, 0, 0, 0, 0, 0, 0, 0, 0, 0, 0, 0, 0, 0, 0, 0, 0, 0, 0, 0, 0, 0, 0, 0, 0, 0, 0, 0, 0, 0, 0, 0, 0, 0, 0, 0, 0]))).set 89 (.inl (1, [.ref 90, .ref 91, .ref 92, .ref 93, .int 0, .int 1]))).set 89 (.inl (1, [.ref 90, .ref 91, .ref 92, .ref 93, .int 1, .int 1])))) (by rfl) ?_
      have hM239 : mi_Met mi_N0 1 mi_h131 [.int a3, .int 0, .int 99] (((((((mi_G.set 1 (.inl (4, [.int 0, .ref 2, .ref 3, .ref 4, .ref 5, .ref 6, .int 3, .int 1, .int a3, .int 0, .ref 7, .ref 10, .ref 14, .ref 15, .int 8, .int 0, .int 0, .ref 24]))).set 90 (.inr (.int, .inl (List.replicate 40 0)))).set 91 (.inr (.int, .inl [6, 0, 0, 0, 0, 0, 0, 0, 0, 0, 0, 0, 0, 0, 0, 0, 0, 0, 0, 0, 0, 0, 0, 0, 0, 0, 0, 0, 0, 0, 0, 0, 0, 0, 0, 0, 0, 0, 0, 0]))).set 92 (.inr (.int, .inl (List.replicate 40 0)))).set 93 (.inr (.int, .inl [a3, 0, 0, 0, 0, 0, 0, 0, 0, 0, 0, 0, 0, 0, 0, 0, 0, 0, 0, 0, 0, 0, 0, 0, 0, 0, 0, 0, 0, 0, 0, 0, 0, 0, 0, 0, 0, 0, 0, 0]))).set 89 (.inl (1, [.ref 90, .ref 91, .ref 92, .ref 93, .int 0, .int 1]))).set 89 (.inl (1, [.ref 90, .ref 91, .ref 92, .ref 93, .int 1, .int 1]))) (some (.int 1)) (((((((mi_G.set 1 (.inl (4, [.int 0, .ref 2, .ref 3, .ref 4, .ref 5, .ref 6, .int 3, .int 1, .int a3, .int 0, .ref 7, .ref 10, .ref 14, .ref 15, .int 8, .int 0, .int 0, .ref 24]))).set 90 (.inr (.int, .inl (List.replicate 40 0)))).set 91 (.inr (.int, .inl [6, 0, 0, 0, 0, 0, 0, 0, 0, 0, 0, 0, 0, 0, 0, 0, 0, 0, 0, 0, 0, 0, 0, 0, 0, 0, 0, 0, 0, 0, 0, 0, 0, 0, 0, 0, 0, 0, 0, 0]))).set 92 (.inr (.int, .inl (List.replicate 40 0)))).set 93 (.inr (.int, .inl [a3, 0, 0, 0, 0, 0, 0, 0, 0, 0, 0, 0, 0, 0, 0, 0, 0, 0, 0, 0, 0, 0, 0, 0, 0, 0, 0, 0, 0, 0, 0, 0, 0, 0, 0, 0, 0, 0, 0, 0]))).set 89 (.inl (1, [.ref 90, .ref 91, .ref 92, .ref 93, .int 0, .int 1]))).set 89 (.inl (1, [.ref 90, .ref 91, .ref 92, .ref 93, .int 1, .int 1]))) := by
        refine mi_met_of (y := 131) (q := (mi_h131, mi_c131)) rfl (by decide) (Nat.le_of_ble_eq_true rfl) ?_
        refine mi_sem_steps mi_in131 (mi_calok_none _ _) 2 _ (2, [(0, .int a3), (1, .int 0), (2, .int 99)], [.int 0, .int a3], (0, 0), (((((((mi_G.set 1 (.inl (4, [.int 0, .ref 2, .ref 3, .ref 4, .ref 5, .ref 6, .int 3, .int 1, .int a3, .int 0, .ref 7, .ref 10, .ref 14, .ref 15, .int 8, .int 0, .int 0, .ref 24]))).set 90 (.inr (.int, .inl (List.replicate 40 0)))).set 91 (.inr (.int, .inl [6, 0, 0, 0, 0, 0, 0, 0, 0, 0, 0, 0, 0, 0, 0, 0, 0, 0, 0, 0, 0, 0, 0, 0, 0, 0, 0, 0, 0, 0, 0, 0, 0, 0, 0, 0, 0, 0, 0, 0]))).set 92 (.inr (.int, .inl (List.replicate 40 0)))).set 93 (.inr (.int, .inl [a3, 0, 0, 0, 0, 0, 0, 0, 0, 0, 0, 0, 0, 0, 0, 0, 0, 0, 0, 0, 0, 0, 0, 0, 0, 0, 0, 0, 0, 0, 0, 0, 0, 0, 0, 0, 0, 0, 0, 0]))).set 89 (.inl (1, [.ref 90, .ref 91, .ref 92, .ref 93, .int 0, .int 1]))).set 89 (.inl (1, [.ref 90, .ref 91, .ref 92, .ref 93, .int 1, .int 1])))) (by rfl) ?_
        refine mi_sem_b mi_in131 (decide (a3 < 0)) false (mi_ltF (0) (by decide) (by omega)) 14 5 ([(0, .int a3), (1, .int 0), (2, .int 99)], [], (0, 0), (((((((mi_G.set 1 (.inl (4, [.int 0, .ref 2, .ref 3, .ref 4, .ref 5, .ref 6, .int 3, .int 1, .int a3, .int 0, .ref 7, .ref 10, .ref 14, .ref 15, .int 8, .int 0, .int 0, .ref 24]))).set 90 (.inr (.int, .inl (List.replicate 40 0)))).set 91 (.inr (.int, .inl [6, 0, 0, 0, 0, 0, 0, 0, 0, 0, 0, 0, 0, 0, 0, 0, 0, 0, 0, 0, 0, 0, 0, 0, 0, 0, 0, 0, 0, 0, 0, 0, 0, 0, 0, 0, 0, 0, 0, 0]))).set 92 (.inr (.int, .inl (List.replicate 40 0)))).set 93 (.inr (.int, .inl [a3, 0, 0, 0, 0, 0, 0, 0, 0, 0, 0, 0, 0, 0, 0, 0, 0, 0, 0, 0, 0, 0, 0, 0, 0, 0, 0, 0, 0, 0, 0, 0, 0, 0, 0, 0, 0, 0, 0, 0]))).set 89 (.inl (1, [.ref 90, .ref 91, .ref 92, .ref 93, .int 0, .int 1]))).set 89 (.inl (1, [.ref 90, .ref 91, .ref 92, .ref 93, .int 1, .int 1])))) (by rfl) ?_
        refine mi_sem_steps mi_in131 (mi_calok_none _ _) 2 _ (7, [(0, .int a3), (1, .int 0), (2, .int 99)], [.int 99, .int a3], (0, 0), (((((((mi_G.set 1 (.inl (4, [.int 0, .ref 2, .ref 3, .ref 4, .ref 5, .ref 6, .int 3, .int 1, .int a3, .int 0, .ref 7, .ref 10, .ref 14, .ref 15, .int 8, .int 0, .int 0, .ref 24]))).set 90 (.inr (.int, .inl (List.replicate 40 0)))).set 91 (.inr (.int, .inl [6, 0, 0, 0, 0, 0, 0, 0, 0, 0, 0, 0, 0, 0, 0, 0, 0, 0, 0, 0, 0, 0, 0, 0, 0, 0, 0, 0, 0, 0, 0, 0, 0, 0, 0, 0, 0, 0, 0, 0]))).set 92 (.inr (.int, .inl (List.replicate 40 0)))).set 93 (.inr (.int, .inl [a3, 0, 0, 0, 0, 0, 0, 0, 0, 0, 0, 0, 0, 0, 0, 0, 0, 0, 0, 0, 0, 0, 0, 0, 0, 0, 0, 0, 0, 0, 0, 0, 0, 0, 0, 0, 0, 0, 0, 0]))).set 89 (.inl (1, [.ref 90, .ref 91, .ref 92, .ref 93, .int 0, .int 1]))).set 89 (.inl (1, [.ref 90, .ref 91, .ref 92, .ref 93, .int 1, .int 1])))) (by rfl) ?_
        refine mi_sem_b mi_in131 (decide (99 < a3)) false (mi_ltF2 (99) (by decide) (by omega)) 14 10 ([(0, .int a3), (1, .int 0), (2, .int 99)], [], (0, 0), (((((((mi_G.set 1 (.inl (4, [.int 0, .ref 2, .ref 3, .ref 4, .ref 5, .ref 6, .int 3, .int 1, .int a3, .int 0, .ref 7, .ref 10, .ref 14, .ref 15, .int 8, .int 0, .int 0, .ref 24]))).set 90 (.inr (.int, .inl (List.replicate 40 0)))).set 91 (.inr (.int, .inl [6, 0, 0, 0, 0, 0, 0, 0, 0, 0, 0, 0, 0, 0, 0, 0, 0, 0, 0, 0, 0, 0, 0, 0, 0, 0, 0, 0, 0, 0, 0, 0, 0, 0, 0, 0, 0, 0, 0, 0]))).set 92 (.inr (.int, .inl (List.replicate 40 0)))).set 93 (.inr (.int, .inl [a3, 0, 0, 0, 0, 0, 0, 0, 0, 0, 0, 0, 0, 0, 0, 0, 0, 0, 0, 0, 0, 0, 0, 0, 0, 0, 0, 0, 0, 0, 0, 0, 0, 0, 0, 0, 0, 0, 0, 0]))).set 89 (.inl (1, [.ref 90, .ref 91, .ref 92, .ref 93, .int 0, .int 1]))).set 89 (.inl (1, [.ref 90, .ref 91, .ref 92, .ref 93, .int 1, .int 1])))) (by rfl) ?_
        refine mi_sem_steps mi_in131 (mi_calok_none _ _) 2 _ (15, [(0, .int a3), (1, .int 0), (2, .int 99)], [.int 1], (0, 0), (((((((mi_G.set 1 (.inl (4, [.int 0, .ref 2, .ref 3, .ref 4, .ref 5, .ref 6, .int 3, .int 1, .int a3, .int 0, .ref 7, .ref 10, .ref 14, .ref 15, .int 8, .int 0, .int 0, .ref 24]))).set 90 (.inr (.int, .inl (List.replicate 40 0)))).set 91 (.inr (.int, .inl [6, 0, 0, 0, 0, 0, 0, 0, 0, 0, 0, 0, 0, 0, 0, 0, 0, 0, 0, 0, 0, 0, 0, 0, 0, 0, 0, 0, 0, 0, 0, 0, 0, 0, 0, 0, 0, 0, 0, 0]))).set 92 (.inr (.int, .inl (List.replicate 40 0)))).set 93 (.inr (.int, .inl [a3, 0, 0, 0, 0, 0, 0, 0, 0, 0, 0, 0, 0, 0, 0, 0, 0, 0, 0, 0, 0, 0, 0, 0, 0, 0, 0, 0, 0, 0, 0, 0, 0, 0, 0, 0, 0, 0, 0, 0]))).set 89 (.inl (1, [.ref 90, .ref 91, .ref 92, .ref 93, .int 0, .int 1]))).set 89 (.inl (1, [.ref 90, .ref 91, .ref 92, .ref 93, .int 1, .int 1])))) (by rfl) ?_
        exact mi_sem_ret (cal := fun _ _ _ => none) mi_in131 (by rfl)
      refine mi_sem_call mi_in139 (i := (.invokestatic 119, 3, 131, 0, 9, 0, 379)) (by rfl) (by rfl) hM239 (by decide) ⟨Nat.le_of_ble_eq_true rfl, Nat.le_of_ble_eq_true rfl⟩ ?_
      exact mi_sem_ret (cal := fun _ _ _ => none) mi_in139 (by rfl)
    refine mi_sem_call mi_in142 (i := (.invokestatic 144, 3, 139, 0, 9, 0, 388)) (by rfl) (by rfl) hM240 (by decide) ⟨Nat.le_of_ble_eq_true rfl, Nat.le_of_ble_eq_true rfl⟩ ?_
    refine mi_sem_steps mi_in142 (mi_calok_none _ _) 4 _ (22, [(0, .ref 116), (1, .int 0), (2, .int 6), (3, .int a3)], [.int 6, .int 0, .ref 116], (0, 0), (((((((mi_G.set 1 (.inl (4, [.int 0, .ref 2, .ref 3, .ref 4, .ref 5, .ref 6, .int 3, .int 1, .int a3, .int 0, .ref 7, .ref 10, .ref 14, .ref 15, .int 8, .int 0, .int 0, .ref 24]))).set 90 (.inr (.int, .inl (List.replicate 40 0)))).set 91 (.inr (.int, .inl [6, 0, 0, 0, 0, 0, 0, 0, 0, 0, 0, 0, 0, 0, 0, 0, 0, 0, 0, 0, 0, 0, 0, 0, 0, 0, 0, 0, 0, 0, 0, 0, 0, 0, 0, 0, 0, 0, 0, 0]))).set 92 (.inr (.int, .inl (List.replicate 40 0)))).set 93 (.inr (.int, .inl [a3, 0, 0, 0, 0, 0, 0, 0, 0, 0, 0, 0, 0, 0, 0, 0, 0, 0, 0, 0, 0, 0, 0, 0, 0, 0, 0, 0, 0, 0, 0, 0, 0, 0, 0, 0, 0, 0, 0, 0]))).set 89 (.inl (1, [.ref 90, .ref 91, .ref 92, .ref 93, .int 0, .int 1]))).set 89 (.inl (1, [.ref 90, .ref 91, .ref 92, .ref 93, .int 1, .int 1])))) (by rfl) ?_
    have hM241 : mi_Met mi_N0 1 mi_h140 [.ref 116, .int 0, .int 6] (((((((mi_G.set 1 (.inl (4, [.int 0, .ref 2, .ref 3, .ref 4, .ref 5, .ref 6, .int 3, .int 1, .int a3, .int 0, .ref 7, .ref 10, .ref 14, .ref 15, .int 8, .int 0, .int 0, .ref 24]))).set 90 (.inr (.int, .inl (List.replicate 40 0)))).set 91 (.inr (.int, .inl [6, 0, 0, 0, 0, 0, 0, 0, 0, 0, 0, 0, 0, 0, 0, 0, 0, 0, 0, 0, 0, 0, 0, 0, 0, 0, 0, 0, 0, 0, 0, 0, 0, 0, 0, 0, 0, 0, 0, 0]))).set 92 (.inr (.int, .inl (List.replicate 40 0)))).set 93 (.inr (.int, .inl [a3, 0, 0, 0, 0, 0, 0, 0, 0, 0, 0, 0, 0, 0, 0, 0, 0, 0, 0, 0, 0, 0, 0, 0, 0, 0, 0, 0, 0, 0, 0, 0, 0, 0, 0, 0, 0, 0, 0, 0]))).set 89 (.inl (1, [.ref 90, .ref 91, .ref 92, .ref 93, .int 0, .int 1]))).set 89 (.inl (1, [.ref 90, .ref 91, .ref 92, .ref 93, .int 1, .int 1]))) (some (.int 0)) (((((((mi_G.set 1 (.inl (4, [.int 0, .ref 2, .ref 3, .ref 4, .ref 5, .ref 6, .int 3, .int 1, .int a3, .int 0, .ref 7, .ref 10, .ref 14, .ref 15, .int 8, .int 0, .int 0, .ref 24]))).set 90 (.inr (.int, .inl (List.replicate 40 0)))).set 91 (.inr (.int, .inl [6, 0, 0, 0, 0, 0, 0, 0, 0, 0, 0, 0, 0, 0, 0, 0, 0, 0, 0, 0, 0, 0, 0, 0, 0, 0, 0, 0, 0, 0, 0, 0, 0, 0, 0, 0, 0, 0, 0, 0]))).set 92 (.inr (.int, .inl (List.replicate 40 0)))).set 93 (.inr (.int, .inl [a3, 0, 0, 0, 0, 0, 0, 0, 0, 0, 0, 0, 0, 0, 0, 0, 0, 0, 0, 0, 0, 0, 0, 0, 0, 0, 0, 0, 0, 0, 0, 0, 0, 0, 0, 0, 0, 0, 0, 0]))).set 89 (.inl (1, [.ref 90, .ref 91, .ref 92, .ref 93, .int 0, .int 1]))).set 89 (.inl (1, [.ref 90, .ref 91, .ref 92, .ref 93, .int 1, .int 1]))) := by
      refine mi_met_of (y := 140) (q := (mi_h140, mi_c140)) rfl (by decide) (Nat.le_of_ble_eq_true rfl) ?_
      refine mi_sem_steps mi_in140 (mi_calok_none _ _) 6 _ (68, [(0, .ref 116), (1, .int 0), (2, .int 6)], [.int 0], (0, 0), (((((((mi_G.set 1 (.inl (4, [.int 0, .ref 2, .ref 3, .ref 4, .ref 5, .ref 6, .int 3, .int 1, .int a3, .int 0, .ref 7, .ref 10, .ref 14, .ref 15, .int 8, .int 0, .int 0, .ref 24]))).set 90 (.inr (.int, .inl (List.replicate 40 0)))).set 91 (.inr (.int, .inl [6, 0, 0, 0, 0, 0, 0, 0, 0, 0, 0, 0, 0, 0, 0, 0, 0, 0, 0, 0, 0, 0, 0, 0, 0, 0, 0, 0, 0, 0, 0, 0, 0, 0, 0, 0, 0, 0, 0, 0]))).set 92 (.inr (.int, .inl (List.replicate 40 0)))).set 93 (.inr (.int, .inl [a3, 0, 0, 0, 0, 0, 0, 0, 0, 0, 0, 0, 0, 0, 0, 0, 0, 0, 0, 0, 0, 0, 0, 0, 0, 0, 0, 0, 0, 0, 0, 0, 0, 0, 0, 0, 0, 0, 0, 0]))).set 89 (.inl (1, [.ref 90, .ref 91, .ref 92, .ref 93, .int 0, .int 1]))).set 89 (.inl (1, [.ref 90, .ref 91, .ref 92, .ref 93, .int 1, .int 1])))) (by rfl) ?_
      exact mi_sem_ret (cal := fun _ _ _ => none) mi_in140 (by rfl)
    refine mi_sem_call mi_in142 (i := (.invokevirtual 147, 3, 140, 0, 9, 0, 389)) (by rfl) (by rfl) hM241 (by decide) ⟨Nat.le_of_ble_eq_true rfl, Nat.le_of_ble_eq_true rfl⟩ ?_
    refine mi_sem_steps mi_in142 (mi_calok_none _ _) 3 _ (30, [(4, .int 0), (0, .ref 116), (1, .int 0), (2, .int 6), (3, .int a3)], [.int a3, .int 0], (0, 0), (((((((mi_G.set 1 (.inl (4, [.int 0, .ref 2, .ref 3, .ref 4, .ref 5, .ref 6, .int 3, .int 1, .int a3, .int 0, .ref 7, .ref 10, .ref 14, .ref 15, .int 8, .int 0, .int 0, .ref 24]))).set 90 (.inr (.int, .inl (List.replicate 40 0)))).set 91 (.inr (.int, .inl [6, 0, 0, 0, 0, 0, 0, 0, 0, 0, 0, 0, 0, 0, 0, 0, 0, 0, 0, 0, 0, 0, 0, 0, 0, 0, 0, 0, 0, 0, 0, 0, 0, 0, 0, 0, 0, 0, 0, 0]))).set 92 (.inr (.int, .inl (List.replicate 40 0)))).set 93 (.inr (.int, .inl [a3, 0, 0, 0, 0, 0, 0, 0, 0, 0, 0, 0, 0, 0, 0, 0, 0, 0, 0, 0, 0, 0, 0, 0, 0, 0, 0, 0, 0, 0, 0, 0, 0, 0, 0, 0, 0, 0, 0, 0]))).set 89 (.inl (1, [.ref 90, .ref 91, .ref 92, .ref 93, .int 0, .int 1]))).set 89 (.inl (1, [.ref 90, .ref 91, .ref 92, .ref 93, .int 1, .int 1])))) (by rfl) ?_
    refine mi_sem_b mi_in142 ((0 != a3)) true (mi_neT2 (0) (by decide) (by omega)) 36 33 ([(4, .int 0), (0, .ref 116), (1, .int 0), (2, .int 6), (3, .int a3)], [], (0, 0), (((((((mi_G.set 1 (.inl (4, [.int 0, .ref 2, .ref 3, .ref 4, .ref 5, .ref 6, .int 3, .int 1, .int a3, .int 0, .ref 7, .ref 10, .ref 14, .ref 15, .int 8, .int 0, .int 0, .ref 24]))).set 90 (.inr (.int, .inl (List.replicate 40 0)))).set 91 (.inr (.int, .inl [6, 0, 0, 0, 0, 0, 0, 0, 0, 0, 0, 0, 0, 0, 0, 0, 0, 0, 0, 0, 0, 0, 0, 0, 0, 0, 0, 0, 0, 0, 0, 0, 0, 0, 0, 0, 0, 0, 0, 0]))).set 92 (.inr (.int, .inl (List.replicate 40 0)))).set 93 (.inr (.int, .inl [a3, 0, 0, 0, 0, 0, 0, 0, 0, 0, 0, 0, 0, 0, 0, 0, 0, 0, 0, 0, 0, 0, 0, 0, 0, 0, 0, 0, 0, 0, 0, 0, 0, 0, 0, 0, 0, 0, 0, 0]))).set 89 (.inl (1, [.ref 90, .ref 91, .ref 92, .ref 93, .int 0, .int 1]))).set 89 (.inl (1, [.ref 90, .ref 91, .ref 92, .ref 93, .int 1, .int 1])))) (by rfl) ?_
    refine mi_sem_steps mi_in142 (mi_calok_none _ _) 4 _ (40, [(4, .int 0), (0, .ref 116), (1, .int 0), (2, .int 6), (3, .int a3)], [.int a3, .int 6, .int 0, .ref 116], (0, 0), (((((((mi_G.set 1 (.inl (4, [.int 0, .ref 2, .ref 3, .ref 4, .ref 5, .ref 6, .int 3, .int 1, .int a3, .int 0, .ref 7, .ref 10, .ref 14, .ref 15, .int 8, .int 0, .int 0, .ref 24]))).set 90 (.inr (.int, .inl (List.replicate 40 0)))).set 91 (.inr (.int, .inl [6, 0, 0, 0, 0, 0, 0, 0, 0, 0, 0, 0, 0, 0, 0, 0, 0, 0, 0, 0, 0, 0, 0, 0, 0, 0, 0, 0, 0, 0, 0, 0, 0, 0, 0, 0, 0, 0, 0, 0]))).set 92 (.inr (.int, .inl (List.replicate 40 0)))).set 93 (.inr (.int, .inl [a3, 0, 0, 0, 0, 0, 0, 0, 0, 0, 0, 0, 0, 0, 0, 0, 0, 0, 0, 0, 0, 0, 0, 0, 0, 0, 0, 0, 0, 0, 0, 0, 0, 0, 0, 0, 0, 0, 0, 0]))).set 89 (.inl (1, [.ref 90, .ref 91, .ref 92, .ref 93, .int 0, .int 1]))).set 89 (.inl (1, [.ref 90, .ref 91, .ref 92, .ref 93, .int 1, .int 1])))) (by rfl) ?_
    have hM242 : mi_Met mi_N0 1 mi_h141 [.ref 116, .int 0, .int 6, .int a3] (((((((mi_G.set 1 (.inl (4, [.int 0, .ref 2, .ref 3, .ref 4, .ref 5, .ref 6, .int 3, .int 1, .int a3, .int 0, .ref 7, .ref 10, .ref 14, .ref 15, .int 8, .int 0, .int 0, .ref 24]))).set 90 (.inr (.int, .inl (List.replicate 40 0)))).set 91 (.inr (.int, .inl [6, 0, 0, 0, 0, 0, 0, 0, 0, 0, 0, 0, 0, 0, 0, 0, 0, 0, 0, 0, 0, 0, 0, 0, 0, 0, 0, 0, 0, 0, 0, 0, 0, 0, 0, 0, 0, 0, 0, 0]))).set 92 (.inr (.int, .inl (List.replicate 40 0)))).set 93 (.inr (.int, .inl [a3, 0, 0, 0, 0, 0, 0, 0, 0, 0, 0, 0, 0, 0, 0, 0, 0, 0, 0, 0, 0, 0, 0, 0, 0, 0, 0, 0, 0, 0, 0, 0, 0, 0, 0, 0, 0, 0, 0, 0]))).set 89 (.inl (1, [.ref 90, .ref 91, .ref 92, .ref 93, .int 0, .int 1]))).set 89 (.inl (1, [.ref 90, .ref 91, .ref 92, .ref 93, .int 1, .int 1]))) none ((((((((mi_G.set 1 (.inl (4, [.int 0, .ref 2, .ref 3, .ref 4, .ref 5, .ref 6, .int 3, .int 1, .int a3, .int 0, .ref 7, .ref 10, .ref 14, .ref 15, .int 8, .int 0, .int 0, .ref 24]))).set 90 (.inr (.int, .inl (List.replicate 40 0)))).set 91 (.inr (.int, .inl [6, 0, 0, 0, 0, 0, 0, 0, 0, 0, 0, 0, 0, 0, 0, 0, 0, 0, 0, 0, 0, 0, 0, 0, 0, 0, 0, 0, 0, 0, 0, 0, 0, 0, 0, 0, 0, 0, 0, 0]))).set 92 (.inr (.int, .inl (List.replicate 40 0)))).set 93 (.inr (.int, .inl [a3, 0, 0, 0, 0, 0, 0, 0, 0, 0, 0, 0, 0, 0, 0, 0, 0, 0, 0, 0, 0, 0, 0, 0, 0, 0, 0, 0, 0, 0, 0, 0, 0, 0, 0, 0, 0, 0, 0, 0]))).set 89 (.inl (1, [.ref 90, .ref 91, .ref 92, .ref 93, .int 0, .int 1]))).set 89 (.inl (1, [.ref 90, .ref 91, .ref 92, .ref 93, .int 1, .int 1]))).set 118 (.inr (.int, .inl [0, 0, 0, 0, 0, 0, 0, 0, a3, 0, 0, 0, 0, 0, 0, 0, 0, 0, 0, 0, 0, 0, 0, 0, 0, 0, 0, 0, 0, 0, 0]))) := by
      refine mi_met_of (y := 141) (q := (mi_h141, mi_c141)) rfl (by decide) (Nat.le_of_ble_eq_true rfl) ?_
      refine mi_sem_steps mi_in141 (mi_calok_none _ _) 8 _ (96, [(0, .ref 116), (1, .int 0), (2, .int 6), (3, .int a3)], [], (0, 0), ((((((((mi_G.set 1 (.inl (4, [.int 0, .ref 2, .ref 3, .ref 4, .ref 5, .ref 6, .int 3, .int 1, .int a3, .int 0, .ref 7, .ref 10, .ref 14, .ref 15, .int 8, .int 0, .int 0, .ref 24]))).set 90 (.inr (.int, .inl (List.replicate 40 0)))).set 91 (.inr (.int, .inl [6, 0, 0, 0, 0, 0, 0, 0, 0, 0, 0, 0, 0, 0, 0, 0, 0, 0, 0, 0, 0, 0, 0, 0, 0, 0, 0, 0, 0, 0, 0, 0, 0, 0, 0, 0, 0, 0, 0, 0]))).set 92 (.inr (.int, .inl (List.replicate 40 0)))).set 93 (.inr (.int, .inl [a3, 0, 0, 0, 0, 0, 0, 0, 0, 0, 0, 0, 0, 0, 0, 0, 0, 0, 0, 0, 0, 0, 0, 0, 0, 0, 0, 0, 0, 0, 0, 0, 0, 0, 0, 0, 0, 0, 0, 0]))).set 89 (.inl (1, [.ref 90, .ref 91, .ref 92, .ref 93, .int 0, .int 1]))).set 89 (.inl (1, [.ref 90, .ref 91, .ref 92, .ref 93, .int 1, .int 1]))).set 118 (.inr (.int, .inl [0, 0, 0, 0, 0, 0, 0, 0, a3, 0, 0, 0, 0, 0, 0, 0, 0, 0, 0, 0, 0, 0, 0, 0, 0, 0, 0, 0, 0, 0, 0])))) (by rfl) ?_
      exact mi_sem_ret (cal := fun _ _ _ => none) mi_in141 (by rfl)
    refine mi_sem_call mi_in142 (i := (.invokevirtual 150, 3, 141, 0, 9, 0, 390)) (by rfl) (by rfl) hM242 (by decide) ⟨Nat.le_of_ble_eq_true rfl, Nat.le_of_ble_eq_true rfl⟩ ?_
    refine mi_sem_steps mi_in142 (mi_calok_none _ _) 53 _ (170, [(4, .int 0), (0, .ref 116), (1, .int 0), (2, .int 6), (3, .int a3)], [.int 0], (0, 0), ((((((((((((((mi_G.set 1 (.inl (4, [.int 0, .ref 2, .ref 3, .ref 4, .ref 5, .ref 6, .int 3, .int 1, .int a3, .int 0, .ref 7, .ref 10, .ref 14, .ref 15, .int 8, .int 0, .int 0, .ref 24]))).set 90 (.inr (.int, .inl (List.replicate 40 0)))).set 91 (.inr (.int, .inl [6, 0, 0, 0, 0, 0, 0, 0, 0, 0, 0, 0, 0, 0, 0, 0, 0, 0, 0, 0, 0, 0, 0, 0, 0, 0, 0, 0, 0, 0, 0, 0, 0, 0, 0, 0, 0, 0, 0, 0]))).set 92 (.inr (.int, .inl (List.replicate 40 0)))).set 93 (.inr (.int, .inl [a3, 0, 0, 0, 0, 0, 0, 0, 0, 0, 0, 0, 0, 0, 0, 0, 0, 0, 0, 0, 0, 0, 0, 0, 0, 0, 0, 0, 0, 0, 0, 0, 0, 0, 0, 0, 0, 0, 0, 0]))).set 89 (.inl (1, [.ref 90, .ref 91, .ref 92, .ref 93, .int 0, .int 1]))).set 89 (.inl (1, [.ref 90, .ref 91, .ref 92, .ref 93, .int 1, .int 1]))).set 118 (.inr (.int, .inl [0, 0, 0, 0, 0, 0, 0, 0, a3, 0, 0, 0, 0, 0, 0, 0, 0, 0, 0, 0, 0, 0, 0, 0, 0, 0, 0, 0, 0, 0, 0]))).set 133 (.inr (.int, .inl (List.replicate 160 0)))).set 133 (.inr (.int, .inl [0, 6, 0, 0, 0, 0, 0, 0, 0, 0, 0, 0, 0, 0, 0, 0, 0, 0, 0, 0, 0, 0, 0, 0, 0, 0, 0, 0, 0, 0, 0, 0, 0, 0, 0, 0, 0, 0, 0, 0, 0, 0, 0, 0, 0, 0, 0, 0, 0, 0, 0, 0, 0, 0, 0, 0, 0, 0, 0, 0, 0, 0, 0, 0, 0, 0, 0, 0, 0, 0, 0, 0, 0, 0, 0, 0, 0, 0, 0, 0, 0, 0, 0, 0, 0, 0, 0, 0, 0, 0, 0, 0, 0, 0, 0, 0, 0, 0, 0, 0, 0, 0, 0, 0, 0, 0, 0, 0, 0, 0, 0, 0, 0, 0, 0, 0, 0, 0, 0, 0, 0, 0, 0, 0, 0, 0, 0, 0, 0, 0, 0, 0, 0, 0, 0, 0, 0, 0, 0, 0, 0, 0, 0, 0, 0, 0, 0, 0, 0, 0, 0, 0, 0, 0, 0, 0, 0, 0, 0, 0]))).set 133 (.inr (.int, .inl [0, 6, 0, 0, 0, 0, 0, 0, 0, 0, 0, 0, 0, 0, 0, 0, 0, 0, 0, 0, 0, 0, 0, 0, 0, 0, 0, 0, 0, 0, 0, 0, 0, 0, 0, 0, 0, 0, 0, 0, 0, 0, 0, 0, 0, 0, 0, 0, 0, 0, 0, 0, 0, 0, 0, 0, 0, 0, 0, 0, 0, 0, 0, 0, 0, 0, 0, 0, 0, 0, 0, 0, 0, 0, 0, 0, 0, 0, 0, 0, 0, 0, 0, 0, 0, 0, 0, 0, 0, 0, 0, 0, 0, 0, 0, 0, 0, 0, 0, 0, 0, 0, 0, 0, 0, 0, 0, 0, 0, 0, 0, 0, 0, 0, 0, 0, 0, 0, 0, 0, 0, 0, 0, 0, 0, 0, 0, 0, 0, 0, 0, 0, 0, 0, 0, 0, 0, 0, 0, 0, 0, 0, 0, 0, 0, 0, 0, 0, 0, 0, 0, 0, 0, 0, 0, 0, 0, 0, 0, 0]))).set 133 (.inr (.int, .inl [0, 6, 0, a3, 0, 0, 0, 0, 0, 0, 0, 0, 0, 0, 0, 0, 0, 0, 0, 0, 0, 0, 0, 0, 0, 0, 0, 0, 0, 0, 0, 0, 0, 0, 0, 0, 0, 0, 0, 0, 0, 0, 0, 0, 0, 0, 0, 0, 0, 0, 0, 0, 0, 0, 0, 0, 0, 0, 0, 0, 0, 0, 0, 0, 0, 0, 0, 0, 0, 0, 0, 0, 0, 0, 0, 0, 0, 0, 0, 0, 0, 0, 0, 0, 0, 0, 0, 0, 0, 0, 0, 0, 0, 0, 0, 0, 0, 0, 0, 0, 0, 0, 0, 0, 0, 0, 0, 0, 0, 0, 0, 0, 0, 0, 0, 0, 0, 0, 0, 0, 0, 0, 0, 0, 0, 0, 0, 0, 0, 0, 0, 0, 0, 0, 0, 0, 0, 0, 0, 0, 0, 0, 0, 0, 0, 0, 0, 0, 0, 0, 0, 0, 0, 0, 0, 0, 0, 0, 0, 0]))).set 116 (.inl (9, [.int 0, .ref 117, .int 3, .int 1, .ref 118, .int 0, .ref 119, .int 0, .int 0, .ref 120, .ref 121, .ref 122, .ref 123, .int 0, .int 0, .int 0, .int 0, .ref 124, .ref 125, .ref 126, .ref 127, .ref 128, .ref 129, .ref 130, .int 0, .int 0, .ref 131, .ref 132, .int 0, .int 1, .ref 133, .int 0, .ref 134, .int 0, .ref 135, .ref 136, .ref 137, .ref 138, .ref 139, .ref 140, .int 0, .int 0, .int 0, .int 0, .ref 141, .int 0, .ref 142, .ref 143, .ref 144, .ref 145, .ref 146, .ref 147, .int 0, .ref 148]))).set 116 (.inl (9, [.int 0, .ref 117, .int 3, .int 1, .ref 118, .int 0, .ref 119, .int 0, .int 0, .ref 120, .ref 121, .ref 122, .ref 123, .int 0, .int 0, .int 0, .int 0, .ref 124, .ref 125, .ref 126, .ref 127, .ref 128, .ref 129, .ref 130, .int 0, .int 0, .ref 131, .ref 132, .int 1, .int 1, .ref 133, .int 0, .ref 134, .int 0, .ref 135, .ref 136, .ref 137, .ref 138, .ref 139, .ref 140, .int 0, .int 0, .int 0, .int 0, .ref 141, .int 0, .ref 142, .ref 143, .ref 144, .ref 145, .ref 146, .ref 147, .int 0, .ref 148])))) (by rfl) ?_
    exact mi_sem_ret (cal := fun _ _ _ => none) mi_in142 (by rfl)

set_option maxRecDepth 100000 in
set_option maxHeartbeats 4000000 in
theorem mp_mend_16 (a3 : Int32) (r0 : 100 ≤ (a3).toInt ∧ (a3).toInt ≤ 2147483647) : mi_P 83 142 [.int 0, .int 6, .int a3] := by
  refine ⟨.int (-1), mi_G, mi_G, (mi_h83, mi_c83), (mi_h142, mi_c142), 3, 3, rfl, rfl, rfl, by decide, by decide, ?_, ?_⟩
  · refine mi_met_of (y := 83) (q := (mi_h83, mi_c83)) rfl (by decide) (Nat.le_of_ble_eq_true rfl) ?_
    refine mi_sem_steps mi_in83 (mi_calok_none _ _) 3 _ (3, [(0, .ref 0), (1, .int 0), (2, .int 6), (3, .int a3)], [.int 6, .int 0, .ref 0], (0, 0), mi_G) (by rfl) ?_
    have hM243 : mi_Met mi_N0 1 mi_h125 [.ref 0, .int 0, .int 6] mi_G (some (.int 1)) mi_G := mi_fun_ok mi_N0 1 125 (mi_h125, mi_c125) _ _ _ _ rfl (mi_eR_ok (by decide +kernel))
    refine mi_sem_call mi_in83 (i := (.invokevirtual 95, 3, 125, 0, 9, 0, 161)) (by rfl) (by rfl) hM243 (by decide) ⟨Nat.le_of_ble_eq_true rfl, Nat.le_of_ble_eq_true rfl⟩ ?_
    refine mi_sem_steps mi_in83 (mi_calok_none _ _) 3 _ (11, [(0, .ref 0), (1, .int 0), (2, .int 6), (3, .int a3)], [.int a3, .int 6], (0, 0), mi_G) (by rfl) ?_
    have hM246 : mi_Met mi_N0 2 mi_h126 [.int 6, .int a3] mi_G (some (.int 0)) mi_G := by
      refine mi_met_of (y := 126) (q := (mi_h126, mi_c126)) rfl (by decide) (Nat.le_of_ble_eq_true rfl) ?_
      refine mi_sem_steps mi_in126 (mi_calok_none _ _) 3 _ (4, [(0, .int 6), (1, .int a3)], [.int 6, .int 0, .int 6], (0, 0), mi_G) (by rfl) ?_
      have hM244 : mi_Met mi_N0 1 mi_h120 [.int 6, .int 0, .int 6] mi_G (some (.int 1)) mi_G := mi_fun_ok mi_N0 1 120 (mi_h120, mi_c120) _ _ _ _ rfl (mi_eR_ok (by decide +kernel))
      refine mi_sem_call mi_in126 (i := (.invokestatic 74, 3, 120, 0, 9, 0, 152)) (by rfl) (by rfl) hM244 (by decide) ⟨Nat.le_of_ble_eq_true rfl, Nat.le_of_ble_eq_true rfl⟩ ?_
      refine mi_sem_steps mi_in126 (mi_calok_none _ _) 8 _ (21, [(0, .int 6), (1, .int a3)], [.int 99, .int 0, .int a3], (0, 0), mi_G) (by rfl) ?_
      have hM245 : mi_Met mi_N0 1 mi_h120 [.int a3, .int 0, .int 99] mi_G (some (.int 0)) mi_G := by
        refine mi_met_of (y := 120) (q := (mi_h120, mi_c120)) rfl (by decide) (Nat.le_of_ble_eq_true rfl) ?_
        refine mi_sem_steps mi_in120 (mi_calok_none _ _) 2 _ (2, [(0, .int a3), (1, .int 0), (2, .int 99)], [.int 0, .int a3], (0, 0), mi_G) (by rfl) ?_
        refine mi_sem_b mi_in120 (decide (a3 < 0)) false (mi_ltF (0) (by decide) (by omega)) 14 5 ([(0, .int a3), (1, .int 0), (2, .int 99)], [], (0, 0), mi_G) (by rfl) ?_
        refine mi_sem_steps mi_in120 (mi_calok_none _ _) 2 _ (7, [(0, .int a3), (1, .int 0), (2, .int 99)], [.int 99, .int a3], (0, 0), mi_G) (by rfl) ?_
        refine mi_sem_b mi_in120 (decide (99 < a3)) true (mi_ltT2 (99) (by decide) (by omega)) 14 10 ([(0, .int a3), (1, .int 0), (2, .int 99)], [], (0, 0), mi_G) (by rfl) ?_
        refine mi_sem_steps mi_in120 (mi_calok_none _ _) 1 _ (15, [(0, .int a3), (1, .int 0), (2, .int 99)], [.int 0], (0, 0), mi_G) (by rfl) ?_
        exact mi_sem_ret (cal := fun _ _ _ => none) mi_in120 (by rfl)
      refine mi_sem_call mi_in126 (i := (.invokestatic 74, 3, 120, 0, 9, 0, 152)) (by rfl) (by rfl) hM245 (by decide) ⟨Nat.le_of_ble_eq_true rfl, Nat.le_of_ble_eq_true rfl⟩ ?_
      refine mi_sem_steps mi_in126 (mi_calok_none _ _) 2 _ (32, [(0, .int 6), (1, .int a3)], [.int 0], (0, 0), mi_G) (by rfl) ?_
      exact mi_sem_ret (cal := fun _ _ _ => none) mi_in126 (by rfl)
    refine mi_sem_call mi_in83 (i := (.invokestatic 58, 3, 126, 0, 9, 0, 151)) (by rfl) (by rfl) hM246 (by decide) ⟨Nat.le_of_ble_eq_true rfl, Nat.le_of_ble_eq_true rfl⟩ ?_
    refine mi_sem_steps mi_in83 (mi_calok_none _ _) 2 _ (18, [(0, .ref 0), (1, .int 0), (2, .int 6), (3, .int a3)], [.int (-1)], (0, 0), mi_G) (by rfl) ?_
    exact mi_sem_ret (cal := fun _ _ _ => none) mi_in83 (by rfl)
  · refine mi_met_of (y := 142) (q := (mi_h142, mi_c142)) rfl (by decide) (Nat.le_of_ble_eq_true rfl) ?_
    refine mi_sem_steps mi_in142 (mi_calok_none _ _) 3 _ (3, [(0, .ref 116), (1, .int 0), (2, .int 6), (3, .int a3)], [.int 6, .int 0, .ref 116], (0, 0), mi_G) (by rfl) ?_
    have hM247 : mi_Met mi_N0 2 mi_h138 [.ref 116, .int 0, .int 6] mi_G (some (.int 1)) mi_G := mi_fun_ok mi_N0 2 138 (mi_h138, mi_c138) _ _ _ _ rfl (mi_eR_ok (by decide +kernel))
    refine mi_sem_call mi_in142 (i := (.invokevirtual 140, 3, 138, 0, 9, 0, 386)) (by rfl) (by rfl) hM247 (by decide) ⟨Nat.le_of_ble_eq_true rfl, Nat.le_of_ble_eq_true rfl⟩ ?_
    refine mi_sem_steps mi_in142 (mi_calok_none _ _) 3 _ (11, [(0, .ref 116), (1, .int 0), (2, .int 6), (3, .int a3)], [.int a3, .int 6], (0, 0), mi_G) (by rfl) ?_
    have hM249 : mi_Met mi_N0 2 mi_h139 [.int 6, .int a3] mi_G (some (.int 0)) mi_G := by
      refine mi_met_of (y := 139) (q := (mi_h139, mi_c139)) rfl (by decide) (Nat.le_of_ble_eq_true rfl) ?_
      refine mi_sem_steps mi_in139 (mi_calok_none _ _) 5 _ (72, [(0, .int 6), (1, .int a3)], [.int 99, .int 0, .int a3], (0, 0), mi_G) (by rfl) ?_
      have hM248 : mi_Met mi_N0 1 mi_h131 [.int a3, .int 0, .int 99] mi_G (some (.int 0)) mi_G := by
        refine mi_met_of (y := 131) (q := (mi_h131, mi_c131)) rfl (by decide) (Nat.le_of_ble_eq_true rfl) ?_
        refine mi_sem_steps mi_in131 (mi_calok_none _ _) 2 _ (2, [(0, .int a3), (1, .int 0), (2, .int 99)], [.int 0, .int a3], (0, 0), mi_G) (by rfl) ?_
        refine mi_sem_b mi_in131 (decide (a3 < 0)) false (mi_ltF (0) (by decide) (by omega)) 14 5 ([(0, .int a3), (1, .int 0), (2, .int 99)], [], (0, 0), mi_G) (by rfl) ?_
        refine mi_sem_steps mi_in131 (mi_calok_none _ _) 2 _ (7, [(0, .int a3), (1, .int 0), (2, .int 99)], [.int 99, .int a3], (0, 0), mi_G) (by rfl) ?_
        refine mi_sem_b mi_in131 (decide (99 < a3)) true (mi_ltT2 (99) (by decide) (by omega)) 14 10 ([(0, .int a3), (1, .int 0), (2, .int 99)], [], (0, 0), mi_G) (by rfl) ?_
        refine mi_sem_steps mi_in131 (mi_calok_none _ _) 1 _ (15, [(0, .int a3), (1, .int 0), (2, .int 99)], [.int 0], (0, 0), mi_G) (by rfl) ?_
        exact mi_sem_ret (cal := fun _ _ _ => none) mi_in131 (by rfl)
      refine mi_sem_call mi_in139 (i := (.invokestatic 119, 3, 131, 0, 9, 0, 379)) (by rfl) (by rfl) hM248 (by decide) ⟨Nat.le_of_ble_eq_true rfl, Nat.le_of_ble_eq_true rfl⟩ ?_
      exact mi_sem_ret (cal := fun _ _ _ => none) mi_in139 (by rfl)
    refine mi_sem_call mi_in142 (i := (.invokestatic 144, 3, 139, 0, 9, 0, 388)) (by rfl) (by rfl) hM249 (by decide) ⟨Nat.le_of_ble_eq_true rfl, Nat.le_of_ble_eq_true rfl⟩ ?_
    refine mi_sem_steps mi_in142 (mi_calok_none _ _) 2 _ (18, [(0, .ref 116), (1, .int 0), (2, .int 6), (3, .int a3)], [.int (-1)], (0, 0), mi_G) (by rfl) ?_
    exact mi_sem_ret (cal := fun _ _ _ => none) mi_in142 (by rfl)

set_option maxRecDepth 100000 in
set_option maxHeartbeats 4000000 in
theorem mp_mend_17 (a1 : Int32) (a2 : Int32) (a3 : Int32) (r0 : 4 ≤ (a2).toInt ∧ (a2).toInt ≤ 6) (r1 : 1 ≤ (a1).toInt ∧ (a1).toInt ≤ 2147483647) : mi_P 83 142 [.int a1, .int a2, .int a3] := by
  refine ⟨.int (-1), mi_G, mi_G, (mi_h83, mi_c83), (mi_h142, mi_c142), 2, 3, rfl, rfl, rfl, by decide, by decide, ?_, ?_⟩
  · refine mi_met_of (y := 83) (q := (mi_h83, mi_c83)) rfl (by decide) (Nat.le_of_ble_eq_true rfl) ?_
    refine mi_sem_steps mi_in83 (mi_calok_none _ _) 3 _ (3, [(0, .ref 0), (1, .int a1), (2, .int a2), (3, .int a3)], [.int a2, .int a1, .ref 0], (0, 0), mi_G) (by rfl) ?_
    have hM250 : mi_Met mi_N0 1 mi_h125 [.ref 0, .int a1, .int a2] mi_G (some (.int 0)) mi_G := by
      refine mi_met_of (y := 125) (q := (mi_h125, mi_c125)) rfl (by decide) (Nat.le_of_ble_eq_true rfl) ?_
      refine mi_sem_steps mi_in125 (mi_calok_none _ _) 1 _ (1, [(0, .ref 0), (1, .int a1), (2, .int a2)], [.int a2], (0, 0), mi_G) (by rfl) ?_
      refine mi_sem_b mi_in125 (decide (a2 < 0)) false (mi_ltF (0) (by decide) (by omega)) 17 4 ([(0, .ref 0), (1, .int a1), (2, .int a2)], [], (0, 0), mi_G) (by rfl) ?_
      refine mi_sem_steps mi_in125 (mi_calok_none _ _) 2 _ (6, [(0, .ref 0), (1, .int a1), (2, .int a2)], [.int 4, .int a2], (0, 0), mi_G) (by rfl) ?_
      refine mi_sem_b mi_in125 (decide (4 ≤ a2)) true (mi_leT2 (4) (by decide) (by omega)) 17 9 ([(0, .ref 0), (1, .int a1), (2, .int a2)], [], (0, 0), mi_G) (by rfl) ?_
      refine mi_sem_steps mi_in125 (mi_calok_none _ _) 2 _ (19, [(0, .ref 0), (1, .int a1), (2, .int a2)], [.int 4, .int a2], (0, 0), mi_G) (by rfl) ?_
      refine mi_sem_b mi_in125 (decide (a2 < 4)) false (mi_ltF (4) (by decide) (by omega)) 36 22 ([(0, .ref 0), (1, .int a1), (2, .int a2)], [], (0, 0), mi_G) (by rfl) ?_
      refine mi_sem_steps mi_in125 (mi_calok_none _ _) 2 _ (25, [(0, .ref 0), (1, .int a1), (2, .int a2)], [.int 6, .int a2], (0, 0), mi_G) (by rfl) ?_
      refine mi_sem_b mi_in125 (decide (6 < a2)) false (mi_ltF2 (6) (by decide) (by omega)) 36 28 ([(0, .ref 0), (1, .int a1), (2, .int a2)], [], (0, 0), mi_G) (by rfl) ?_
      refine mi_sem_steps mi_in125 (mi_calok_none _ _) 1 _ (29, [(0, .ref 0), (1, .int a1), (2, .int a2)], [.int a1], (0, 0), mi_G) (by rfl) ?_
      refine mi_sem_b mi_in125 ((a1 != 0)) true (mi_neT (0) (by decide) (by omega)) 36 32 ([(0, .ref 0), (1, .int a1), (2, .int a2)], [], (0, 0), mi_G) (by rfl) ?_
      refine mi_sem_steps mi_in125 (mi_calok_none _ _) 1 _ (37, [(0, .ref 0), (1, .int a1), (2, .int a2)], [.int 0], (0, 0), mi_G) (by rfl) ?_
      exact mi_sem_ret (cal := fun _ _ _ => none) mi_in125 (by rfl)
    refine mi_sem_call mi_in83 (i := (.invokevirtual 95, 3, 125, 0, 9, 0, 161)) (by rfl) (by rfl) hM250 (by decide) ⟨Nat.le_of_ble_eq_true rfl, Nat.le_of_ble_eq_true rfl⟩ ?_
    refine mi_sem_steps mi_in83 (mi_calok_none _ _) 2 _ (18, [(0, .ref 0), (1, .int a1), (2, .int a2), (3, .int a3)], [.int (-1)], (0, 0), mi_G) (by rfl) ?_
    exact mi_sem_ret (cal := fun _ _ _ => none) mi_in83 (by rfl)
  · refine mi_met_of (y := 142) (q := (mi_h142, mi_c142)) rfl (by decide) (Nat.le_of_ble_eq_true rfl) ?_
    refine mi_sem_steps mi_in142 (mi_calok_none _ _) 3 _ (3, [(0, .ref 116), (1, .int a1), (2, .int a2), (3, .int a3)], [.int a2, .int a1, .ref 116], (0, 0), mi_G) (by rfl) ?_
    have hM253 : mi_Met mi_N0 2 mi_h138 [.ref 116, .int a1, .int a2] mi_G (some (.int 0)) mi_G := by
      refine mi_met_of (y := 138) (q := (mi_h138, mi_c138)) rfl (by decide) (Nat.le_of_ble_eq_true rfl) ?_
      refine mi_sem_steps mi_in138 (mi_calok_none _ _) 3 _ (3, [(0, .ref 116), (1, .int a1), (2, .int a2)], [.int 3, .int 0, .int a2], (0, 0), mi_G) (by rfl) ?_
      have hM251 : mi_Met mi_N0 1 mi_h131 [.int a2, .int 0, .int 3] mi_G (some (.int 0)) mi_G := by
        refine mi_met_of (y := 131) (q := (mi_h131, mi_c131)) rfl (by decide) (Nat.le_of_ble_eq_true rfl) ?_
        refine mi_sem_steps mi_in131 (mi_calok_none _ _) 2 _ (2, [(0, .int a2), (1, .int 0), (2, .int 3)], [.int 0, .int a2], (0, 0), mi_G) (by rfl) ?_
        refine mi_sem_b mi_in131 (decide (a2 < 0)) false (mi_ltF (0) (by decide) (by omega)) 14 5 ([(0, .int a2), (1, .int 0), (2, .int 3)], [], (0, 0), mi_G) (by rfl) ?_
        refine mi_sem_steps mi_in131 (mi_calok_none _ _) 2 _ (7, [(0, .int a2), (1, .int 0), (2, .int 3)], [.int 3, .int a2], (0, 0), mi_G) (by rfl) ?_
        refine mi_sem_b mi_in131 (decide (3 < a2)) true (mi_ltT2 (3) (by decide) (by omega)) 14 10 ([(0, .int a2), (1, .int 0), (2, .int 3)], [], (0, 0), mi_G) (by rfl) ?_
        refine mi_sem_steps mi_in131 (mi_calok_none _ _) 1 _ (15, [(0, .int a2), (1, .int 0), (2, .int 3)], [.int 0], (0, 0), mi_G) (by rfl) ?_
        exact mi_sem_ret (cal := fun _ _ _ => none) mi_in131 (by rfl)
      refine mi_sem_call mi_in138 (i := (.invokestatic 119, 3, 131, 0, 9, 0, 379)) (by rfl) (by rfl) hM251 (by decide) ⟨Nat.le_of_ble_eq_true rfl, Nat.le_of_ble_eq_true rfl⟩ ?_
      refine mi_sem_steps mi_in138 (mi_calok_none _ _) 4 _ (21, [(0, .ref 116), (1, .int a1), (2, .int a2)], [.int 6, .int 4, .int a2], (0, 0), mi_G) (by rfl) ?_
      have hM252 : mi_Met mi_N0 1 mi_h131 [.int a2, .int 4, .int 6] mi_G (some (.int 1)) mi_G := by
        refine mi_met_of (y := 131) (q := (mi_h131, mi_c131)) rfl (by decide) (Nat.le_of_ble_eq_true rfl) ?_
        refine mi_sem_steps mi_in131 (mi_calok_none _ _) 2 _ (2, [(0, .int a2), (1, .int 4), (2, .int 6)], [.int 4, .int a2], (0, 0), mi_G) (by rfl) ?_
        refine mi_sem_b mi_in131 (decide (a2 < 4)) false (mi_ltF (4) (by decide) (by omega)) 14 5 ([(0, .int a2), (1, .int 4), (2, .int 6)], [], (0, 0), mi_G) (by rfl) ?_
        refine mi_sem_steps mi_in131 (mi_calok_none _ _) 2 _ (7, [(0, .int a2), (1, .int 4), (2, .int 6)], [.int 6, .int a2], (0, 0), mi_G) (by rfl) ?_
        refine mi_sem_b mi_in131 (decide (6 < a2)) false (mi_ltF2 (6) (by decide) (by omega)) 14 10 ([(0, .int a2), (1, .int 4), (2, .int 6)], [], (0, 0), mi_G) (by rfl) ?_
        refine mi_sem_steps mi_in131 (mi_calok_none _ _) 2 _ (15, [(0, .int a2), (1, .int 4), (2, .int 6)], [.int 1], (0, 0), mi_G) (by rfl) ?_
        exact mi_sem_ret (cal := fun _ _ _ => none) mi_in131 (by rfl)
      refine mi_sem_call mi_in138 (i := (.invokestatic 119, 3, 131, 0, 9, 0, 379)) (by rfl) (by rfl) hM252 (by decide) ⟨Nat.le_of_ble_eq_true rfl, Nat.le_of_ble_eq_true rfl⟩ ?_
      refine mi_sem_steps mi_in138 (mi_calok_none _ _) 2 _ (28, [(0, .ref 116), (1, .int a1), (2, .int a2)], [.int a1], (0, 0), mi_G) (by rfl) ?_
      refine mi_sem_b mi_in138 ((a1 != 0)) true (mi_neT (0) (by decide) (by omega)) 35 31 ([(0, .ref 116), (1, .int a1), (2, .int a2)], [], (0, 0), mi_G) (by rfl) ?_
      refine mi_sem_steps mi_in138 (mi_calok_none _ _) 1 _ (36, [(0, .ref 116), (1, .int a1), (2, .int a2)], [.int 0], (0, 0), mi_G) (by rfl) ?_
      exact mi_sem_ret (cal := fun _ _ _ => none) mi_in138 (by rfl)
    refine mi_sem_call mi_in142 (i := (.invokevirtual 140, 3, 138, 0, 9, 0, 386)) (by rfl) (by rfl) hM253 (by decide) ⟨Nat.le_of_ble_eq_true rfl, Nat.le_of_ble_eq_true rfl⟩ ?_
    refine mi_sem_steps mi_in142 (mi_calok_none _ _) 2 _ (18, [(0, .ref 116), (1, .int a1), (2, .int a2), (3, .int a3)], [.int (-1)], (0, 0), mi_G) (by rfl) ?_
    exact mi_sem_ret (cal := fun _ _ _ => none) mi_in142 (by rfl)

set_option maxRecDepth 100000 in
set_option maxHeartbeats 4000000 in
theorem mp_mend_18 (a1 : Int32) (a2 : Int32) (a3 : Int32) (r0 : 7 ≤ (a2).toInt ∧ (a2).toInt ≤ 2147483647) : mi_P 83 142 [.int a1, .int a2, .int a3] := by
  refine ⟨.int (-1), mi_G, mi_G, (mi_h83, mi_c83), (mi_h142, mi_c142), 2, 3, rfl, rfl, rfl, by decide, by decide, ?_, ?_⟩
  · refine mi_met_of (y := 83) (q := (mi_h83, mi_c83)) rfl (by decide) (Nat.le_of_ble_eq_true rfl) ?_
    refine mi_sem_steps mi_in83 (mi_calok_none _ _) 3 _ (3, [(0, .ref 0), (1, .int a1), (2, .int a2), (3, .int a3)], [.int a2, .int a1, .ref 0], (0, 0), mi_G) (by rfl) ?_
    have hM254 : mi_Met mi_N0 1 mi_h125 [.ref 0, .int a1, .int a2] mi_G (some (.int 0)) mi_G := by
      refine mi_met_of (y := 125) (q := (mi_h125, mi_c125)) rfl (by decide) (Nat.le_of_ble_eq_true rfl) ?_
      refine mi_sem_steps mi_in125 (mi_calok_none _ _) 1 _ (1, [(0, .ref 0), (1, .int a1), (2, .int a2)], [.int a2], (0, 0), mi_G) (by rfl) ?_
      refine mi_sem_b mi_in125 (decide (a2 < 0)) false (mi_ltF (0) (by decide) (by omega)) 17 4 ([(0, .ref 0), (1, .int a1), (2, .int a2)], [], (0, 0), mi_G) (by rfl) ?_
      refine mi_sem_steps mi_in125 (mi_calok_none _ _) 2 _ (6, [(0, .ref 0), (1, .int a1), (2, .int a2)], [.int 4, .int a2], (0, 0), mi_G) (by rfl) ?_
      refine mi_sem_b mi_in125 (decide (4 ≤ a2)) true (mi_leT2 (4) (by decide) (by omega)) 17 9 ([(0, .ref 0), (1, .int a1), (2, .int a2)], [], (0, 0), mi_G) (by rfl) ?_
      refine mi_sem_steps mi_in125 (mi_calok_none _ _) 2 _ (19, [(0, .ref 0), (1, .int a1), (2, .int a2)], [.int 4, .int a2], (0, 0), mi_G) (by rfl) ?_
      refine mi_sem_b mi_in125 (decide (a2 < 4)) false (mi_ltF (4) (by decide) (by omega)) 36 22 ([(0, .ref 0), (1, .int a1), (2, .int a2)], [], (0, 0), mi_G) (by rfl) ?_
      refine mi_sem_steps mi_in125 (mi_calok_none _ _) 2 _ (25, [(0, .ref 0), (1, .int a1), (2, .int a2)], [.int 6, .int a2], (0, 0), mi_G) (by rfl) ?_
      refine mi_sem_b mi_in125 (decide (6 < a2)) true (mi_ltT2 (6) (by decide) (by omega)) 36 28 ([(0, .ref 0), (1, .int a1), (2, .int a2)], [], (0, 0), mi_G) (by rfl) ?_
      refine mi_sem_steps mi_in125 (mi_calok_none _ _) 1 _ (37, [(0, .ref 0), (1, .int a1), (2, .int a2)], [.int 0], (0, 0), mi_G) (by rfl) ?_
      exact mi_sem_ret (cal := fun _ _ _ => none) mi_in125 (by rfl)
    refine mi_sem_call mi_in83 (i := (.invokevirtual 95, 3, 125, 0, 9, 0, 161)) (by rfl) (by rfl) hM254 (by decide) ⟨Nat.le_of_ble_eq_true rfl, Nat.le_of_ble_eq_true rfl⟩ ?_
    refine mi_sem_steps mi_in83 (mi_calok_none _ _) 2 _ (18, [(0, .ref 0), (1, .int a1), (2, .int a2), (3, .int a3)], [.int (-1)], (0, 0), mi_G) (by rfl) ?_
    exact mi_sem_ret (cal := fun _ _ _ => none) mi_in83 (by rfl)
  · refine mi_met_of (y := 142) (q := (mi_h142, mi_c142)) rfl (by decide) (Nat.le_of_ble_eq_true rfl) ?_
    refine mi_sem_steps mi_in142 (mi_calok_none _ _) 3 _ (3, [(0, .ref 116), (1, .int a1), (2, .int a2), (3, .int a3)], [.int a2, .int a1, .ref 116], (0, 0), mi_G) (by rfl) ?_
    have hM257 : mi_Met mi_N0 2 mi_h138 [.ref 116, .int a1, .int a2] mi_G (some (.int 0)) mi_G := by
      refine mi_met_of (y := 138) (q := (mi_h138, mi_c138)) rfl (by decide) (Nat.le_of_ble_eq_true rfl) ?_
      refine mi_sem_steps mi_in138 (mi_calok_none _ _) 3 _ (3, [(0, .ref 116), (1, .int a1), (2, .int a2)], [.int 3, .int 0, .int a2], (0, 0), mi_G) (by rfl) ?_
      have hM255 : mi_Met mi_N0 1 mi_h131 [.int a2, .int 0, .int 3] mi_G (some (.int 0)) mi_G := by
        refine mi_met_of (y := 131) (q := (mi_h131, mi_c131)) rfl (by decide) (Nat.le_of_ble_eq_true rfl) ?_
        refine mi_sem_steps mi_in131 (mi_calok_none _ _) 2 _ (2, [(0, .int a2), (1, .int 0), (2, .int 3)], [.int 0, .int a2], (0, 0), mi_G) (by rfl) ?_
        refine mi_sem_b mi_in131 (decide (a2 < 0)) false (mi_ltF (0) (by decide) (by omega)) 14 5 ([(0, .int a2), (1, .int 0), (2, .int 3)], [], (0, 0), mi_G) (by rfl) ?_
        refine mi_sem_steps mi_in131 (mi_calok_none _ _) 2 _ (7, [(0, .int a2), (1, .int 0), (2, .int 3)], [.int 3, .int a2], (0, 0), mi_G) (by rfl) ?_
        refine mi_sem_b mi_in131 (decide (3 < a2)) true (mi_ltT2 (3) (by decide) (by omega)) 14 10 ([(0, .int a2), (1, .int 0), (2, .int 3)], [], (0, 0), mi_G) (by rfl) ?_
        refine mi_sem_steps mi_in131 (mi_calok_none _ _) 1 _ (15, [(0, .int a2), (1, .int 0), (2, .int 3)], [.int 0], (0, 0), mi_G) (by rfl) ?_
        exact mi_sem_ret (cal := fun _ _ _ => none) mi_in131 (by rfl)
      refine mi_sem_call mi_in138 (i := (.invokestatic 119, 3, 131, 0, 9, 0, 379)) (by rfl) (by rfl) hM255 (by decide) ⟨Nat.le_of_ble_eq_true rfl, Nat.le_of_ble_eq_true rfl⟩ ?_
      refine mi_sem_steps mi_in138 (mi_calok_none _ _) 4 _ (21, [(0, .ref 116), (1, .int a1), (2, .int a2)], [.int 6, .int 4, .int a2], (0, 0), mi_G) (by rfl) ?_
      have hM256 : mi_Met mi_N0 1 mi_h131 [.int a2, .int 4, .int 6] mi_G (some (.int 0)) mi_G := by
        refine mi_met_of (y := 131) (q := (mi_h131, mi_c131)) rfl (by decide) (Nat.le_of_ble_eq_true rfl) ?_
        refine mi_sem_steps mi_in131 (mi_calok_none _ _) 2 _ (2, [(0, .int a2), (1, .int 4), (2, .int 6)], [.int 4, .int a2], (0, 0), mi_G) (by rfl) ?_
        refine mi_sem_b mi_in131 (decide (a2 < 4)) false (mi_ltF (4) (by decide) (by omega)) 14 5 ([(0, .int a2), (1, .int 4), (2, .int 6)], [], (0, 0), mi_G) (by rfl) ?_
        refine mi_sem_steps mi_in131 (mi_calok_none _ _) 2 _ (7, [(0, .int a2), (1, .int 4), (2, .int 6)], [.int 6, .int a2], (0, 0), mi_G) (by rfl) ?_
        refine mi_sem_b mi_in131 (decide (6 < a2)) true (mi_ltT2 (6) (by decide) (by omega)) 14 10 ([(0, .int a2), (1, .int 4), (2, .int 6)], [], (0, 0), mi_G) (by rfl) ?_
        refine mi_sem_steps mi_in131 (mi_calok_none _ _) 1 _ (15, [(0, .int a2), (1, .int 4), (2, .int 6)], [.int 0], (0, 0), mi_G) (by rfl) ?_
        exact mi_sem_ret (cal := fun _ _ _ => none) mi_in131 (by rfl)
      refine mi_sem_call mi_in138 (i := (.invokestatic 119, 3, 131, 0, 9, 0, 379)) (by rfl) (by rfl) hM256 (by decide) ⟨Nat.le_of_ble_eq_true rfl, Nat.le_of_ble_eq_true rfl⟩ ?_
      refine mi_sem_steps mi_in138 (mi_calok_none _ _) 2 _ (36, [(0, .ref 116), (1, .int a1), (2, .int a2)], [.int 0], (0, 0), mi_G) (by rfl) ?_
      exact mi_sem_ret (cal := fun _ _ _ => none) mi_in138 (by rfl)
    refine mi_sem_call mi_in142 (i := (.invokevirtual 140, 3, 138, 0, 9, 0, 386)) (by rfl) (by rfl) hM257 (by decide) ⟨Nat.le_of_ble_eq_true rfl, Nat.le_of_ble_eq_true rfl⟩ ?_
    refine mi_sem_steps mi_in142 (mi_calok_none _ _) 2 _ (18, [(0, .ref 116), (1, .int a1), (2, .int a2), (3, .int a3)], [.int (-1)], (0, 0), mi_G) (by rfl) ?_
    exact mi_sem_ret (cal := fun _ _ _ => none) mi_in142 (by rfl)

set_option maxRecDepth 100000 in
set_option maxHeartbeats 4000000 in
theorem mp_mend (a1 : Int32) (a2 : Int32) (a3 : Int32) : mi_P 83 142 [.int a1, .int a2, .int a3] := by
  have b0 := Int32.toInt_lt (a1)
  have c0 := Int32.le_toInt (a1)
  have b1 := Int32.toInt_lt (a2)
  have c1 := Int32.le_toInt (a2)
  have b2 := Int32.toInt_lt (a3)
  have c2 := Int32.le_toInt (a3)
  rcases Int.lt_or_le (a2).toInt 0 with _hh | _hh
  ·
    exact mp_mend_0 a1 a2 a3 ⟨by omega, by omega⟩
  ·
    rcases Int.lt_or_le (a2).toInt 4 with _hh | _hh
    ·
      rcases Int.lt_or_le (a1).toInt 0 with _hh | _hh
      ·
        exact mp_mend_1 a1 a2 a3 ⟨by omega, by omega⟩ ⟨by omega, by omega⟩
      ·
        exact mp_mend_2 a1 a2 a3 ⟨by omega, by omega⟩ ⟨by omega, by omega⟩
    ·
      rcases Int.lt_or_le (a2).toInt 7 with _hh | _hh
      ·
        rcases Int.lt_or_le (a1).toInt 0 with _hh | _hh
        ·
          exact mp_mend_3 a1 a2 a3 ⟨by omega, by omega⟩ ⟨by omega, by omega⟩
        ·
          rcases Int.lt_or_le (a1).toInt 1 with _hh | _hh
          ·
            rcases Int.lt_or_le (a2).toInt 5 with _hh | _hh
            ·
              rcases Int.lt_or_le (a3).toInt 1 with _hh | _hh
              ·
                have e_a1 : a1 = 0 := Int32.toInt_inj.mp ((by omega : (a1).toInt = 0).trans (by decide))
                subst e_a1
                have e_a2 : a2 = 4 := Int32.toInt_inj.mp ((by omega : (a2).toInt = 4).trans (by decide))
                subst e_a2
                exact mp_mend_4 a3 ⟨by omega, by omega⟩
              ·
                rcases Int.lt_or_le (a3).toInt 6 with _hh | _hh
                ·
                  rcases Int.lt_or_le (a3).toInt 3 with _hh | _hh
                  ·
                    have e_a1 : a1 = 0 := Int32.toInt_inj.mp ((by omega : (a1).toInt = 0).trans (by decide))
                    subst e_a1
                    have e_a2 : a2 = 4 := Int32.toInt_inj.mp ((by omega : (a2).toInt = 4).trans (by decide))
                    subst e_a2
                    exact mp_mend_5 a3 ⟨by omega, by omega⟩
                  ·
                    rcases Int.lt_or_le (a3).toInt 4 with _hh | _hh
                    ·
                      have e_a1 : a1 = 0 := Int32.toInt_inj.mp ((by omega : (a1).toInt = 0).trans (by decide))
                      subst e_a1
                      have e_a2 : a2 = 4 := Int32.toInt_inj.mp ((by omega : (a2).toInt = 4).trans (by decide))
                      subst e_a2
                      have e_a3 : a3 = 3 := Int32.toInt_inj.mp ((by omega : (a3).toInt = 3).trans (by decide))
                      subst e_a3
                      exact mp_mend_6  
                    ·
                      have e_a1 : a1 = 0 := Int32.toInt_inj.mp ((by omega : (a1).toInt = 0).trans (by decide))
                      subst e_a1
                      have e_a2 : a2 = 4 := Int32.toInt_inj.mp ((by omega : (a2).toInt = 4).trans (by decide))
                      subst e_a2
                      exact mp_mend_7 a3 ⟨by omega, by omega⟩
                ·
                  have e_a1 : a1 = 0 := Int32.toInt_inj.mp ((by omega : (a1).toInt = 0).trans (by decide))
                  subst e_a1
                  have e_a2 : a2 = 4 := Int32.toInt_inj.mp ((by omega : (a2).toInt = 4).trans (by decide))
                  subst e_a2
                  exact mp_mend_8 a3 ⟨by omega, by omega⟩
            ·
              rcases Int.lt_or_le (a2).toInt 6 with _hh | _hh
              ·
                rcases Int.lt_or_le (a3).toInt 0 with _hh | _hh
                ·
                  have e_a1 : a1 = 0 := Int32.toInt_inj.mp ((by omega : (a1).toInt = 0).trans (by decide))
                  subst e_a1
                  have e_a2 : a2 = 5 := Int32.toInt_inj.mp ((by omega : (a2).toInt = 5).trans (by decide))
                  subst e_a2
                  exact mp_mend_9 a3 ⟨by omega, by omega⟩
                ·
                  rcases Int.lt_or_le (a3).toInt 2 with _hh | _hh
                  ·
                    rcases Int.lt_or_le (a3).toInt 1 with _hh | _hh
                    ·
                      have e_a1 : a1 = 0 := Int32.toInt_inj.mp ((by omega : (a1).toInt = 0).trans (by decide))
                      subst e_a1
                      have e_a2 : a2 = 5 := Int32.toInt_inj.mp ((by omega : (a2).toInt = 5).trans (by decide))
                      subst e_a2
                      have e_a3 : a3 = 0 := Int32.toInt_inj.mp ((by omega : (a3).toInt = 0).trans (by decide))
                      subst e_a3
                      exact mp_mend_10  
                    ·
                      have e_a1 : a1 = 0 := Int32.toInt_inj.mp ((by omega : (a1).toInt = 0).trans (by decide))
                      subst e_a1
                      have e_a2 : a2 = 5 := Int32.toInt_inj.mp ((by omega : (a2).toInt = 5).trans (by decide))
                      subst e_a2
                      have e_a3 : a3 = 1 := Int32.toInt_inj.mp ((by omega : (a3).toInt = 1).trans (by decide))
                      subst e_a3
                      exact mp_mend_11  
                  ·
                    have e_a1 : a1 = 0 := Int32.toInt_inj.mp ((by omega : (a1).toInt = 0).trans (by decide))
                    subst e_a1
                    have e_a2 : a2 = 5 := Int32.toInt_inj.mp ((by omega : (a2).toInt = 5).trans (by decide))
                    subst e_a2
                    exact mp_mend_12 a3 ⟨by omega, by omega⟩
              ·
                rcases Int.lt_or_le (a3).toInt 0 with _hh | _hh
                ·
                  have e_a1 : a1 = 0 := Int32.toInt_inj.mp ((by omega : (a1).toInt = 0).trans (by decide))
                  subst e_a1
                  have e_a2 : a2 = 6 := Int32.toInt_inj.mp ((by omega : (a2).toInt = 6).trans (by decide))
                  subst e_a2
                  exact mp_mend_13 a3 ⟨by omega, by omega⟩
                ·
                  rcases Int.lt_or_le (a3).toInt 100 with _hh | _hh
                  ·
                    rcases Int.lt_or_le (a3).toInt 1 with _hh | _hh
                    ·
                      have e_a1 : a1 = 0 := Int32.toInt_inj.mp ((by omega : (a1).toInt = 0).trans (by decide))
                      subst e_a1
                      have e_a2 : a2 = 6 := Int32.toInt_inj.mp ((by omega : (a2).toInt = 6).trans (by decide))
                      subst e_a2
                      have e_a3 : a3 = 0 := Int32.toInt_inj.mp ((by omega : (a3).toInt = 0).trans (by decide))
                      subst e_a3
                      exact mp_mend_14  
                    ·
                      have e_a1 : a1 = 0 := Int32.toInt_inj.mp ((by omega : (a1).toInt = 0).trans (by decide))
                      subst e_a1
                      have e_a2 : a2 = 6 := Int32.toInt_inj.mp ((by omega : (a2).toInt = 6).trans (by decide))
                      subst e_a2
                      exact mp_mend_15 a3 ⟨by omega, by omega⟩
                  ·
                    have e_a1 : a1 = 0 := Int32.toInt_inj.mp ((by omega : (a1).toInt = 0).trans (by decide))
                    subst e_a1
                    have e_a2 : a2 = 6 := Int32.toInt_inj.mp ((by omega : (a2).toInt = 6).trans (by decide))
                    subst e_a2
                    exact mp_mend_16 a3 ⟨by omega, by omega⟩
          ·
            exact mp_mend_17 a1 a2 a3 ⟨by omega, by omega⟩ ⟨by omega, by omega⟩
      ·
        exact mp_mend_18 a1 a2 a3 ⟨by omega, by omega⟩

set_option maxRecDepth 100000 in
set_option maxHeartbeats 4000000 in
theorem mp_of_0 (a1 : Int32) (a2 : Int32) (r0 : (-2147483648) ≤ (a2).toInt ∧ (a2).toInt ≤ (-1)) : mi_P 84 143 [.int a1, .int a2] := by
  refine ⟨.int (-1), mi_G, mi_G, (mi_h84, mi_c84), (mi_h143, mi_c143), 2, 3, rfl, rfl, rfl, by decide, by decide, ?_, ?_⟩
  · refine mi_met_of (y := 84) (q := (mi_h84, mi_c84)) rfl (by decide) (Nat.le_of_ble_eq_true rfl) ?_
    refine mi_sem_steps mi_in84 (mi_calok_none _ _) 3 _ (3, [(0, .ref 0), (1, .int a1), (2, .int a2)], [.int a2, .int a1, .ref 0], (0, 0), mi_G) (by rfl) ?_
    have hM258 : mi_Met mi_N0 1 mi_h125 [.ref 0, .int a1, .int a2] mi_G (some (.int 0)) mi_G := by
      refine mi_met_of (y := 125) (q := (mi_h125, mi_c125)) rfl (by decide) (Nat.le_of_ble_eq_true rfl) ?_
      refine mi_sem_steps mi_in125 (mi_calok_none _ _) 1 _ (1, [(0, .ref 0), (1, .int a1), (2, .int a2)], [.int a2], (0, 0), mi_G) (by rfl) ?_
      refine mi_sem_b mi_in125 (decide (a2 < 0)) true (mi_ltT (0) (by decide) (by omega)) 17 4 ([(0, .ref 0), (1, .int a1), (2, .int a2)], [], (0, 0), mi_G) (by rfl) ?_
      refine mi_sem_steps mi_in125 (mi_calok_none _ _) 2 _ (19, [(0, .ref 0), (1, .int a1), (2, .int a2)], [.int 4, .int a2], (0, 0), mi_G) (by rfl) ?_
      refine mi_sem_b mi_in125 (decide (a2 < 4)) true (mi_ltT (4) (by decide) (by omega)) 36 22 ([(0, .ref 0), (1, .int a1), (2, .int a2)], [], (0, 0), mi_G) (by rfl) ?_
      refine mi_sem_steps mi_in125 (mi_calok_none _ _) 1 _ (37, [(0, .ref 0), (1, .int a1), (2, .int a2)], [.int 0], (0, 0), mi_G) (by rfl) ?_
      exact mi_sem_ret (cal := fun _ _ _ => none) mi_in125 (by rfl)
    refine mi_sem_call mi_in84 (i := (.invokevirtual 95, 3, 125, 0, 9, 0, 161)) (by rfl) (by rfl) hM258 (by decide) ⟨Nat.le_of_ble_eq_true rfl, Nat.le_of_ble_eq_true rfl⟩ ?_
    refine mi_sem_steps mi_in84 (mi_calok_none _ _) 2 _ (22, [(0, .ref 0), (1, .int a1), (2, .int a2)], [.int (-1)], (0, 0), mi_G) (by rfl) ?_
    exact mi_sem_ret (cal := fun _ _ _ => none) mi_in84 (by rfl)
  · refine mi_met_of (y := 143) (q := (mi_h143, mi_c143)) rfl (by decide) (Nat.le_of_ble_eq_true rfl) ?_
    refine mi_sem_steps mi_in143 (mi_calok_none _ _) 3 _ (3, [(0, .ref 116), (1, .int a1), (2, .int a2)], [.int a2, .int a1, .ref 116], (0, 0), mi_G) (by rfl) ?_
    have hM261 : mi_Met mi_N0 2 mi_h138 [.ref 116, .int a1, .int a2] mi_G (some (.int 0)) mi_G := by
      refine mi_met_of (y := 138) (q := (mi_h138, mi_c138)) rfl (by decide) (Nat.le_of_ble_eq_true rfl) ?_
      refine mi_sem_steps mi_in138 (mi_calok_none _ _) 3 _ (3, [(0, .ref 116), (1, .int a1), (2, .int a2)], [.int 3, .int 0, .int a2], (0, 0), mi_G) (by rfl) ?_
      have hM259 : mi_Met mi_N0 1 mi_h131 [.int a2, .int 0, .int 3] mi_G (some (.int 0)) mi_G := by
        refine mi_met_of (y := 131) (q := (mi_h131, mi_c131)) rfl (by decide) (Nat.le_of_ble_eq_true rfl) ?_
        refine mi_sem_steps mi_in131 (mi_calok_none _ _) 2 _ (2, [(0, .int a2), (1, .int 0), (2, .int 3)], [.int 0, .int a2], (0, 0), mi_G) (by rfl) ?_
        refine mi_sem_b mi_in131 (decide (a2 < 0)) true (mi_ltT (0) (by decide) (by omega)) 14 5 ([(0, .int a2), (1, .int 0), (2, .int 3)], [], (0, 0), mi_G) (by rfl) ?_
        refine mi_sem_steps mi_in131 (mi_calok_none _ _) 1 _ (15, [(0, .int a2), (1, .int 0), (2, .int 3)], [.int 0], (0, 0), mi_G) (by rfl) ?_
        exact mi_sem_ret (cal := fun _ _ _ => none) mi_in131 (by rfl)
      refine mi_sem_call mi_in138 (i := (.invokestatic 119, 3, 131, 0, 9, 0, 379)) (by rfl) (by rfl) hM259 (by decide) ⟨Nat.le_of_ble_eq_true rfl, Nat.le_of_ble_eq_true rfl⟩ ?_
      refine mi_sem_steps mi_in138 (mi_calok_none _ _) 4 _ (21, [(0, .ref 116), (1, .int a1), (2, .int a2)], [.int 6, .int 4, .int a2], (0, 0), mi_G) (by rfl) ?_
      have hM260 : mi_Met mi_N0 1 mi_h131 [.int a2, .int 4, .int 6] mi_G (some (.int 0)) mi_G := by
        refine mi_met_of (y := 131) (q := (mi_h131, mi_c131)) rfl (by decide) (Nat.le_of_ble_eq_true rfl) ?_
        refine mi_sem_steps mi_in131 (mi_calok_none _ _) 2 _ (2, [(0, .int a2), (1, .int 4), (2, .int 6)], [.int 4, .int a2], (0, 0), mi_G) (by rfl) ?_
        refine mi_sem_b mi_in131 (decide (a2 < 4)) true (mi_ltT (4) (by decide) (by omega)) 14 5 ([(0, .int a2), (1, .int 4), (2, .int 6)], [], (0, 0), mi_G) (by rfl) ?_
        refine mi_sem_steps mi_in131 (mi_calok_none _ _) 1 _ (15, [(0, .int a2), (1, .int 4), (2, .int 6)], [.int 0], (0, 0), mi_G) (by rfl) ?_
        exact mi_sem_ret (cal := fun _ _ _ => none) mi_in131 (by rfl)
      refine mi_sem_call mi_in138 (i := (.invokestatic 119, 3, 131, 0, 9, 0, 379)) (by rfl) (by rfl) hM260 (by decide) ⟨Nat.le_of_ble_eq_true rfl, Nat.le_of_ble_eq_true rfl⟩ ?_
      refine mi_sem_steps mi_in138 (mi_calok_none _ _) 2 _ (36, [(0, .ref 116), (1, .int a1), (2, .int a2)], [.int 0], (0, 0), mi_G) (by rfl) ?_
      exact mi_sem_ret (cal := fun _ _ _ => none) mi_in138 (by rfl)
    refine mi_sem_call mi_in143 (i := (.invokevirtual 140, 3, 138, 0, 9, 0, 386)) (by rfl) (by rfl) hM261 (by decide) ⟨Nat.le_of_ble_eq_true rfl, Nat.le_of_ble_eq_true rfl⟩ ?_
    refine mi_sem_steps mi_in143 (mi_calok_none _ _) 2 _ (19, [(0, .ref 116), (1, .int a1), (2, .int a2)], [.int (-1)], (0, 0), mi_G) (by rfl) ?_
    exact mi_sem_ret (cal := fun _ _ _ => none) mi_in143 (by rfl)

set_option maxRecDepth 100000 in
set_option maxHeartbeats 4000000 in
theorem mp_of_1 (a1 : Int32) (a2 : Int32) (r0 : 0 ≤ (a2).toInt ∧ (a2).toInt ≤ 3) (r1 : (-2147483648) ≤ (a1).toInt ∧ (a1).toInt ≤ (-1)) : mi_P 84 143 [.int a1, .int a2] := by
  refine ⟨.int (-1), mi_G, mi_G, (mi_h84, mi_c84), (mi_h143, mi_c143), 4, 4, rfl, rfl, rfl, by decide, by decide, ?_, ?_⟩
  · refine mi_met_of (y := 84) (q := (mi_h84, mi_c84)) rfl (by decide) (Nat.le_of_ble_eq_true rfl) ?_
    refine mi_sem_steps mi_in84 (mi_calok_none _ _) 3 _ (3, [(0, .ref 0), (1, .int a1), (2, .int a2)], [.int a2, .int a1, .ref 0], (0, 0), mi_G) (by rfl) ?_
    have hM264 : mi_Met mi_N0 3 mi_h125 [.ref 0, .int a1, .int a2] mi_G (some (.int 0)) mi_G := by
      refine mi_met_of (y := 125) (q := (mi_h125, mi_c125)) rfl (by decide) (Nat.le_of_ble_eq_true rfl) ?_
      refine mi_sem_steps mi_in125 (mi_calok_none _ _) 1 _ (1, [(0, .ref 0), (1, .int a1), (2, .int a2)], [.int a2], (0, 0), mi_G) (by rfl) ?_
      refine mi_sem_b mi_in125 (decide (a2 < 0)) false (mi_ltF (0) (by decide) (by omega)) 17 4 ([(0, .ref 0), (1, .int a1), (2, .int a2)], [], (0, 0), mi_G) (by rfl) ?_
      refine mi_sem_steps mi_in125 (mi_calok_none _ _) 2 _ (6, [(0, .ref 0), (1, .int a1), (2, .int a2)], [.int 4, .int a2], (0, 0), mi_G) (by rfl) ?_
      refine mi_sem_b mi_in125 (decide (4 ≤ a2)) false (mi_leF2 (4) (by decide) (by omega)) 17 9 ([(0, .ref 0), (1, .int a1), (2, .int a2)], [], (0, 0), mi_G) (by rfl) ?_
      refine mi_sem_steps mi_in125 (mi_calok_none _ _) 2 _ (11, [(0, .ref 0), (1, .int a1), (2, .int a2)], [.int a1, .ref 0], (0, 0), mi_G) (by rfl) ?_
      have hM263 : mi_Met mi_N0 2 mi_h123 [.ref 0, .int a1] mi_G (some (.int 0)) mi_G := by
        refine mi_met_of (y := 123) (q := (mi_h123, mi_c123)) rfl (by decide) (Nat.le_of_ble_eq_true rfl) ?_
        refine mi_sem_steps mi_in123 (mi_calok_none _ _) 3 _ (5, [(0, .ref 0), (1, .int a1)], [.int a1, .ref 1], (0, 0), mi_G) (by rfl) ?_
        have hM262 : mi_Met mi_N0 1 mi_h24 [.ref 1, .int a1] mi_G (some (.int 0)) mi_G := by
          refine mi_met_of (y := 24) (q := (mi_h24, mi_c24)) rfl (by decide) (Nat.le_of_ble_eq_true rfl) ?_
          refine mi_sem_steps mi_in24 (mi_calok_none _ _) 1 _ (1, [(0, .ref 1), (1, .int a1)], [.int a1], (0, 0), mi_G) (by rfl) ?_
          refine mi_sem_b mi_in24 (decide (a1 < 0)) true (mi_ltT (0) (by decide) (by omega)) 22 4 ([(0, .ref 1), (1, .int a1)], [], (0, 0), mi_G) (by rfl) ?_
          refine mi_sem_steps mi_in24 (mi_calok_none _ _) 1 _ (23, [(0, .ref 1), (1, .int a1)], [.int 0], (0, 0), mi_G) (by rfl) ?_
          exact mi_sem_ret (cal := fun _ _ _ => none) mi_in24 (by rfl)
        refine mi_sem_call mi_in123 (i := (.invokevirtual 342, 3, 24, 0, 9, 0, 163)) (by rfl) (by rfl) hM262 (by decide) ⟨Nat.le_of_ble_eq_true rfl, Nat.le_of_ble_eq_true rfl⟩ ?_
        exact mi_sem_ret (cal := fun _ _ _ => none) mi_in123 (by rfl)
      refine mi_sem_call mi_in125 (i := (.invokevirtual 141, 3, 123, 0, 9, 0, 162)) (by rfl) (by rfl) hM263 (by decide) ⟨Nat.le_of_ble_eq_true rfl, Nat.le_of_ble_eq_true rfl⟩ ?_
      refine mi_sem_steps mi_in125 (mi_calok_none _ _) 3 _ (19, [(0, .ref 0), (1, .int a1), (2, .int a2)], [.int 4, .int a2], (0, 0), mi_G) (by rfl) ?_
      refine mi_sem_b mi_in125 (decide (a2 < 4)) true (mi_ltT (4) (by decide) (by omega)) 36 22 ([(0, .ref 0), (1, .int a1), (2, .int a2)], [], (0, 0), mi_G) (by rfl) ?_
      refine mi_sem_steps mi_in125 (mi_calok_none _ _) 1 _ (37, [(0, .ref 0), (1, .int a1), (2, .int a2)], [.int 0], (0, 0), mi_G) (by rfl) ?_
      exact mi_sem_ret (cal := fun _ _ _ => none) mi_in125 (by rfl)
    refine mi_sem_call mi_in84 (i := (.invokevirtual 95, 3, 125, 0, 9, 0, 161)) (by rfl) (by rfl) hM264 (by decide) ⟨Nat.le_of_ble_eq_true rfl, Nat.le_of_ble_eq_true rfl⟩ ?_
    refine mi_sem_steps mi_in84 (mi_calok_none _ _) 2 _ (22, [(0, .ref 0), (1, .int a1), (2, .int a2)], [.int (-1)], (0, 0), mi_G) (by rfl) ?_
    exact mi_sem_ret (cal := fun _ _ _ => none) mi_in84 (by rfl)
  · refine mi_met_of (y := 143) (q := (mi_h143, mi_c143)) rfl (by decide) (Nat.le_of_ble_eq_true rfl) ?_
    refine mi_sem_steps mi_in143 (mi_calok_none _ _) 3 _ (3, [(0, .ref 116), (1, .int a1), (2, .int a2)], [.int a2, .int a1, .ref 116], (0, 0), mi_G) (by rfl) ?_
    have hM268 : mi_Met mi_N0 3 mi_h138 [.ref 116, .int a1, .int a2] mi_G (some (.int 0)) mi_G := by
      refine mi_met_of (y := 138) (q := (mi_h138, mi_c138)) rfl (by decide) (Nat.le_of_ble_eq_true rfl) ?_
      refine mi_sem_steps mi_in138 (mi_calok_none _ _) 3 _ (3, [(0, .ref 116), (1, .int a1), (2, .int a2)], [.int 3, .int 0, .int a2], (0, 0), mi_G) (by rfl) ?_
      have hM265 : mi_Met mi_N0 1 mi_h131 [.int a2, .int 0, .int 3] mi_G (some (.int 1)) mi_G := by
        refine mi_met_of (y := 131) (q := (mi_h131, mi_c131)) rfl (by decide) (Nat.le_of_ble_eq_true rfl) ?_
        refine mi_sem_steps mi_in131 (mi_calok_none _ _) 2 _ (2, [(0, .int a2), (1, .int 0), (2, .int 3)], [.int 0, .int a2], (0, 0), mi_G) (by rfl) ?_
        refine mi_sem_b mi_in131 (decide (a2 < 0)) false (mi_ltF (0) (by decide) (by omega)) 14 5 ([(0, .int a2), (1, .int 0), (2, .int 3)], [], (0, 0), mi_G) (by rfl) ?_
        refine mi_sem_steps mi_in131 (mi_calok_none _ _) 2 _ (7, [(0, .int a2), (1, .int 0), (2, .int 3)], [.int 3, .int a2], (0, 0), mi_G) (by rfl) ?_
        refine mi_sem_b mi_in131 (decide (3 < a2)) false (mi_ltF2 (3) (by decide) (by omega)) 14 10 ([(0, .int a2), (1, .int 0), (2, .int 3)], [], (0, 0), mi_G) (by rfl) ?_
        refine mi_sem_steps mi_in131 (mi_calok_none _ _) 2 _ (15, [(0, .int a2), (1, .int 0), (2, .int 3)], [.int 1], (0, 0), mi_G) (by rfl) ?_
        exact mi_sem_ret (cal := fun _ _ _ => none) mi_in131 (by rfl)
      refine mi_sem_call mi_in138 (i := (.invokestatic 119, 3, 131, 0, 9, 0, 379)) (by rfl) (by rfl) hM265 (by decide) ⟨Nat.le_of_ble_eq_true rfl, Nat.le_of_ble_eq_true rfl⟩ ?_
      refine mi_sem_steps mi_in138 (mi_calok_none _ _) 3 _ (11, [(0, .ref 116), (1, .int a1), (2, .int a2)], [.int a1, .ref 116], (0, 0), mi_G) (by rfl) ?_
      have hM267 : mi_Met mi_N0 2 mi_h132 [.ref 116, .int a1] mi_G (some (.int 0)) mi_G := by
        refine mi_met_of (y := 132) (q := (mi_h132, mi_c132)) rfl (by decide) (Nat.le_of_ble_eq_true rfl) ?_
        refine mi_sem_steps mi_in132 (mi_calok_none _ _) 6 _ (8, [(0, .ref 116), (1, .int a1)], [.int (-1), .int 0, .int a1], (0, 0), mi_G) (by rfl) ?_
        have hM266 : mi_Met mi_N0 1 mi_h131 [.int a1, .int 0, .int (-1)] mi_G (some (.int 0)) mi_G := by
          refine mi_met_of (y := 131) (q := (mi_h131, mi_c131)) rfl (by decide) (Nat.le_of_ble_eq_true rfl) ?_
          refine mi_sem_steps mi_in131 (mi_calok_none _ _) 2 _ (2, [(0, .int a1), (1, .int 0), (2, .int (-1))], [.int 0, .int a1], (0, 0), mi_G) (by rfl) ?_
          refine mi_sem_b mi_in131 (decide (a1 < 0)) true (mi_ltT (0) (by decide) (by omega)) 14 5 ([(0, .int a1), (1, .int 0), (2, .int (-1))], [], (0, 0), mi_G) (by rfl) ?_
          refine mi_sem_steps mi_in131 (mi_calok_none _ _) 1 _ (15, [(0, .int a1), (1, .int 0), (2, .int (-1))], [.int 0], (0, 0), mi_G) (by rfl) ?_
          exact mi_sem_ret (cal := fun _ _ _ => none) mi_in131 (by rfl)
        refine mi_sem_call mi_in132 (i := (.invokestatic 119, 3, 131, 0, 9, 0, 379)) (by rfl) (by rfl) hM266 (by decide) ⟨Nat.le_of_ble_eq_true rfl, Nat.le_of_ble_eq_true rfl⟩ ?_
        exact mi_sem_ret (cal := fun _ _ _ => none) mi_in132 (by rfl)
      refine mi_sem_call mi_in138 (i := (.invokevirtual 137, 3, 132, 0, 9, 0, 387)) (by rfl) (by rfl) hM267 (by decide) ⟨Nat.le_of_ble_eq_true rfl, Nat.le_of_ble_eq_true rfl⟩ ?_
      refine mi_sem_steps mi_in138 (mi_calok_none _ _) 1 _ (36, [(0, .ref 116), (1, .int a1), (2, .int a2)], [.int 0], (0, 0), mi_G) (by rfl) ?_
      exact mi_sem_ret (cal := fun _ _ _ => none) mi_in138 (by rfl)
    refine mi_sem_call mi_in143 (i := (.invokevirtual 140, 3, 138, 0, 9, 0, 386)) (by rfl) (by rfl) hM268 (by decide) ⟨Nat.le_of_ble_eq_true rfl, Nat.le_of_ble_eq_true rfl⟩ ?_
    refine mi_sem_steps mi_in143 (mi_calok_none _ _) 2 _ (19, [(0, .ref 116), (1, .int a1), (2, .int a2)], [.int (-1)], (0, 0), mi_G) (by rfl) ?_
    exact mi_sem_ret (cal := fun _ _ _ => none) mi_in143 (by rfl)

set_option maxRecDepth 100000 in
set_option maxHeartbeats 4000000 in
theorem mp_of_2 (a1 : Int32) (a2 : Int32) (r0 : 0 ≤ (a2).toInt ∧ (a2).toInt ≤ 3) (r1 : 0 ≤ (a1).toInt ∧ (a1).toInt ≤ 2147483647) : mi_P 84 143 [.int a1, .int a2] := by
  refine ⟨.int (-1), mi_G, mi_G, (mi_h84, mi_c84), (mi_h143, mi_c143), 4, 4, rfl, rfl, rfl, by decide, by decide, ?_, ?_⟩
  · refine mi_met_of (y := 84) (q := (mi_h84, mi_c84)) rfl (by decide) (Nat.le_of_ble_eq_true rfl) ?_
    refine mi_sem_steps mi_in84 (mi_calok_none _ _) 3 _ (3, [(0, .ref 0), (1, .int a1), (2, .int a2)], [.int a2, .int a1, .ref 0], (0, 0), mi_G) (by rfl) ?_
    have hM271 : mi_Met mi_N0 3 mi_h125 [.ref 0, .int a1, .int a2] mi_G (some (.int 0)) mi_G := by
      refine mi_met_of (y := 125) (q := (mi_h125, mi_c125)) rfl (by decide) (Nat.le_of_ble_eq_true rfl) ?_
      refine mi_sem_steps mi_in125 (mi_calok_none _ _) 1 _ (1, [(0, .ref 0), (1, .int a1), (2, .int a2)], [.int a2], (0, 0), mi_G) (by rfl) ?_
      refine mi_sem_b mi_in125 (decide (a2 < 0)) false (mi_ltF (0) (by decide) (by omega)) 17 4 ([(0, .ref 0), (1, .int a1), (2, .int a2)], [], (0, 0), mi_G) (by rfl) ?_
      refine mi_sem_steps mi_in125 (mi_calok_none _ _) 2 _ (6, [(0, .ref 0), (1, .int a1), (2, .int a2)], [.int 4, .int a2], (0, 0), mi_G) (by rfl) ?_
      refine mi_sem_b mi_in125 (decide (4 ≤ a2)) false (mi_leF2 (4) (by decide) (by omega)) 17 9 ([(0, .ref 0), (1, .int a1), (2, .int a2)], [], (0, 0), mi_G) (by rfl) ?_
      refine mi_sem_steps mi_in125 (mi_calok_none _ _) 2 _ (11, [(0, .ref 0), (1, .int a1), (2, .int a2)], [.int a1, .ref 0], (0, 0), mi_G) (by rfl) ?_
      have hM270 : mi_Met mi_N0 2 mi_h123 [.ref 0, .int a1] mi_G (some (.int 0)) mi_G := by
        refine mi_met_of (y := 123) (q := (mi_h123, mi_c123)) rfl (by decide) (Nat.le_of_ble_eq_true rfl) ?_
        refine mi_sem_steps mi_in123 (mi_calok_none _ _) 3 _ (5, [(0, .ref 0), (1, .int a1)], [.int a1, .ref 1], (0, 0), mi_G) (by rfl) ?_
        have hM269 : mi_Met mi_N0 1 mi_h24 [.ref 1, .int a1] mi_G (some (.int 0)) mi_G := by
          refine mi_met_of (y := 24) (q := (mi_h24, mi_c24)) rfl (by decide) (Nat.le_of_ble_eq_true rfl) ?_
          refine mi_sem_steps mi_in24 (mi_calok_none _ _) 1 _ (1, [(0, .ref 1), (1, .int a1)], [.int a1], (0, 0), mi_G) (by rfl) ?_
          refine mi_sem_b mi_in24 (decide (a1 < 0)) false (mi_ltF (0) (by decide) (by omega)) 22 4 ([(0, .ref 1), (1, .int a1)], [], (0, 0), mi_G) (by rfl) ?_
          refine mi_sem_steps mi_in24 (mi_calok_none _ _) 3 _ (9, [(0, .ref 1), (1, .int a1)], [.int 0, .int a1], (0, 0), mi_G) (by rfl) ?_
          refine mi_sem_b mi_in24 (decide (0 ≤ a1)) true (mi_leT2 (0) (by decide) (by omega)) 22 12 ([(0, .ref 1), (1, .int a1)], [], (0, 0), mi_G) (by rfl) ?_
          refine mi_sem_steps mi_in24 (mi_calok_none _ _) 1 _ (23, [(0, .ref 1), (1, .int a1)], [.int 0], (0, 0), mi_G) (by rfl) ?_
          exact mi_sem_ret (cal := fun _ _ _ => none) mi_in24 (by rfl)
        refine mi_sem_call mi_in123 (i := (.invokevirtual 342, 3, 24, 0, 9, 0, 163)) (by rfl) (by rfl) hM269 (by decide) ⟨Nat.le_of_ble_eq_true rfl, Nat.le_of_ble_eq_true rfl⟩ ?_
        exact mi_sem_ret (cal := fun _ _ _ => none) mi_in123 (by rfl)
      refine mi_sem_call mi_in125 (i := (.invokevirtual 141, 3, 123, 0, 9, 0, 162)) (by rfl) (by rfl) hM270 (by decide) ⟨Nat.le_of_ble_eq_true rfl, Nat.le_of_ble_eq_true rfl⟩ ?_
      refine mi_sem_steps mi_in125 (mi_calok_none _ _) 3 _ (19, [(0, .ref 0), (1, .int a1), (2, .int a2)], [.int 4, .int a2], (0, 0), mi_G) (by rfl) ?_
      refine mi_sem_b mi_in125 (decide (a2 < 4)) true (mi_ltT (4) (by decide) (by omega)) 36 22 ([(0, .ref 0), (1, .int a1), (2, .int a2)], [], (0, 0), mi_G) (by rfl) ?_
      refine mi_sem_steps mi_in125 (mi_calok_none _ _) 1 _ (37, [(0, .ref 0), (1, .int a1), (2, .int a2)], [.int 0], (0, 0), mi_G) (by rfl) ?_
      exact mi_sem_ret (cal := fun _ _ _ => none) mi_in125 (by rfl)
    refine mi_sem_call mi_in84 (i := (.invokevirtual 95, 3, 125, 0, 9, 0, 161)) (by rfl) (by rfl) hM271 (by decide) ⟨Nat.le_of_ble_eq_true rfl, Nat.le_of_ble_eq_true rfl⟩ ?_
    refine mi_sem_steps mi_in84 (mi_calok_none _ _) 2 _ (22, [(0, .ref 0), (1, .int a1), (2, .int a2)], [.int (-1)], (0, 0), mi_G) (by rfl) ?_
    exact mi_sem_ret (cal := fun _ _ _ => none) mi_in84 (by rfl)
  · refine mi_met_of (y := 143) (q := (mi_h143, mi_c143)) rfl (by decide) (Nat.le_of_ble_eq_true rfl) ?_
    refine mi_sem_steps mi_in143 (mi_calok_none _ _) 3 _ (3, [(0, .ref 116), (1, .int a1), (2, .int a2)], [.int a2, .int a1, .ref 116], (0, 0), mi_G) (by rfl) ?_
    have hM275 : mi_Met mi_N0 3 mi_h138 [.ref 116, .int a1, .int a2] mi_G (some (.int 0)) mi_G := by
      refine mi_met_of (y := 138) (q := (mi_h138, mi_c138)) rfl (by decide) (Nat.le_of_ble_eq_true rfl) ?_
      refine mi_sem_steps mi_in138 (mi_calok_none _ _) 3 _ (3, [(0, .ref 116), (1, .int a1), (2, .int a2)], [.int 3, .int 0, .int a2], (0, 0), mi_G) (by rfl) ?_
      have hM272 : mi_Met mi_N0 1 mi_h131 [.int a2, .int 0, .int 3] mi_G (some (.int 1)) mi_G := by
        refine mi_met_of (y := 131) (q := (mi_h131, mi_c131)) rfl (by decide) (Nat.le_of_ble_eq_true rfl) ?_
        refine mi_sem_steps mi_in131 (mi_calok_none _ _) 2 _ (2, [(0, .int a2), (1, .int 0), (2, .int 3)], [.int 0, .int a2], (0, 0), mi_G) (by rfl) ?_
        refine mi_sem_b mi_in131 (decide (a2 < 0)) false (mi_ltF (0) (by decide) (by omega)) 14 5 ([(0, .int a2), (1, .int 0), (2, .int 3)], [], (0, 0), mi_G) (by rfl) ?_
        refine mi_sem_steps mi_in131 (mi_calok_none _ _) 2 _ (7, [(0, .int a2), (1, .int 0), (2, .int 3)], [.int 3, .int a2], (0, 0), mi_G) (by rfl) ?_
        refine mi_sem_b mi_in131 (decide (3 < a2)) false (mi_ltF2 (3) (by decide) (by omega)) 14 10 ([(0, .int a2), (1, .int 0), (2, .int 3)], [], (0, 0), mi_G) (by rfl) ?_
        refine mi_sem_steps mi_in131 (mi_calok_none _ _) 2 _ (15, [(0, .int a2), (1, .int 0), (2, .int 3)], [.int 1], (0, 0), mi_G) (by rfl) ?_
        exact mi_sem_ret (cal := fun _ _ _ => none) mi_in131 (by rfl)
      refine mi_sem_call mi_in138 (i := (.invokestatic 119, 3, 131, 0, 9, 0, 379)) (by rfl) (by rfl) hM272 (by decide) ⟨Nat.le_of_ble_eq_true rfl, Nat.le_of_ble_eq_true rfl⟩ ?_
      refine mi_sem_steps mi_in138 (mi_calok_none _ _) 3 _ (11, [(0, .ref 116), (1, .int a1), (2, .int a2)], [.int a1, .ref 116], (0, 0), mi_G) (by rfl) ?_
      have hM274 : mi_Met mi_N0 2 mi_h132 [.ref 116, .int a1] mi_G (some (.int 0)) mi_G := by
        refine mi_met_of (y := 132) (q := (mi_h132, mi_c132)) rfl (by decide) (Nat.le_of_ble_eq_true rfl) ?_
        refine mi_sem_steps mi_in132 (mi_calok_none _ _) 6 _ (8, [(0, .ref 116), (1, .int a1)], [.int (-1), .int 0, .int a1], (0, 0), mi_G) (by rfl) ?_
        have hM273 : mi_Met mi_N0 1 mi_h131 [.int a1, .int 0, .int (-1)] mi_G (some (.int 0)) mi_G := by
          refine mi_met_of (y := 131) (q := (mi_h131, mi_c131)) rfl (by decide) (Nat.le_of_ble_eq_true rfl) ?_
          refine mi_sem_steps mi_in131 (mi_calok_none _ _) 2 _ (2, [(0, .int a1), (1, .int 0), (2, .int (-1))], [.int 0, .int a1], (0, 0), mi_G) (by rfl) ?_
          refine mi_sem_b mi_in131 (decide (a1 < 0)) false (mi_ltF (0) (by decide) (by omega)) 14 5 ([(0, .int a1), (1, .int 0), (2, .int (-1))], [], (0, 0), mi_G) (by rfl) ?_
          refine mi_sem_steps mi_in131 (mi_calok_none _ _) 2 _ (7, [(0, .int a1), (1, .int 0), (2, .int (-1))], [.int (-1), .int a1], (0, 0), mi_G) (by rfl) ?_
          refine mi_sem_b mi_in131 (decide ((-1) < a1)) true (mi_ltT2 (-1) (by decide) (by omega)) 14 10 ([(0, .int a1), (1, .int 0), (2, .int (-1))], [], (0, 0), mi_G) (by rfl) ?_
          refine mi_sem_steps mi_in131 (mi_calok_none _ _) 1 _ (15, [(0, .int a1), (1, .int 0), (2, .int (-1))], [.int 0], (0, 0), mi_G) (by rfl) ?_
          exact mi_sem_ret (cal := fun _ _ _ => none) mi_in131 (by rfl)
        refine mi_sem_call mi_in132 (i := (.invokestatic 119, 3, 131, 0, 9, 0, 379)) (by rfl) (by rfl) hM273 (by decide) ⟨Nat.le_of_ble_eq_true rfl, Nat.le_of_ble_eq_true rfl⟩ ?_
        exact mi_sem_ret (cal := fun _ _ _ => none) mi_in132 (by rfl)
      refine mi_sem_call mi_in138 (i := (.invokevirtual 137, 3, 132, 0, 9, 0, 387)) (by rfl) (by rfl) hM274 (by decide) ⟨Nat.le_of_ble_eq_true rfl, Nat.le_of_ble_eq_true rfl⟩ ?_
      refine mi_sem_steps mi_in138 (mi_calok_none _ _) 1 _ (36, [(0, .ref 116), (1, .int a1), (2, .int a2)], [.int 0], (0, 0), mi_G) (by rfl) ?_
      exact mi_sem_ret (cal := fun _ _ _ => none) mi_in138 (by rfl)
    refine mi_sem_call mi_in143 (i := (.invokevirtual 140, 3, 138, 0, 9, 0, 386)) (by rfl) (by rfl) hM275 (by decide) ⟨Nat.le_of_ble_eq_true rfl, Nat.le_of_ble_eq_true rfl⟩ ?_
    refine mi_sem_steps mi_in143 (mi_calok_none _ _) 2 _ (19, [(0, .ref 116), (1, .int a1), (2, .int a2)], [.int (-1)], (0, 0), mi_G) (by rfl) ?_
    exact mi_sem_ret (cal := fun _ _ _ => none) mi_in143 (by rfl)

set_option maxRecDepth 100000 in
set_option maxHeartbeats 4000000 in
theorem mp_of_3 (a1 : Int32) (a2 : Int32) (r0 : 4 ≤ (a2).toInt ∧ (a2).toInt ≤ 6) (r1 : (-2147483648) ≤ (a1).toInt ∧ (a1).toInt ≤ (-1)) : mi_P 84 143 [.int a1, .int a2] := by
  refine ⟨.int (-1), mi_G, mi_G, (mi_h84, mi_c84), (mi_h143, mi_c143), 2, 3, rfl, rfl, rfl, by decide, by decide, ?_, ?_⟩
  · refine mi_met_of (y := 84) (q := (mi_h84, mi_c84)) rfl (by decide) (Nat.le_of_ble_eq_true rfl) ?_
    refine mi_sem_steps mi_in84 (mi_calok_none _ _) 3 _ (3, [(0, .ref 0), (1, .int a1), (2, .int a2)], [.int a2, .int a1, .ref 0], (0, 0), mi_G) (by rfl) ?_
    have hM276 : mi_Met mi_N0 1 mi_h125 [.ref 0, .int a1, .int a2] mi_G (some (.int 0)) mi_G := by
      refine mi_met_of (y := 125) (q := (mi_h125, mi_c125)) rfl (by decide) (Nat.le_of_ble_eq_true rfl) ?_
      refine mi_sem_steps mi_in125 (mi_calok_none _ _) 1 _ (1, [(0, .ref 0), (1, .int a1), (2, .int a2)], [.int a2], (0, 0), mi_G) (by rfl) ?_
      refine mi_sem_b mi_in125 (decide (a2 < 0)) false (mi_ltF (0) (by decide) (by omega)) 17 4 ([(0, .ref 0), (1, .int a1), (2, .int a2)], [], (0, 0), mi_G) (by rfl) ?_
      refine mi_sem_steps mi_in125 (mi_calok_none _ _) 2 _ (6, [(0, .ref 0), (1, .int a1), (2, .int a2)], [.int 4, .int a2], (0, 0), mi_G) (by rfl) ?_
      refine mi_sem_b mi_in125 (decide (4 ≤ a2)) true (mi_leT2 (4) (by decide) (by omega)) 17 9 ([(0, .ref 0), (1, .int a1), (2, .int a2)], [], (0, 0), mi_G) (by rfl) ?_
      refine mi_sem_steps mi_in125 (mi_calok_none _ _) 2 _ (19, [(0, .ref 0), (1, .int a1), (2, .int a2)], [.int 4, .int a2], (0, 0), mi_G) (by rfl) ?_
      refine mi_sem_b mi_in125 (decide (a2 < 4)) false (mi_ltF (4) (by decide) (by omega)) 36 22 ([(0, .ref 0), (1, .int a1), (2, .int a2)], [], (0, 0), mi_G) (by rfl) ?_
      refine mi_sem_steps mi_in125 (mi_calok_none _ _) 2 _ (25, [(0, .ref 0), (1, .int a1), (2, .int a2)], [.int 6, .int a2], (0, 0), mi_G) (by rfl) ?_
      refine mi_sem_b mi_in125 (decide (6 < a2)) false (mi_ltF2 (6) (by decide) (by omega)) 36 28 ([(0, .ref 0), (1, .int a1), (2, .int a2)], [], (0, 0), mi_G) (by rfl) ?_
      refine mi_sem_steps mi_in125 (mi_calok_none _ _) 1 _ (29, [(0, .ref 0), (1, .int a1), (2, .int a2)], [.int a1], (0, 0), mi_G) (by rfl) ?_
      refine mi_sem_b mi_in125 ((a1 != 0)) true (mi_neT (0) (by decide) (by omega)) 36 32 ([(0, .ref 0), (1, .int a1), (2, .int a2)], [], (0, 0), mi_G) (by rfl) ?_
      refine mi_sem_steps mi_in125 (mi_calok_none _ _) 1 _ (37, [(0, .ref 0), (1, .int a1), (2, .int a2)], [.int 0], (0, 0), mi_G) (by rfl) ?_
      exact mi_sem_ret (cal := fun _ _ _ => none) mi_in125 (by rfl)
    refine mi_sem_call mi_in84 (i := (.invokevirtual 95, 3, 125, 0, 9, 0, 161)) (by rfl) (by rfl) hM276 (by decide) ⟨Nat.le_of_ble_eq_true rfl, Nat.le_of_ble_eq_true rfl⟩ ?_
    refine mi_sem_steps mi_in84 (mi_calok_none _ _) 2 _ (22, [(0, .ref 0), (1, .int a1), (2, .int a2)], [.int (-1)], (0, 0), mi_G) (by rfl) ?_
    exact mi_sem_ret (cal := fun _ _ _ => none) mi_in84 (by rfl)
  · refine mi_met_of (y := 143) (q := (mi_h143, mi_c143)) rfl (by decide) (Nat.le_of_ble_eq_true rfl) ?_
    refine mi_sem_steps mi_in143 (mi_calok_none _ _) 3 _ (3, [(0, .ref 116), (1, .int a1), (2, .int a2)], [.int a2, .int a1, .ref 116], (0, 0), mi_G) (by rfl) ?_
    have hM279 : mi_Met mi_N0 2 mi_h138 [.ref 116, .int a1, .int a2] mi_G (some (.int 0)) mi_G := by
      refine mi_met_of (y := 138) (q := (mi_h138, mi_c138)) rfl (by decide) (Nat.le_of_ble_eq_true rfl) ?_
      refine mi_sem_steps mi_in138 (mi_calok_none _ _) 3 _ (3, [(0, .ref 116), (1, .int a1), (2, .int a2)], [.int 3, .int 0, .int a2], (0, 0), mi_G) (by rfl) ?_
      have hM277 : mi_Met mi_N0 1 mi_h131 [.int a2, .int 0, .int 3] mi_G (some (.int 0)) mi_G := by
        refine mi_met_of (y := 131) (q := (mi_h131, mi_c131)) rfl (by decide) (Nat.le_of_ble_eq_true rfl) ?_
        refine mi_sem_steps mi_in131 (mi_calok_none _ _) 2 _ (2, [(0, .int a2), (1, .int 0), (2, .int 3)], [.int 0, .int a2], (0, 0), mi_G) (by rfl) ?_
        refine mi_sem_b mi_in131 (decide (a2 < 0)) false (mi_ltF (0) (by decide) (by omega)) 14 5 ([(0, .int a2), (1, .int 0), (2, .int 3)], [], (0, 0), mi_G) (by rfl) ?_
        refine mi_sem_steps mi_in131 (mi_calok_none _ _) 2 _ (7, [(0, .int a2), (1, .int 0), (2, .int 3)], [.int 3, .int a2], (0, 0), mi_G) (by rfl) ?_
        refine mi_sem_b mi_in131 (decide (3 < a2)) true (mi_ltT2 (3) (by decide) (by omega)) 14 10 ([(0, .int a2), (1, .int 0), (2, .int 3)], [], (0, 0), mi_G) (by rfl) ?_
        refine mi_sem_steps mi_in131 (mi_calok_none _ _) 1 _ (15, [(0, .int a2), (1, .int 0), (2, .int 3)], [.int 0], (0, 0), mi_G) (by rfl) ?_
        exact mi_sem_ret (cal := fun _ _ _ => none) mi_in131 (by rfl)
      refine mi_sem_call mi_in138 (i := (.invokestatic 119, 3, 131, 0, 9, 0, 379)) (by rfl) (by rfl) hM277 (by decide) ⟨Nat.le_of_ble_eq_true rfl, Nat.le_of_ble_eq_true rfl⟩ ?_
      refine mi_sem_steps mi_in138 (mi_calok_none _ _) 4 _ (21, [(0, .ref 116), (1, .int a1), (2, .int a2)], [.int 6, .int 4, .int a2], (0, 0), mi_G) (by rfl) ?_
      have hM278 : mi_Met mi_N0 1 mi_h131 [.int a2, .int 4, .int 6] mi_G (some (.int 1)) mi_G := by
        refine mi_met_of (y := 131) (q := (mi_h131, mi_c131)) rfl (by decide) (Nat.le_of_ble_eq_true rfl) ?_
        refine mi_sem_steps mi_in131 (mi_calok_none _ _) 2 _ (2, [(0, .int a2), (1, .int 4), (2, .int 6)], [.int 4, .int a2], (0, 0), mi_G) (by rfl) ?_
        refine mi_sem_b mi_in131 (decide (a2 < 4)) false (mi_ltF (4) (by decide) (by omega)) 14 5 ([(0, .int a2), (1, .int 4), (2, .int 6)], [], (0, 0), mi_G) (by rfl) ?_
        refine mi_sem_steps mi_in131 (mi_calok_none _ _) 2 _ (7, [(0, .int a2), (1, .int 4), (2, .int 6)], [.int 6, .int a2], (0, 0), mi_G) (by rfl) ?_
        refine mi_sem_b mi_in131 (decide (6 < a2)) false (mi_ltF2 (6) (by decide) (by omega)) 14 10 ([(0, .int a2), (1, .int 4), (2, .int 6)], [], (0, 0), mi_G) (by rfl) ?_
        refine mi_sem_steps mi_in131 (mi_calok_none _ _) 2 _ (15, [(0, .int a2), (1, .int 4), (2, .int 6)], [.int 1], (0, 0), mi_G) (by rfl) ?_
        exact mi_sem_ret (cal := fun _ _ _ => none) mi_in131 (by rfl)
      refine mi_sem_call mi_in138 (i := (.invokestatic 119, 3, 131, 0, 9, 0, 379)) (by rfl) (by rfl) hM278 (by decide) ⟨Nat.le_of_ble_eq_true rfl, Nat.le_of_ble_eq_true rfl⟩ ?_
      refine mi_sem_steps mi_in138 (mi_calok_none _ _) 2 _ (28, [(0, .ref 116), (1, .int a1), (2, .int a2)], [.int a1], (0, 0), mi_G) (by rfl) ?_
      refine mi_sem_b mi_in138 ((a1 != 0)) true (mi_neT (0) (by decide) (by omega)) 35 31 ([(0, .ref 116), (1, .int a1), (2, .int a2)], [], (0, 0), mi_G) (by rfl) ?_
      refine mi_sem_steps mi_in138 (mi_calok_none _ _) 1 _ (36, [(0, .ref 116), (1, .int a1), (2, .int a2)], [.int 0], (0, 0), mi_G) (by rfl) ?_
      exact mi_sem_ret (cal := fun _ _ _ => none) mi_in138 (by rfl)
    refine mi_sem_call mi_in143 (i := (.invokevirtual 140, 3, 138, 0, 9, 0, 386)) (by rfl) (by rfl) hM279 (by decide) ⟨Nat.le_of_ble_eq_true rfl, Nat.le_of_ble_eq_true rfl⟩ ?_
    refine mi_sem_steps mi_in143 (mi_calok_none _ _) 2 _ (19, [(0, .ref 116), (1, .int a1), (2, .int a2)], [.int (-1)], (0, 0), mi_G) (by rfl) ?_
    exact mi_sem_ret (cal := fun _ _ _ => none) mi_in143 (by rfl)

set_option maxRecDepth 100000 in
set_option maxHeartbeats 4000000 in
theorem mp_of_4   : mi_P 84 143 [.int 0, .int 4] := by
  refine ⟨.int 3, mi_G, mi_G, (mi_h84, mi_c84), (mi_h143, mi_c143), 2, 3, rfl, rfl, rfl, by decide, by decide, ?_, ?_⟩
  · exact mi_fun_ok mi_N0 2 84 (mi_h84, mi_c84) _ _ _ _ rfl (mi_eR_ok (by decide +kernel))
  · exact mi_fun_ok mi_N0 3 143 (mi_h143, mi_c143) _ _ _ _ rfl (mi_eR_ok (by decide +kernel))

set_option maxRecDepth 100000 in
set_option maxHeartbeats 4000000 in
theorem mp_of_5   : mi_P 84 143 [.int 0, .int 5] := by
  refine ⟨.int 1, mi_G, mi_G, (mi_h84, mi_c84), (mi_h143, mi_c143), 2, 3, rfl, rfl, rfl, by decide, by decide, ?_, ?_⟩
  · exact mi_fun_ok mi_N0 2 84 (mi_h84, mi_c84) _ _ _ _ rfl (mi_eR_ok (by decide +kernel))
  · exact mi_fun_ok mi_N0 3 143 (mi_h143, mi_c143) _ _ _ _ rfl (mi_eR_ok (by decide +kernel))

set_option maxRecDepth 100000 in
set_option maxHeartbeats 4000000 in
theorem mp_of_6   : mi_P 84 143 [.int 0, .int 6] := by
  refine ⟨.int 0, mi_G, mi_G, (mi_h84, mi_c84), (mi_h143, mi_c143), 2, 3, rfl, rfl, rfl, by decide, by decide, ?_, ?_⟩
  · exact mi_fun_ok mi_N0 2 84 (mi_h84, mi_c84) _ _ _ _ rfl (mi_eR_ok (by decide +kernel))
  · exact mi_fun_ok mi_N0 3 143 (mi_h143, mi_c143) _ _ _ _ rfl (mi_eR_ok (by decide +kernel))

set_option maxRecDepth 100000 in
set_option maxHeartbeats 4000000 in
theorem mp_of_7 (a1 : Int32) (a2 : Int32) (r0 : 4 ≤ (a2).toInt ∧ (a2).toInt ≤ 6) (r1 : 1 ≤ (a1).toInt ∧ (a1).toInt ≤ 2147483647) : mi_P 84 143 [.int a1, .int a2] := by
  refine ⟨.int (-1), mi_G, mi_G, (mi_h84, mi_c84), (mi_h143, mi_c143), 2, 3, rfl, rfl, rfl, by decide, by decide, ?_, ?_⟩
  · refine mi_met_of (y := 84) (q := (mi_h84, mi_c84)) rfl (by decide) (Nat.le_of_ble_eq_true rfl) ?_
    refine mi_sem_steps mi_in84 (mi_calok_none _ _) 3 _ (3, [(0, .ref 0), (1, .int a1), (2, .int a2)], [.int a2, .int a1, .ref 0], (0, 0), mi_G) (by rfl) ?_
    have hM282 : mi_Met mi_N0 1 mi_h125 [.ref 0, .int a1, .int a2] mi_G (some (.int 0)) mi_G := by
      refine mi_met_of (y := 125) (q := (mi_h125, mi_c125)) rfl (by decide) (Nat.le_of_ble_eq_true rfl) ?_
      refine mi_sem_steps mi_in125 (mi_calok_none _ _) 1 _ (1, [(0, .ref 0), (1, .int a1), (2, .int a2)], [.int a2], (0, 0), mi_G) (by rfl) ?_
      refine mi_sem_b mi_in125 (decide (a2 < 0)) false (mi_ltF (0) (by decide) (by omega)) 17 4 ([(0, .ref 0), (1, .int a1), (2, .int a2)], [], (0, 0), mi_G) (by rfl) ?_
      refine mi_sem_steps mi_in125 (mi_calok_none _ _) 2 _ (6, [(0, .ref 0), (1, .int a1), (2, .int a2)], [.int 4, .int a2], (0, 0), mi_G) (by rfl) ?_
      refine mi_sem_b mi_in125 (decide (4 ≤ a2)) true (mi_leT2 (4) (by decide) (by omega)) 17 9 ([(0, .ref 0), (1, .int a1), (2, .int a2)], [], (0, 0), mi_G) (by rfl) ?_
      refine mi_sem_steps mi_in125 (mi_calok_none _ _) 2 _ (19, [(0, .ref 0), (1, .int a1), (2, .int a2)], [.int 4, .int a2], (0, 0), mi_G) (by rfl) ?_
      refine mi_sem_b mi_in125 (decide (a2 < 4)) false (mi_ltF (4) (by decide) (by omega)) 36 22 ([(0, .ref 0), (1, .int a1), (2, .int a2)], [], (0, 0), mi_G) (by rfl) ?_
      refine mi_sem_steps mi_in125 (mi_calok_none _ _) 2 _ (25, [(0, .ref 0), (1, .int a1), (2, .int a2)], [.int 6, .int a2], (0, 0), mi_G) (by rfl) ?_
      refine mi_sem_b mi_in125 (decide (6 < a2)) false (mi_ltF2 (6) (by decide) (by omega)) 36 28 ([(0, .ref 0), (1, .int a1), (2, .int a2)], [], (0, 0), mi_G) (by rfl) ?_
      refine mi_sem_steps mi_in125 (mi_calok_none _ _) 1 _ (29, [(0, .ref 0), (1, .int a1), (2, .int a2)], [.int a1], (0, 0), mi_G) (by rfl) ?_
      refine mi_sem_b mi_in125 ((a1 != 0)) true (mi_neT (0) (by decide) (by omega)) 36 32 ([(0, .ref 0), (1, .int a1), (2, .int a2)], [], (0, 0), mi_G) (by rfl) ?_
      refine mi_sem_steps mi_in125 (mi_calok_none _ _) 1 _ (37, [(0, .ref 0), (1, .int a1), (2, .int a2)], [.int 0], (0, 0), mi_G) (by rfl) ?_
      exact mi_sem_ret (cal := fun _ _ _ => none) mi_in125 (by rfl)
    refine mi_sem_call mi_in84 (i := (.invokevirtual 95, 3, 125, 0, 9, 0, 161)) (by rfl) (by rfl) hM282 (by decide) ⟨Nat.le_of_ble_eq_true rfl, Nat.le_of_ble_eq_true rfl⟩ ?_
    refine mi_sem_steps mi_in84 (mi_calok_none _ _) 2 _ (22, [(0, .ref 0), (1, .int a1), (2, .int a2)], [.int (-1)], (0, 0), mi_G) (by rfl) ?_
    exact mi_sem_ret (cal := fun _ _ _ => none) mi_in84 (by rfl)
  · refine mi_met_of (y := 143) (q := (mi_h143, mi_c143)) rfl (by decide) (Nat.le_of_ble_eq_true rfl) ?_
    refine mi_sem_steps mi_in143 (mi_calok_none _ _) 3 _ (3, [(0, .ref 116), (1, .int a1), (2, .int a2)], [.int a2, .int a1, .ref 116], (0, 0), mi_G) (by rfl) ?_
    have hM285 : mi_Met mi_N0 2 mi_h138 [.ref 116, .int a1, .int a2] mi_G (some (.int 0)) mi_G := by
      refine mi_met_of (y := 138) (q := (mi_h138, mi_c138)) rfl (by decide) (Nat.le_of_ble_eq_true rfl) ?_
      refine mi_sem_steps mi_in138 (mi_calok_none _ _) 3 _ (3, [(0, .ref 116), (1, .int a1), (2, .int a2)], [.int 3, .int 0, .int a2], (0, 0), mi_G) (by rfl) ?_
      have hM283 : mi_Met mi_N0 1 mi_h131 [.int a2, .int 0, .int 3] mi_G (some (.int 0)) mi_G := by
        refine mi_met_of (y := 131) (q := (mi_h131, mi_c131)) rfl (by decide) (Nat.le_of_ble_eq_true rfl) ?_
        refine mi_sem_steps mi_in131 (mi_calok_none _ _) 2 _ (2, [(0, .int a2), (1, .int 0), (2, .int 3)], [.int 0, .int a2], (0, 0), mi_G) (by rfl) ?_
        refine mi_sem_b mi_in131 (decide (a2 < 0)) false (mi_ltF (0) (by decide) (by omega)) 14 5 ([(0, .int a2), (1, .int 0), (2, .int 3)], [], (0, 0), mi_G) (by rfl) ?_
        refine mi_sem_steps mi_in131 (mi_calok_none _ _) 2 _ (7, [(0, .int a2), (1, .int 0), (2, .int 3)], [.int 3, .int a2], (0, 0), mi_G) (by rfl) ?_
        refine mi_sem_b mi_in131 (decide (3 < a2)) true (mi_ltT2 (3) (by decide) (by omega)) 14 10 ([(0, .int a2), (1, .int 0), (2, .int 3)], [], (0, 0), mi_G) (by rfl) ?_
        refine mi_sem_steps mi_in131 (mi_calok_none _ _) 1 _ (15, [(0, .int a2), (1, .int 0), (2, .int 3)], [.int 0], (0, 0), mi_G) (by rfl) ?_
        exact mi_sem_ret (cal := fun _ _ _ => none) mi_in131 (by rfl)
      refine mi_sem_call mi_in138 (i := (.invokestatic 119, 3, 131, 0, 9, 0, 379)) (by rfl) (by rfl) hM283 (by decide) ⟨Nat.le_of_ble_eq_true rfl, Nat.le_of_ble_eq_true rfl⟩ ?_
      refine mi_sem_steps mi_in138 (mi_calok_none _ _) 4 _ (21, [(0, .ref 116), (1, .int a1), (2, .int a2)], [.int 6, .int 4, .int a2], (0, 0), mi_G) (by rfl) ?_
      have hM284 : mi_Met mi_N0 1 mi_h131 [.int a2, .int 4, .int 6] mi_G (some (.int 1)) mi_G := by
        refine mi_met_of (y := 131) (q := (mi_h131, mi_c131)) rfl (by decide) (Nat.le_of_ble_eq_true rfl) ?_
        refine mi_sem_steps mi_in131 (mi_calok_none _ _) 2 _ (2, [(0, .int a2), (1, .int 4), (2, .int 6)], [.int 4, .int a2], (0, 0), mi_G) (by rfl) ?_
        refine mi_sem_b mi_in131 (decide (a2 < 4)) false (mi_ltF (4) (by decide) (by omega)) 14 5 ([(0, .int a2), (1, .int 4), (2, .int 6)], [], (0, 0), mi_G) (by rfl) ?_
        refine mi_sem_steps mi_in131 (mi_calok_none _ _) 2 _ (7, [(0, .int a2), (1, .int 4), (2, .int 6)], [.int 6, .int a2], (0, 0), mi_G) (by rfl) ?_
        refine mi_sem_b mi_in131 (decide (6 < a2)) false (mi_ltF2 (6) (by decide) (by omega)) 14 10 ([(0, .int a2), (1, .int 4), (2, .int 6)], [], (0, 0), mi_G) (by rfl) ?_
        refine mi_sem_steps mi_in131 (mi_calok_none _ _) 2 _ (15, [(0, .int a2), (1, .int 4), (2, .int 6)], [.int 1], (0, 0), mi_G) (by rfl) ?_
        exact mi_sem_ret (cal := fun _ _ _ => none) mi_in131 (by rfl)
      refine mi_sem_call mi_in138 (i := (.invokestatic 119, 3, 131, 0, 9, 0, 379)) (by rfl) (by rfl) hM284 (by decide) ⟨Nat.le_of_ble_eq_true rfl, Nat.le_of_ble_eq_true rfl⟩ ?_
      refine mi_sem_steps mi_in138 (mi_calok_none _ _) 2 _ (28, [(0, .ref 116), (1, .int a1), (2, .int a2)], [.int a1], (0, 0), mi_G) (by rfl) ?_
      refine mi_sem_b mi_in138 ((a1 != 0)) true (mi_neT (0) (by decide) (by omega)) 35 31 ([(0, .ref 116), (1, .int a1), (2, .int a2)], [], (0, 0), mi_G) (by rfl) ?_
      refine mi_sem_steps mi_in138 (mi_calok_none _ _) 1 _ (36, [(0, .ref 116), (1, .int a1), (2, .int a2)], [.int 0], (0, 0), mi_G) (by rfl) ?_
      exact mi_sem_ret (cal := fun _ _ _ => none) mi_in138 (by rfl)
    refine mi_sem_call mi_in143 (i := (.invokevirtual 140, 3, 138, 0, 9, 0, 386)) (by rfl) (by rfl) hM285 (by decide) ⟨Nat.le_of_ble_eq_true rfl, Nat.le_of_ble_eq_true rfl⟩ ?_
    refine mi_sem_steps mi_in143 (mi_calok_none _ _) 2 _ (19, [(0, .ref 116), (1, .int a1), (2, .int a2)], [.int (-1)], (0, 0), mi_G) (by rfl) ?_
    exact mi_sem_ret (cal := fun _ _ _ => none) mi_in143 (by rfl)

set_option maxRecDepth 100000 in
set_option maxHeartbeats 4000000 in
theorem mp_of_8 (a1 : Int32) (a2 : Int32) (r0 : 7 ≤ (a2).toInt ∧ (a2).toInt ≤ 2147483647) : mi_P 84 143 [.int a1, .int a2] := by
  refine ⟨.int (-1), mi_G, mi_G, (mi_h84, mi_c84), (mi_h143, mi_c143), 2, 3, rfl, rfl, rfl, by decide, by decide, ?_, ?_⟩
  · refine mi_met_of (y := 84) (q := (mi_h84, mi_c84)) rfl (by decide) (Nat.le_of_ble_eq_true rfl) ?_
    refine mi_sem_steps mi_in84 (mi_calok_none _ _) 3 _ (3, [(0, .ref 0), (1, .int a1), (2, .int a2)], [.int a2, .int a1, .ref 0], (0, 0), mi_G) (by rfl) ?_
    have hM286 : mi_Met mi_N0 1 mi_h125 [.ref 0, .int a1, .int a2] mi_G (some (.int 0)) mi_G := by
      refine mi_met_of (y := 125) (q := (mi_h125, mi_c125)) rfl (by decide) (Nat.le_of_ble_eq_true rfl) ?_
      refine mi_sem_steps mi_in125 (mi_calok_none _ _) 1 _ (1, [(0, .ref 0), (1, .int a1), (2, .int a2)], [.int a2], (0, 0), mi_G) (by rfl) ?_
      refine mi_sem_b mi_in125 (decide (a2 < 0)) false (mi_ltF (0) (by decide) (by omega)) 17 4 ([(0, .ref 0), (1, .int a1), (2, .int a2)], [], (0, 0), mi_G) (by rfl) ?_
      refine mi_sem_steps mi_in125 (mi_calok_none _ _) 2 _ (6, [(0, .ref 0), (1, .int a1), (2, .int a2)], [.int 4, .int a2], (0, 0), mi_G) (by rfl) ?_
      refine mi_sem_b mi_in125 (decide (4 ≤ a2)) true (mi_leT2 (4) (by decide) (by omega)) 17 9 ([(0, .ref 0), (1, .int a1), (2, .int a2)], [], (0, 0), mi_G) (by rfl) ?_
      refine mi_sem_steps mi_in125 (mi_calok_none _ _) 2 _ (19, [(0, .ref 0), (1, .int a1), (2, .int a2)], [.int 4, .int a2], (0, 0), mi_G) (by rfl) ?_
      refine mi_sem_b mi_in125 (decide (a2 < 4)) false (mi_ltF (4) (by decide) (by omega)) 36 22 ([(0, .ref 0), (1, .int a1), (2, .int a2)], [], (0, 0), mi_G) (by rfl) ?_
      refine mi_sem_steps mi_in125 (mi_calok_none _ _) 2 _ (25, [(0, .ref 0), (1, .int a1), (2, .int a2)], [.int 6, .int a2], (0, 0), mi_G) (by rfl) ?_
      refine mi_sem_b mi_in125 (decide (6 < a2)) true (mi_ltT2 (6) (by decide) (by omega)) 36 28 ([(0, .ref 0), (1, .int a1), (2, .int a2)], [], (0, 0), mi_G) (by rfl) ?_
      refine mi_sem_steps mi_in125 (mi_calok_none _ _) 1 _ (37, [(0, .ref 0), (1, .int a1), (2, .int a2)], [.int 0], (0, 0), mi_G) (by rfl) ?_
      exact mi_sem_ret (cal := fun _ _ _ => none) mi_in125 (by rfl)
    refine mi_sem_call mi_in84 (i := (.invokevirtual 95, 3, 125, 0, 9, 0, 161)) (by rfl) (by rfl) hM286 (by decide) ⟨Nat.le_of_ble_eq_true rfl, Nat.le_of_ble_eq_true rfl⟩ ?_
    refine mi_sem_steps mi_in84 (mi_calok_none _ _) 2 _ (22, [(0, .ref 0), (1, .int a1), (2, .int a2)], [.int (-1)], (0, 0), mi_G) (by rfl) ?_
    exact mi_sem_ret (cal := fun _ _ _ => none) mi_in84 (by rfl)
  · refine mi_met_of (y := 143) (q := (mi_h143, mi_c143)) rfl (by decide) (Nat.le_of_ble_eq_true rfl) ?_
    refine mi_sem_steps mi_in143 (mi_calok_none _ _) 3 _ (3, [(0, .ref 116), (1, .int a1), (2, .int a2)], [.int a2, .int a1, .ref 116], (0, 0), mi_G) (by rfl) ?_
    have hM289 : mi_Met mi_N0 2 mi_h138 [.ref 116, .int a1, .int a2] mi_G (some (.int 0)) mi_G := by
      refine mi_met_of (y := 138) (q := (mi_h138, mi_c138)) rfl (by decide) (Nat.le_of_ble_eq_true rfl) ?_
      refine mi_sem_steps mi_in138 (mi_calok_none _ _) 3 _ (3, [(0, .ref 116), (1, .int a1), (2, .int a2)], [.int 3, .int 0, .int a2], (0, 0), mi_G) (by rfl) ?_
      have hM287 : mi_Met mi_N0 1 mi_h131 [.int a2, .int 0, .int 3] mi_G (some (.int 0)) mi_G := by
        refine mi_met_of (y := 131) (q := (mi_h131, mi_c131)) rfl (by decide) (Nat.le_of_ble_eq_true rfl) ?_
        refine mi_sem_steps mi_in131 (mi_calok_none _ _) 2 _ (2, [(0, .int a2), (1, .int 0), (2, .int 3)], [.int 0, .int a2], (0, 0), mi_G) (by rfl) ?_
        refine mi_sem_b mi_in131 (decide (a2 < 0)) false (mi_ltF (0) (by decide) (by omega)) 14 5 ([(0, .int a2), (1, .int 0), (2, .int 3)], [], (0, 0), mi_G) (by rfl) ?_
        refine mi_sem_steps mi_in131 (mi_calok_none _ _) 2 _ (7, [(0, .int a2), (1, .int 0), (2, .int 3)], [.int 3, .int a2], (0, 0), mi_G) (by rfl) ?_
        refine mi_sem_b mi_in131 (decide (3 < a2)) true (mi_ltT2 (3) (by decide) (by omega)) 14 10 ([(0, .int a2), (1, .int 0), (2, .int 3)], [], (0, 0), mi_G) (by rfl) ?_
        refine mi_sem_steps mi_in131 (mi_calok_none _ _) 1 _ (15, [(0, .int a2), (1, .int 0), (2, .int 3)], [.int 0], (0, 0), mi_G) (by rfl) ?_
        exact mi_sem_ret (cal := fun _ _ _ => none) mi_in131 (by rfl)
      refine mi_sem_call mi_in138 (i := (.invokestatic 119, 3, 131, 0, 9, 0, 379)) (by rfl) (by rfl) hM287 (by decide) ⟨Nat.le_of_ble_eq_true rfl, Nat.le_of_ble_eq_true rfl⟩ ?_
      refine mi_sem_steps mi_in138 (mi_calok_none _ _) 4 _ (21, [(0, .ref 116), (1, .int a1), (2, .int a2)], [.int 6, .int 4, .int a2], (0, 0), mi_G) (by rfl) ?_
      have hM288 : mi_Met mi_N0 1 mi_h131 [.int a2, .int 4, .int 6] mi_G (some (.int 0)) mi_G := by
        refine mi_met_of (y := 131) (q := (mi_h131, mi_c131)) rfl (by decide) (Nat.le_of_ble_eq_true rfl) ?_
        refine mi_sem_steps mi_in131 (mi_calok_none _ _) 2 _ (2, [(0, .int a2), (1, .int 4), (2, .int 6)], [.int 4, .int a2], (0, 0), mi_G) (by rfl) ?_
        refine mi_sem_b mi_in131 (decide (a2 < 4)) false (mi_ltF (4) (by decide) (by omega)) 14 5 ([(0, .int a2), (1, .int 4), (2, .int 6)], [], (0, 0), mi_G) (by rfl) ?_
        refine mi_sem_steps mi_in131 (mi_calok_none _ _) 2 _ (7, [(0, .int a2), (1, .int 4), (2, .int 6)], [.int 6, .int a2], (0, 0), mi_G) (by rfl) ?_
        refine mi_sem_b mi_in131 (decide (6 < a2)) true (mi_ltT2 (6) (by decide) (by omega)) 14 10 ([(0, .int a2), (1, .int 4), (2, .int 6)], [], (0, 0), mi_G) (by rfl) ?_
        refine mi_sem_steps mi_in131 (mi_calok_none _ _) 1 _ (15, [(0, .int a2), (1, .int 4), (2, .int 6)], [.int 0], (0, 0), mi_G) (by rfl) ?_
        exact mi_sem_ret (cal := fun _ _ _ => none) mi_in131 (by rfl)
      refine mi_sem_call mi_in138 (i := (.invokestatic 119, 3, 131, 0, 9, 0, 379)) (by rfl) (by rfl) hM288 (by decide) ⟨Nat.le_of_ble_eq_true rfl, Nat.le_of_ble_eq_true rfl⟩ ?_
      refine mi_sem_steps mi_in138 (mi_calok_none _ _) 2 _ (36, [(0, .ref 116), (1, .int a1), (2, .int a2)], [.int 0], (0, 0), mi_G) (by rfl) ?_
      exact mi_sem_ret (cal := fun _ _ _ => none) mi_in138 (by rfl)
    refine mi_sem_call mi_in143 (i := (.invokevirtual 140, 3, 138, 0, 9, 0, 386)) (by rfl) (by rfl) hM289 (by decide) ⟨Nat.le_of_ble_eq_true rfl, Nat.le_of_ble_eq_true rfl⟩ ?_
    refine mi_sem_steps mi_in143 (mi_calok_none _ _) 2 _ (19, [(0, .ref 116), (1, .int a1), (2, .int a2)], [.int (-1)], (0, 0), mi_G) (by rfl) ?_
    exact mi_sem_ret (cal := fun _ _ _ => none) mi_in143 (by rfl)

set_option maxRecDepth 100000 in
set_option maxHeartbeats 4000000 in
theorem mp_of (a1 : Int32) (a2 : Int32) : mi_P 84 143 [.int a1, .int a2] := by
  have b0 := Int32.toInt_lt (a1)
  have c0 := Int32.le_toInt (a1)
  have b1 := Int32.toInt_lt (a2)
  have c1 := Int32.le_toInt (a2)
  rcases Int.lt_or_le (a2).toInt 0 with _hh | _hh
  ·
    exact mp_of_0 a1 a2 ⟨by omega, by omega⟩
  ·
    rcases Int.lt_or_le (a2).toInt 4 with _hh | _hh
    ·
      rcases Int.lt_or_le (a1).toInt 0 with _hh | _hh
      ·
        exact mp_of_1 a1 a2 ⟨by omega, by omega⟩ ⟨by omega, by omega⟩
      ·
        exact mp_of_2 a1 a2 ⟨by omega, by omega⟩ ⟨by omega, by omega⟩
    ·
      rcases Int.lt_or_le (a2).toInt 7 with _hh | _hh
      ·
        rcases Int.lt_or_le (a1).toInt 0 with _hh | _hh
        ·
          exact mp_of_3 a1 a2 ⟨by omega, by omega⟩ ⟨by omega, by omega⟩
        ·
          rcases Int.lt_or_le (a1).toInt 1 with _hh | _hh
          ·
            rcases Int.lt_or_le (a2).toInt 5 with _hh | _hh
            ·
              have e_a1 : a1 = 0 := Int32.toInt_inj.mp ((by omega : (a1).toInt = 0).trans (by decide))
              subst e_a1
              have e_a2 : a2 = 4 := Int32.toInt_inj.mp ((by omega : (a2).toInt = 4).trans (by decide))
              subst e_a2
              exact mp_of_4  
            ·
              rcases Int.lt_or_le (a2).toInt 6 with _hh | _hh
              ·
                have e_a1 : a1 = 0 := Int32.toInt_inj.mp ((by omega : (a1).toInt = 0).trans (by decide))
                subst e_a1
                have e_a2 : a2 = 5 := Int32.toInt_inj.mp ((by omega : (a2).toInt = 5).trans (by decide))
                subst e_a2
                exact mp_of_5  
              ·
                have e_a1 : a1 = 0 := Int32.toInt_inj.mp ((by omega : (a1).toInt = 0).trans (by decide))
                subst e_a1
                have e_a2 : a2 = 6 := Int32.toInt_inj.mp ((by omega : (a2).toInt = 6).trans (by decide))
                subst e_a2
                exact mp_of_6  
          ·
            exact mp_of_7 a1 a2 ⟨by omega, by omega⟩ ⟨by omega, by omega⟩
      ·
        exact mp_of_8 a1 a2 ⟨by omega, by omega⟩

set_option maxRecDepth 100000 in
set_option maxHeartbeats 4000000 in
theorem mp_feed_0 (a1 : Int32) (r0 : (-2147483648) ≤ (a1).toInt ∧ (a1).toInt ≤ (-1)) : mi_P 85 146 [.int a1] := by
  refine ⟨.int (-1), mi_G, mi_G, (mi_h85, mi_c85), (mi_h146, mi_c146), 2, 2, rfl, rfl, rfl, by decide, by decide, ?_, ?_⟩
  · refine mi_met_of (y := 85) (q := (mi_h85, mi_c85)) rfl (by decide) (Nat.le_of_ble_eq_true rfl) ?_
    refine mi_sem_steps mi_in85 (mi_calok_none _ _) 3 _ (5, [(0, .ref 0), (1, .int a1)], [.int 255, .int 0, .int a1], (0, 0), mi_G) (by rfl) ?_
    have hM290 : mi_Met mi_N0 1 mi_h120 [.int a1, .int 0, .int 255] mi_G (some (.int 0)) mi_G := by
      refine mi_met_of (y := 120) (q := (mi_h120, mi_c120)) rfl (by decide) (Nat.le_of_ble_eq_true rfl) ?_
      refine mi_sem_steps mi_in120 (mi_calok_none _ _) 2 _ (2, [(0, .int a1), (1, .int 0), (2, .int 255)], [.int 0, .int a1], (0, 0), mi_G) (by rfl) ?_
      refine mi_sem_b mi_in120 (decide (a1 < 0)) true (mi_ltT (0) (by decide) (by omega)) 14 5 ([(0, .int a1), (1, .int 0), (2, .int 255)], [], (0, 0), mi_G) (by rfl) ?_
      refine mi_sem_steps mi_in120 (mi_calok_none _ _) 1 _ (15, [(0, .int a1), (1, .int 0), (2, .int 255)], [.int 0], (0, 0), mi_G) (by rfl) ?_
      exact mi_sem_ret (cal := fun _ _ _ => none) mi_in120 (by rfl)
    refine mi_sem_call mi_in85 (i := (.invokestatic 74, 3, 120, 0, 9, 0, 152)) (by rfl) (by rfl) hM290 (by decide) ⟨Nat.le_of_ble_eq_true rfl, Nat.le_of_ble_eq_true rfl⟩ ?_
    refine mi_sem_steps mi_in85 (mi_calok_none _ _) 2 _ (12, [(0, .ref 0), (1, .int a1)], [.int (-1)], (0, 0), mi_G) (by rfl) ?_
    exact mi_sem_ret (cal := fun _ _ _ => none) mi_in85 (by rfl)
  · refine mi_met_of (y := 146) (q := (mi_h146, mi_c146)) rfl (by decide) (Nat.le_of_ble_eq_true rfl) ?_
    refine mi_sem_steps mi_in146 (mi_calok_none _ _) 3 _ (5, [(0, .ref 116), (1, .int a1)], [.int 255, .int 0, .int a1], (0, 0), mi_G) (by rfl) ?_
    have hM291 : mi_Met mi_N0 1 mi_h131 [.int a1, .int 0, .int 255] mi_G (some (.int 0)) mi_G := by
      refine mi_met_of (y := 131) (q := (mi_h131, mi_c131)) rfl (by decide) (Nat.le_of_ble_eq_true rfl) ?_
      refine mi_sem_steps mi_in131 (mi_calok_none _ _) 2 _ (2, [(0, .int a1), (1, .int 0), (2, .int 255)], [.int 0, .int a1], (0, 0), mi_G) (by rfl) ?_
      refine mi_sem_b mi_in131 (decide (a1 < 0)) true (mi_ltT (0) (by decide) (by omega)) 14 5 ([(0, .int a1), (1, .int 0), (2, .int 255)], [], (0, 0), mi_G) (by rfl) ?_
      refine mi_sem_steps mi_in131 (mi_calok_none _ _) 1 _ (15, [(0, .int a1), (1, .int 0), (2, .int 255)], [.int 0], (0, 0), mi_G) (by rfl) ?_
      exact mi_sem_ret (cal := fun _ _ _ => none) mi_in131 (by rfl)
    refine mi_sem_call mi_in146 (i := (.invokestatic 119, 3, 131, 0, 9, 0, 379)) (by rfl) (by rfl) hM291 (by decide) ⟨Nat.le_of_ble_eq_true rfl, Nat.le_of_ble_eq_true rfl⟩ ?_
    refine mi_sem_steps mi_in146 (mi_calok_none _ _) 2 _ (12, [(0, .ref 116), (1, .int a1)], [.int (-1)], (0, 0), mi_G) (by rfl) ?_
    exact mi_sem_ret (cal := fun _ _ _ => none) mi_in146 (by rfl)

set_option maxRecDepth 100000 in
set_option maxHeartbeats 4000000 in
theorem mp_feed_1 (a1 : Int32) (r0 : 0 ≤ (a1).toInt ∧ (a1).toInt ≤ 255) : mi_P 85 146 [.int a1] := by
  refine ⟨.int 1, ((mi_G.set 99 (.inr (.int, .inl [a1, 0, 0, 0, 0, 0, 0, 0, 0, 0, 0, 0, 0, 0, 0, 0, 0, 0, 0, 0, 0, 0, 0, 0, 0, 0, 0, 0, 0, 0, 0, 0, 0, 0, 0, 0, 0, 0, 0, 0, 0, 0, 0, 0, 0, 0, 0, 0, 0, 0, 0, 0, 0, 0, 0, 0, 0, 0, 0, 0, 0, 0, 0, 0, 0, 0, 0, 0, 0, 0, 0, 0, 0, 0, 0, 0, 0, 0, 0, 0, 0, 0, 0, 0, 0, 0, 0, 0, 0, 0, 0, 0, 0, 0, 0, 0, 0, 0, 0, 0, 0, 0, 0, 0, 0, 0, 0, 0, 0, 0, 0, 0, 0, 0, 0, 0, 0, 0, 0, 0]))).set 98 (.inl (6, [.ref 99, .int 1, .int 0, .int 0, .ref 100]))), ((((mi_G.set 99 (.inr (.int, .inl [a1, 0, 0, 0, 0, 0, 0, 0, 0, 0, 0, 0, 0, 0, 0, 0, 0, 0, 0, 0, 0, 0, 0, 0, 0, 0, 0, 0, 0, 0, 0, 0, 0, 0, 0, 0, 0, 0, 0, 0, 0, 0, 0, 0, 0, 0, 0, 0, 0, 0, 0, 0, 0, 0, 0, 0, 0, 0, 0, 0, 0, 0, 0, 0, 0, 0, 0, 0, 0, 0, 0, 0, 0, 0, 0, 0, 0, 0, 0, 0, 0, 0, 0, 0, 0, 0, 0, 0, 0, 0, 0, 0, 0, 0, 0, 0, 0, 0, 0, 0, 0, 0, 0, 0, 0, 0, 0, 0, 0, 0, 0, 0, 0, 0, 0, 0, 0, 0, 0, 0]))).set 98 (.inl (6, [.ref 99, .int 1, .int 0, .int 0, .ref 100]))).set 116 (.inl (9, [.int 0, .ref 117, .int 3, .int 1, .ref 118, .int 1, .ref 119, .int 0, .int 0, .ref 120, .ref 121, .ref 122, .ref 123, .int 0, .int 0, .int 0, .int 0, .ref 124, .ref 125, .ref 126, .ref 127, .ref 128, .ref 129, .ref 130, .int 0, .int 0, .ref 131, .ref 132, .int 0, .int 0, .ref 133, .int 0, .ref 134, .int 0, .ref 135, .ref 136, .ref 137, .ref 138, .ref 139, .ref 140, .int 0, .int 0, .int 0, .int 0, .ref 141, .int 0, .ref 142, .ref 143, .ref 144, .ref 145, .ref 146, .ref 147, .int 0, .ref 148]))).set 119 (.inr (.int, .inl [a1, 0, 0, 0, 0, 0, 0, 0, 0, 0, 0, 0, 0, 0, 0, 0, 0, 0, 0, 0, 0, 0, 0, 0, 0, 0, 0, 0, 0, 0, 0, 0, 0, 0, 0, 0, 0, 0, 0, 0, 0, 0, 0, 0, 0, 0, 0, 0, 0, 0, 0, 0, 0, 0, 0, 0, 0, 0, 0, 0, 0, 0, 0, 0, 0, 0, 0, 0, 0, 0, 0, 0, 0, 0, 0, 0, 0, 0, 0, 0, 0, 0, 0, 0, 0, 0, 0, 0, 0, 0, 0, 0, 0, 0, 0, 0, 0, 0, 0, 0, 0, 0, 0, 0, 0, 0, 0, 0, 0, 0, 0, 0, 0, 0, 0, 0, 0, 0, 0, 0]))), (mi_h85, mi_c85), (mi_h146, mi_c146), 2, 2, rfl, rfl, rfl, by decide, by decide, ?_, ?_⟩
  · refine mi_met_of (y := 85) (q := (mi_h85, mi_c85)) rfl (by decide) (Nat.le_of_ble_eq_true rfl) ?_
    refine mi_sem_steps mi_in85 (mi_calok_none _ _) 3 _ (5, [(0, .ref 0), (1, .int a1)], [.int 255, .int 0, .int a1], (0, 0), mi_G) (by rfl) ?_
    have hM292 : mi_Met mi_N0 1 mi_h120 [.int a1, .int 0, .int 255] mi_G (some (.int 1)) mi_G := by
      refine mi_met_of (y := 120) (q := (mi_h120, mi_c120)) rfl (by decide) (Nat.le_of_ble_eq_true rfl) ?_
      refine mi_sem_steps mi_in120 (mi_calok_none _ _) 2 _ (2, [(0, .int a1), (1, .int 0), (2, .int 255)], [.int 0, .int a1], (0, 0), mi_G) (by rfl) ?_
      refine mi_sem_b mi_in120 (decide (a1 < 0)) false (mi_ltF (0) (by decide) (by omega)) 14 5 ([(0, .int a1), (1, .int 0), (2, .int 255)], [], (0, 0), mi_G) (by rfl) ?_
      refine mi_sem_steps mi_in120 (mi_calok_none _ _) 2 _ (7, [(0, .int a1), (1, .int 0), (2, .int 255)], [.int 255, .int a1], (0, 0), mi_G) (by rfl) ?_
      refine mi_sem_b mi_in120 (decide (255 < a1)) false (mi_ltF2 (255) (by decide) (by omega)) 14 10 ([(0, .int a1), (1, .int 0), (2, .int 255)], [], (0, 0), mi_G) (by rfl) ?_
      refine mi_sem_steps mi_in120 (mi_calok_none _ _) 2 _ (15, [(0, .int a1), (1, .int 0), (2, .int 255)], [.int 1], (0, 0), mi_G) (by rfl) ?_
      exact mi_sem_ret (cal := fun _ _ _ => none) mi_in120 (by rfl)
    refine mi_sem_call mi_in85 (i := (.invokestatic 74, 3, 120, 0, 9, 0, 152)) (by rfl) (by rfl) hM292 (by decide) ⟨Nat.le_of_ble_eq_true rfl, Nat.le_of_ble_eq_true rfl⟩ ?_
    refine mi_sem_steps mi_in85 (mi_calok_none _ _) 9 _ (35, [(0, .ref 0), (1, .int a1)], [.int a1, .ref 98], (0, 0), mi_G) (by rfl) ?_
    have hM293 : mi_Met mi_N0 1 mi_h42 [.ref 98, .int a1] mi_G (some (.int 1)) ((mi_G.set 99 (.inr (.int, .inl [a1, 0, 0, 0, 0, 0, 0, 0, 0, 0, 0, 0, 0, 0, 0, 0, 0, 0, 0, 0, 0, 0, 0, 0, 0, 0, 0, 0, 0, 0, 0, 0, 0, 0, 0, 0, 0, 0, 0, 0, 0, 0, 0, 0, 0, 0, 0, 0, 0, 0, 0, 0, 0, 0, 0, 0, 0, 0, 0, 0, 0, 0, 0, 0, 0, 0, 0, 0, 0, 0, 0, 0, 0, 0, 0, 0, 0, 0, 0, 0, 0, 0, 0, 0, 0, 0, 0, 0, 0, 0, 0, 0, 0, 0, 0, 0, 0, 0, 0, 0, 0, 0, 0, 0, 0, 0, 0, 0, 0, 0, 0, 0, 0, 0, 0, 0, 0, 0, 0, 0]))).set 98 (.inl (6, [.ref 99, .int 1, .int 0, .int 0, .ref 100]))) := by
      refine mi_met_of (y := 42) (q := (mi_h42, mi_c42)) rfl (by decide) (Nat.le_of_ble_eq_true rfl) ?_
      refine mi_sem_steps mi_in42 (mi_calok_none _ _) 18 _ (33, [(0, .ref 98), (1, .int a1)], [.int 1], (0, 0), ((mi_G.set 99 (.inr (.int, .inl [a1, 0, 0, 0, 0, 0, 0, 0, 0, 0, 0, 0, 0, 0, 0, 0, 0, 0, 0, 0, 0, 0, 0, 0, 0, 0, 0, 0, 0, 0, 0, 0, 0, 0, 0, 0, 0, 0, 0, 0, 0, 0, 0, 0, 0, 0, 0, 0, 0, 0, 0, 0, 0, 0, 0, 0, 0, 0, 0, 0, 0, 0, 0, 0, 0, 0, 0, 0, 0, 0, 0, 0, 0, 0, 0, 0, 0, 0, 0, 0, 0, 0, 0, 0, 0, 0, 0, 0, 0, 0, 0, 0, 0, 0, 0, 0, 0, 0, 0, 0, 0, 0, 0, 0, 0, 0, 0, 0, 0, 0, 0, 0, 0, 0, 0, 0, 0, 0, 0, 0]))).set 98 (.inl (6, [.ref 99, .int 1, .int 0, .int 0, .ref 100])))) (by rfl) ?_
      exact mi_sem_ret (cal := fun _ _ _ => none) mi_in42 (by rfl)
    refine mi_sem_call mi_in85 (i := (.invokevirtual 110, 3, 42, 0, 9, 0, 173)) (by rfl) (by rfl) hM293 (by decide) ⟨Nat.le_of_ble_eq_true rfl, Nat.le_of_ble_eq_true rfl⟩ ?_
    exact mi_sem_ret (cal := fun _ _ _ => none) mi_in85 (by rfl)
  · refine mi_met_of (y := 146) (q := (mi_h146, mi_c146)) rfl (by decide) (Nat.le_of_ble_eq_true rfl) ?_
    refine mi_sem_steps mi_in146 (mi_calok_none _ _) 3 _ (5, [(0, .ref 116), (1, .int a1)], [.int 255, .int 0, .int a1], (0, 0), ((mi_G.set 99 (.inr (.int, .inl [a1, 0, 0, 0, 0, 0, 0, 0, 0, 0, 0, 0, 0, 0, 0, 0, 0, 0, 0, 0, 0, 0, 0, 0, 0, 0, 0, 0, 0, 0, 0, 0, 0, 0, 0, 0, 0, 0, 0, 0, 0, 0, 0, 0, 0, 0, 0, 0, 0, 0, 0, 0, 0, 0, 0, 0, 0, 0, 0, 0, 0, 0, 0, 0, 0, 0, 0, 0, 0, 0, 0, 0, 0, 0, 0, 0, 0, 0, 0, 0, 0, 0, 0, 0, 0, 0, 0, 0, 0, 0, 0, 0, 0, 0, 0, 0, 0, 0, 0, 0, 0, 0, 0, 0, 0, 0, 0, 0, 0, 0, 0, 0, 0, 0, 0, 0, 0, 0, 0, 0]))).set 98 (.inl (6, [.ref 99, .int 1, .int 0, .int 0, .ref 100])))) (by rfl) ?_
    have hM294 : mi_Met mi_N0 1 mi_h131 [.int a1, .int 0, .int 255] ((mi_G.set 99 (.inr (.int, .inl [a1, 0, 0, 0, 0, 0, 0, 0, 0, 0, 0, 0, 0, 0, 0, 0, 0, 0, 0, 0, 0, 0, 0, 0, 0, 0, 0, 0, 0, 0, 0, 0, 0, 0, 0, 0, 0, 0, 0, 0, 0, 0, 0, 0, 0, 0, 0, 0, 0, 0, 0, 0, 0, 0, 0, 0, 0, 0, 0, 0, 0, 0, 0, 0, 0, 0, 0, 0, 0, 0, 0, 0, 0, 0, 0, 0, 0, 0, 0, 0, 0, 0, 0, 0, 0, 0, 0, 0, 0, 0, 0, 0, 0, 0, 0, 0, 0, 0, 0, 0, 0, 0, 0, 0, 0, 0, 0, 0, 0, 0, 0, 0, 0, 0, 0, 0, 0, 0, 0, 0]))).set 98 (.inl (6, [.ref 99, .int 1, .int 0, .int 0, .ref 100]))) (some (.int 1)) ((mi_G.set 99 (.inr (.int, .inl [a1, 0, 0, 0, 0, 0, 0, 0, 0, 0, 0, 0, 0, 0, 0, 0, 0, 0, 0, 0, 0, 0, 0, 0, 0, 0, 0, 0, 0, 0, 0, 0, 0, 0, 0, 0, 0, 0, 0, 0, 0, 0, 0, 0, 0, 0, 0, 0, 0, 0, 0, 0, 0, 0, 0, 0, 0, 0, 0, 0, 0, 0, 0, 0, 0, 0, 0, 0, 0, 0, 0, 0, 0, 0, 0, 0, 0, 0, 0, 0, 0, 0, 0, 0, 0, 0, 0, 0, 0, 0, 0, 0, 0, 0, 0, 0, 0, 0, 0, 0, 0, 0, 0, 0, 0, 0, 0, 0, 0, 0, 0, 0, 0, 0, 0, 0, 0, 0, 0, 0]))).set 98 (.inl (6, [.ref 99, .int 1, .int 0, .int 0, .ref 100]))) := by
      refine mi_met_of (y := 131) (q := (mi_h131, mi_c131)) rfl (by decide) (Nat.le_of_ble_eq_true rfl) ?_
      refine mi_sem_steps mi_in131 (mi_calok_none _ _) 2 _ (2, [(0, .int a1), (1, .int 0), (2, .int 255)], [.int 0, .int a1], (0, 0), ((mi_G.set 99 (.inr (.int, .inl [a1, 0, 0, 0, 0, 0, 0, 0, 0, 0, 0, 0, 0, 0, 0, 0, 0, 0, 0, 0, 0, 0, 0, 0, 0, 0, 0, 0, 0, 0, 0, 0, 0, 0, 0, 0, 0, 0, 0, 0, 0, 0, 0, 0, 0, 0, 0, 0, 0, 0, 0, 0, 0, 0, 0, 0, 0, 0, 0, 0, 0, 0, 0, 0, 0, 0, 0, 0, 0, 0, 0, 0, 0, 0, 0, 0, 0, 0, 0, 0, 0, 0, 0, 0, 0, 0, 0, 0, 0, 0, 0, 0, 0, 0, 0, 0, 0, 0, 0, 0, 0, 0, 0, 0, 0, 0, 0, 0, 0, 0, 0, 0, 0, 0, 0, 0, 0, 0, 0, 0]))).set 98 (.inl (6, [.ref 99, .int 1, .int 0, .int 0, .ref 100])))) (by rfl) ?_
      refine mi_sem_b mi_in131 (decide (a1 < 0)) false (mi_ltF (0) (by decide) (by omega)) 14 5 ([(0, .int a1), (1, .int 0), (2, .int 255)], [], (0, 0), ((mi_G.set 99 (.inr (.int, .inl [a1, 0, 0, 0, 0, 0, 0, 0, 0, 0, 0, 0, 0, 0, 0, 0, 0, 0, 0, 0, 0, 0, 0, 0, 0, 0, 0, 0, 0, 0, 0, 0, 0, 0, 0, 0, 0, 0, 0, 0, 0, 0, 0, 0, 0, 0, 0, 0, 0, 0, 0, 0, 0, 0, 0, 0, 0, 0, 0, 0, 0, 0, 0, 0, 0, 0, 0, 0, 0, 0, 0, 0, 0, 0, 0, 0, 0, 0, 0, 0, 0, 0, 0, 0, 0, 0, 0, 0, 0, 0, 0, 0, 0, 0, 0, 0, 0, 0, 0, 0, 0, 0, 0, 0, 0, 0, 0, 0, 0, 0, 0, 0, 0, 0, 0, 0, 0, 0, 0, 0]))).set 98 (.inl (6, [.ref 99, .int 1, .int 0, .int 0, .ref 100])))) (by rfl) ?_
      refine mi_sem_steps mi_in131 (mi_calok_none _ _) 2 _ (7, [(0, .int a1), (1, .int 0), (2, .int 255)], [.int 255, .int a1], (0, 0), ((mi_G.set 99 (.inr (.int, .inl [a1, 0, 0, 0, 0, 0, 0, 0, 0, 0, 0, 0, 0, 0, 0, 0, 0, 0, 0, 0, 0, 0, 0, 0, 0, 0, 0, 0, 0, 0, 0, 0, 0, 0, 0, 0, 0, 0, 0, 0, 0, 0, 0, 0, 0, 0, 0, 0, 0, 0, 0, 0, 0, 0, 0, 0, 0, 0, 0, 0, 0, 0, 0, 0, 0, 0, 0, 0, 0, 0, 0, 0, 0, 0, 0, 0, 0, 0, 0, 0, 0, 0, 0, 0, 0, 0, 0, 0, 0, 0, 0, 0, 0, 0, 0, 0, 0, 0, 0, 0, 0, 0, 0, 0, 0, 0, 0, 0, 0, 0, 0, 0, 0, 0, 0, 0, 0, 0, 0, 0]))).set 98 (.inl (6, [.ref 99, .int 1, .int 0, .int 0, .ref 100])))) (by rfl) ?_
      refine mi_sem_b mi_in131 (decide (255 < a1)) false (mi_ltF2 (255) (by decide) (by omega)) 14 10 ([(0, .int a1), (1, .int 0), (2, .int 255)], [], (0, 0), ((mi_G.set 99 (.inr (.int, .inl [a1, 0, 0, 0, 0, 0, 0, 0, 0, 0, 0, 0, 0, 0, 0, 0, 0, 0, 0, 0, 0, 0, 0, 0, 0, 0, 0, 0, 0, 0, 0, 0, 0, 0, 0, 0, 0, 0, 0, 0, 0, 0, 0, 0, 0, 0, 0, 0, 0, 0, 0, 0, 0, 0, 0, 0, 0, 0, 0, 0, 0, 0, 0, 0, 0, 0, 0, 0, 0, 0, 0, 0, 0, 0, 0, 0, 0, 0, 0, 0, 0, 0, 0, 0, 0, 0, 0, 0, 0, 0, 0, 0, 0, 0, 0, 0, 0, 0, 0, 0, 0, 0, 0, 0, 0, 0, 0, 0, 0, 0, 0, 0, 0, 0, 0, 0, 0, 0, 0, 0]))).set 98 (.inl (6, [.ref 99, .int 1, .int 0, .int 0, .ref 100])))) (by rfl) ?_
      refine mi_sem_steps mi_in131 (mi_calok_none _ _) 2 _ (15, [(0, .int a1), (1, .int 0), (2, .int 255)], [.int 1], (0, 0), ((mi_G.set 99 (.inr (.int, .inl [a1, 0, 0, 0, 0, 0, 0, 0, 0, 0, 0, 0, 0, 0, 0, 0, 0, 0, 0, 0, 0, 0, 0, 0, 0, 0, 0, 0, 0, 0, 0, 0, 0, 0, 0, 0, 0, 0, 0, 0, 0, 0, 0, 0, 0, 0, 0, 0, 0, 0, 0, 0, 0, 0, 0, 0, 0, 0, 0, 0, 0, 0, 0, 0, 0, 0, 0, 0, 0, 0, 0, 0, 0, 0, 0, 0, 0, 0, 0, 0, 0, 0, 0, 0, 0, 0, 0, 0, 0, 0, 0, 0, 0, 0, 0, 0, 0, 0, 0, 0, 0, 0, 0, 0, 0, 0, 0, 0, 0, 0, 0, 0, 0, 0, 0, 0, 0, 0, 0, 0]))).set 98 (.inl (6, [.ref 99, .int 1, .int 0, .int 0, .ref 100])))) (by rfl) ?_
      exact mi_sem_ret (cal := fun _ _ _ => none) mi_in131 (by rfl)
    refine mi_sem_call mi_in146 (i := (.invokestatic 119, 3, 131, 0, 9, 0, 379)) (by rfl) (by rfl) hM294 (by decide) ⟨Nat.le_of_ble_eq_true rfl, Nat.le_of_ble_eq_true rfl⟩ ?_
    refine mi_sem_steps mi_in146 (mi_calok_none _ _) 18 _ (46, [(0, .ref 116), (1, .int a1)], [.int 1], (0, 0), ((((mi_G.set 99 (.inr (.int, .inl [a1, 0, 0, 0, 0, 0, 0, 0, 0, 0, 0, 0, 0, 0, 0, 0, 0, 0, 0, 0, 0, 0, 0, 0, 0, 0, 0, 0, 0, 0, 0, 0, 0, 0, 0, 0, 0, 0, 0, 0, 0, 0, 0, 0, 0, 0, 0, 0, 0, 0, 0, 0, 0, 0, 0, 0, 0, 0, 0, 0, 0, 0, 0, 0, 0, 0, 0, 0, 0, 0, 0, 0, 0, 0, 0, 0, 0, 0, 0, 0, 0, 0, 0, 0, 0, 0, 0, 0, 0, 0, 0, 0, 0, 0, 0, 0, 0, 0, 0, 0, 0, 0, 0, 0, 0, 0, 0, 0, 0, 0, 0, 0, 0, 0, 0, 0, 0, 0, 0, 0]))).set 98 (.inl (6, [.ref 99, .int 1, .int 0, .int 0, .ref 100]))).set 116 (.inl (9, [.int 0, .ref 117, .int 3, .int 1, .ref 118, .int 1, .ref 119, .int 0, .int 0, .ref 120, .ref 121, .ref 122, .ref 123, .int 0, .int 0, .int 0, .int 0, .ref 124, .ref 125, .ref 126, .ref 127, .ref 128, .ref 129, .ref 130, .int 0, .int 0, .ref 131, .ref 132, .int 0, .int 0, .ref 133, .int 0, .ref 134, .int 0, .ref 135, .ref 136, .ref 137, .ref 138, .ref 139, .ref 140, .int 0, .int 0, .int 0, .int 0, .ref 141, .int 0, .ref 142, .ref 143, .ref 144, .ref 145, .ref 146, .ref 147, .int 0, .ref 148]))).set 119 (.inr (.int, .inl [a1, 0, 0, 0, 0, 0, 0, 0, 0, 0, 0, 0, 0, 0, 0, 0, 0, 0, 0, 0, 0, 0, 0, 0, 0, 0, 0, 0, 0, 0, 0, 0, 0, 0, 0, 0, 0, 0, 0, 0, 0, 0, 0, 0, 0, 0, 0, 0, 0, 0, 0, 0, 0, 0, 0, 0, 0, 0, 0, 0, 0, 0, 0, 0, 0, 0, 0, 0, 0, 0, 0, 0, 0, 0, 0, 0, 0, 0, 0, 0, 0, 0, 0, 0, 0, 0, 0, 0, 0, 0, 0, 0, 0, 0, 0, 0, 0, 0, 0, 0, 0, 0, 0, 0, 0, 0, 0, 0, 0, 0, 0, 0, 0, 0, 0, 0, 0, 0, 0, 0])))) (by rfl) ?_
    exact mi_sem_ret (cal := fun _ _ _ => none) mi_in146 (by rfl)

set_option maxRecDepth 100000 in
set_option maxHeartbeats 4000000 in
theorem mp_feed_2 (a1 : Int32) (r0 : 256 ≤ (a1).toInt ∧ (a1).toInt ≤ 2147483647) : mi_P 85 146 [.int a1] := by
  refine ⟨.int (-1), mi_G, mi_G, (mi_h85, mi_c85), (mi_h146, mi_c146), 2, 2, rfl, rfl, rfl, by decide, by decide, ?_, ?_⟩
  · refine mi_met_of (y := 85) (q := (mi_h85, mi_c85)) rfl (by decide) (Nat.le_of_ble_eq_true rfl) ?_
    refine mi_sem_steps mi_in85 (mi_calok_none _ _) 3 _ (5, [(0, .ref 0), (1, .int a1)], [.int 255, .int 0, .int a1], (0, 0), mi_G) (by rfl) ?_
    have hM295 : mi_Met mi_N0 1 mi_h120 [.int a1, .int 0, .int 255] mi_G (some (.int 0)) mi_G := by
      refine mi_met_of (y := 120) (q := (mi_h120, mi_c120)) rfl (by decide) (Nat.le_of_ble_eq_true rfl) ?_
      refine mi_sem_steps mi_in120 (mi_calok_none _ _) 2 _ (2, [(0, .int a1), (1, .int 0), (2, .int 255)], [.int 0, .int a1], (0, 0), mi_G) (by rfl) ?_
      refine mi_sem_b mi_in120 (decide (a1 < 0)) false (mi_ltF (0) (by decide) (by omega)) 14 5 ([(0, .int a1), (1, .int 0), (2, .int 255)], [], (0, 0), mi_G) (by rfl) ?_
      refine mi_sem_steps mi_in120 (mi_calok_none _ _) 2 _ (7, [(0, .int a1), (1, .int 0), (2, .int 255)], [.int 255, .int a1], (0, 0), mi_G) (by rfl) ?_
      refine mi_sem_b mi_in120 (decide (255 < a1)) true (mi_ltT2 (255) (by decide) (by omega)) 14 10 ([(0, .int a1), (1, .int 0), (2, .int 255)], [], (0, 0), mi_G) (by rfl) ?_
      refine mi_sem_steps mi_in120 (mi_calok_none _ _) 1 _ (15, [(0, .int a1), (1, .int 0), (2, .int 255)], [.int 0], (0, 0), mi_G) (by rfl) ?_
      exact mi_sem_ret (cal := fun _ _ _ => none) mi_in120 (by rfl)
    refine mi_sem_call mi_in85 (i := (.invokestatic 74, 3, 120, 0, 9, 0, 152)) (by rfl) (by rfl) hM295 (by decide) ⟨Nat.le_of_ble_eq_true rfl, Nat.le_of_ble_eq_true rfl⟩ ?_
    refine mi_sem_steps mi_in85 (mi_calok_none _ _) 2 _ (12, [(0, .ref 0), (1, .int a1)], [.int (-1)], (0, 0), mi_G) (by rfl) ?_
    exact mi_sem_ret (cal := fun _ _ _ => none) mi_in85 (by rfl)
  · refine mi_met_of (y := 146) (q := (mi_h146, mi_c146)) rfl (by decide) (Nat.le_of_ble_eq_true rfl) ?_
    refine mi_sem_steps mi_in146 (mi_calok_none _ _) 3 _ (5, [(0, .ref 116), (1, .int a1)], [.int 255, .int 0, .int a1], (0, 0), mi_G) (by rfl) ?_
    have hM296 : mi_Met mi_N0 1 mi_h131 [.int a1, .int 0, .int 255] mi_G (some (.int 0)) mi_G := by
      refine mi_met_of (y := 131) (q := (mi_h131, mi_c131)) rfl (by decide) (Nat.le_of_ble_eq_true rfl) ?_
      refine mi_sem_steps mi_in131 (mi_calok_none _ _) 2 _ (2, [(0, .int a1), (1, .int 0), (2, .int 255)], [.int 0, .int a1], (0, 0), mi_G) (by rfl) ?_
      refine mi_sem_b mi_in131 (decide (a1 < 0)) false (mi_ltF (0) (by decide) (by omega)) 14 5 ([(0, .int a1), (1, .int 0), (2, .int 255)], [], (0, 0), mi_G) (by rfl) ?_
      refine mi_sem_steps mi_in131 (mi_calok_none _ _) 2 _ (7, [(0, .int a1), (1, .int 0), (2, .int 255)], [.int 255, .int a1], (0, 0), mi_G) (by rfl) ?_
      refine mi_sem_b mi_in131 (decide (255 < a1)) true (mi_ltT2 (255) (by decide) (by omega)) 14 10 ([(0, .int a1), (1, .int 0), (2, .int 255)], [], (0, 0), mi_G) (by rfl) ?_
      refine mi_sem_steps mi_in131 (mi_calok_none _ _) 1 _ (15, [(0, .int a1), (1, .int 0), (2, .int 255)], [.int 0], (0, 0), mi_G) (by rfl) ?_
      exact mi_sem_ret (cal := fun _ _ _ => none) mi_in131 (by rfl)
    refine mi_sem_call mi_in146 (i := (.invokestatic 119, 3, 131, 0, 9, 0, 379)) (by rfl) (by rfl) hM296 (by decide) ⟨Nat.le_of_ble_eq_true rfl, Nat.le_of_ble_eq_true rfl⟩ ?_
    refine mi_sem_steps mi_in146 (mi_calok_none _ _) 2 _ (12, [(0, .ref 116), (1, .int a1)], [.int (-1)], (0, 0), mi_G) (by rfl) ?_
    exact mi_sem_ret (cal := fun _ _ _ => none) mi_in146 (by rfl)

set_option maxRecDepth 100000 in
set_option maxHeartbeats 4000000 in
theorem mp_feed (a1 : Int32) : mi_P 85 146 [.int a1] := by
  have b0 := Int32.toInt_lt (a1)
  have c0 := Int32.le_toInt (a1)
  rcases Int.lt_or_le (a1).toInt 0 with _hh | _hh
  ·
    exact mp_feed_0 a1 ⟨by omega, by omega⟩
  ·
    rcases Int.lt_or_le (a1).toInt 256 with _hh | _hh
    ·
      exact mp_feed_1 a1 ⟨by omega, by omega⟩
    ·
      exact mp_feed_2 a1 ⟨by omega, by omega⟩

set_option maxRecDepth 100000 in
set_option maxHeartbeats 4000000 in
theorem mp_law_0   : mi_P 86 159 [] := by
  refine ⟨.int (-100), (((mi_G.set 98 (.inl (6, [.ref 99, .int 0, .int 0, .int 1, .ref 100]))).set 100 (.inl (3, [.int 0, .ref 101, .ref 102, .int 1, .ref 103, .int 0]))).set 101 (.inr (.int, .inl [2, 0, 0, 0, 0, 0, 0, 0, 0, 0, 0, 0, 0, 0, 0, 0, 0, 0, 0, 0, 0, 0, 0, 0, 0, 0, 0, 0, 0, 0, 0, 0, 0, 0, 0, 0, 0, 0, 0, 0, 0, 0, 0, 0, 0, 0, 0, 0, 0, 0, 0, 0, 0, 0, 0, 0, 0, 0, 0, 0, 0, 0, 0, 0, 0, 0, 0, 0, 0, 0, 0, 0, 0, 0, 0, 0, 0, 0, 0, 0, 0, 0, 0, 0, 0, 0, 0, 0, 0, 0, 0, 0, 0, 0, 0, 0, 0, 0, 0, 0, 0, 0, 0, 0, 0, 0, 0, 0, 0, 0, 0, 0, 0, 0, 0, 0, 0, 0, 0, 0, 0]))), (((mi_G.set 98 (.inl (6, [.ref 99, .int 0, .int 0, .int 1, .ref 100]))).set 100 (.inl (3, [.int 0, .ref 101, .ref 102, .int 1, .ref 103, .int 0]))).set 101 (.inr (.int, .inl [2, 0, 0, 0, 0, 0, 0, 0, 0, 0, 0, 0, 0, 0, 0, 0, 0, 0, 0, 0, 0, 0, 0, 0, 0, 0, 0, 0, 0, 0, 0, 0, 0, 0, 0, 0, 0, 0, 0, 0, 0, 0, 0, 0, 0, 0, 0, 0, 0, 0, 0, 0, 0, 0, 0, 0, 0, 0, 0, 0, 0, 0, 0, 0, 0, 0, 0, 0, 0, 0, 0, 0, 0, 0, 0, 0, 0, 0, 0, 0, 0, 0, 0, 0, 0, 0, 0, 0, 0, 0, 0, 0, 0, 0, 0, 0, 0, 0, 0, 0, 0, 0, 0, 0, 0, 0, 0, 0, 0, 0, 0, 0, 0, 0, 0, 0, 0, 0, 0, 0, 0]))), (mi_h86, mi_c86), (mi_h159, mi_c159), 11, 10, rfl, rfl, rfl, by decide, by decide, ?_, ?_⟩
  · exact mi_fun_ok mi_N0 11 86 (mi_h86, mi_c86) _ _ _ _ rfl (mi_eR_ok (by decide +kernel))
  · exact mi_fun_ok mi_N0 10 159 (mi_h159, mi_c159) _ _ _ _ rfl (mi_eR_ok (by decide +kernel))

set_option maxRecDepth 100000 in
set_option maxHeartbeats 4000000 in
theorem mp_law  : mi_P 86 159 [] := by
  exact mp_law_0  

set_option maxRecDepth 100000 in
set_option maxHeartbeats 4000000 in
theorem mp_book_0 (a1 : Int32) (a2 : Int32) (r0 : (-2147483648) ≤ (a1).toInt ∧ (a1).toInt ≤ (-1)) : mi_P 87 164 [.int a1, .int a2] := by
  refine ⟨.int (-1), mi_G, mi_G, (mi_h87, mi_c87), (mi_h164, mi_c164), 1, 1, rfl, rfl, rfl, by decide, by decide, ?_, ?_⟩
  · refine mi_met_of (y := 87) (q := (mi_h87, mi_c87)) rfl (by decide) (Nat.le_of_ble_eq_true rfl) ?_
    refine mi_sem_steps mi_in87 (mi_calok_none _ _) 1 _ (1, [(0, .ref 0), (1, .int a1), (2, .int a2)], [.int a1], (0, 0), mi_G) (by rfl) ?_
    refine mi_sem_b mi_in87 (decide (a1 < 0)) true (mi_ltT (0) (by decide) (by omega)) 13 4 ([(0, .ref 0), (1, .int a1), (2, .int a2)], [], (0, 0), mi_G) (by rfl) ?_
    refine mi_sem_steps mi_in87 (mi_calok_none _ _) 1 _ (14, [(0, .ref 0), (1, .int a1), (2, .int a2)], [.int (-1)], (0, 0), mi_G) (by rfl) ?_
    exact mi_sem_ret (cal := fun _ _ _ => none) mi_in87 (by rfl)
  · refine mi_met_of (y := 164) (q := (mi_h164, mi_c164)) rfl (by decide) (Nat.le_of_ble_eq_true rfl) ?_
    refine mi_sem_steps mi_in164 (mi_calok_none _ _) 1 _ (1, [(0, .ref 116), (1, .int a1), (2, .int a2)], [.int a1], (0, 0), mi_G) (by rfl) ?_
    refine mi_sem_b mi_in164 (decide (a1 < 0)) true (mi_ltT (0) (by decide) (by omega)) 13 4 ([(0, .ref 116), (1, .int a1), (2, .int a2)], [], (0, 0), mi_G) (by rfl) ?_
    refine mi_sem_steps mi_in164 (mi_calok_none _ _) 1 _ (14, [(0, .ref 116), (1, .int a1), (2, .int a2)], [.int (-1)], (0, 0), mi_G) (by rfl) ?_
    exact mi_sem_ret (cal := fun _ _ _ => none) mi_in164 (by rfl)

set_option maxRecDepth 100000 in
set_option maxHeartbeats 4000000 in
theorem mp_book_1 (a1 : Int32) (a2 : Int32) (r0 : 0 ≤ (a1).toInt ∧ (a1).toInt ≤ 2147483647) (r1 : (-2147483648) ≤ (a2).toInt ∧ (a2).toInt ≤ (-1)) : mi_P 87 164 [.int a1, .int a2] := by
  refine ⟨.int (-1), mi_G, mi_G, (mi_h87, mi_c87), (mi_h164, mi_c164), 2, 2, rfl, rfl, rfl, by decide, by decide, ?_, ?_⟩
  · refine mi_met_of (y := 87) (q := (mi_h87, mi_c87)) rfl (by decide) (Nat.le_of_ble_eq_true rfl) ?_
    refine mi_sem_steps mi_in87 (mi_calok_none _ _) 1 _ (1, [(0, .ref 0), (1, .int a1), (2, .int a2)], [.int a1], (0, 0), mi_G) (by rfl) ?_
    refine mi_sem_b mi_in87 (decide (a1 < 0)) false (mi_ltF (0) (by decide) (by omega)) 13 4 ([(0, .ref 0), (1, .int a1), (2, .int a2)], [], (0, 0), mi_G) (by rfl) ?_
    refine mi_sem_steps mi_in87 (mi_calok_none _ _) 3 _ (7, [(0, .ref 0), (1, .int a1), (2, .int a2)], [.int 1, .int 0, .int a2], (0, 0), mi_G) (by rfl) ?_
    have hM297 : mi_Met mi_N0 1 mi_h120 [.int a2, .int 0, .int 1] mi_G (some (.int 0)) mi_G := by
      refine mi_met_of (y := 120) (q := (mi_h120, mi_c120)) rfl (by decide) (Nat.le_of_ble_eq_true rfl) ?_
      refine mi_sem_steps mi_in120 (mi_calok_none _ _) 2 _ (2, [(0, .int a2), (1, .int 0), (2, .int 1)], [.int 0, .int a2], (0, 0), mi_G) (by rfl) ?_
      refine mi_sem_b mi_in120 (decide (a2 < 0)) true (mi_ltT (0) (by decide) (by omega)) 14 5 ([(0, .int a2), (1, .int 0), (2, .int 1)], [], (0, 0), mi_G) (by rfl) ?_
      refine mi_sem_steps mi_in120 (mi_calok_none _ _) 1 _ (15, [(0, .int a2), (1, .int 0), (2, .int 1)], [.int 0], (0, 0), mi_G) (by rfl) ?_
      exact mi_sem_ret (cal := fun _ _ _ => none) mi_in120 (by rfl)
    refine mi_sem_call mi_in87 (i := (.invokestatic 74, 3, 120, 0, 9, 0, 152)) (by rfl) (by rfl) hM297 (by decide) ⟨Nat.le_of_ble_eq_true rfl, Nat.le_of_ble_eq_true rfl⟩ ?_
    refine mi_sem_steps mi_in87 (mi_calok_none _ _) 2 _ (14, [(0, .ref 0), (1, .int a1), (2, .int a2)], [.int (-1)], (0, 0), mi_G) (by rfl) ?_
    exact mi_sem_ret (cal := fun _ _ _ => none) mi_in87 (by rfl)
  · refine mi_met_of (y := 164) (q := (mi_h164, mi_c164)) rfl (by decide) (Nat.le_of_ble_eq_true rfl) ?_
    refine mi_sem_steps mi_in164 (mi_calok_none _ _) 1 _ (1, [(0, .ref 116), (1, .int a1), (2, .int a2)], [.int a1], (0, 0), mi_G) (by rfl) ?_
    refine mi_sem_b mi_in164 (decide (a1 < 0)) false (mi_ltF (0) (by decide) (by omega)) 13 4 ([(0, .ref 116), (1, .int a1), (2, .int a2)], [], (0, 0), mi_G) (by rfl) ?_
    refine mi_sem_steps mi_in164 (mi_calok_none _ _) 3 _ (7, [(0, .ref 116), (1, .int a1), (2, .int a2)], [.int 1, .int 0, .int a2], (0, 0), mi_G) (by rfl) ?_
    have hM298 : mi_Met mi_N0 1 mi_h131 [.int a2, .int 0, .int 1] mi_G (some (.int 0)) mi_G := by
      refine mi_met_of (y := 131) (q := (mi_h131, mi_c131)) rfl (by decide) (Nat.le_of_ble_eq_true rfl) ?_
      refine mi_sem_steps mi_in131 (mi_calok_none _ _) 2 _ (2, [(0, .int a2), (1, .int 0), (2, .int 1)], [.int 0, .int a2], (0, 0), mi_G) (by rfl) ?_
      refine mi_sem_b mi_in131 (decide (a2 < 0)) true (mi_ltT (0) (by decide) (by omega)) 14 5 ([(0, .int a2), (1, .int 0), (2, .int 1)], [], (0, 0), mi_G) (by rfl) ?_
      refine mi_sem_steps mi_in131 (mi_calok_none _ _) 1 _ (15, [(0, .int a2), (1, .int 0), (2, .int 1)], [.int 0], (0, 0), mi_G) (by rfl) ?_
      exact mi_sem_ret (cal := fun _ _ _ => none) mi_in131 (by rfl)
    refine mi_sem_call mi_in164 (i := (.invokestatic 119, 3, 131, 0, 9, 0, 379)) (by rfl) (by rfl) hM298 (by decide) ⟨Nat.le_of_ble_eq_true rfl, Nat.le_of_ble_eq_true rfl⟩ ?_
    refine mi_sem_steps mi_in164 (mi_calok_none _ _) 2 _ (14, [(0, .ref 116), (1, .int a1), (2, .int a2)], [.int (-1)], (0, 0), mi_G) (by rfl) ?_
    exact mi_sem_ret (cal := fun _ _ _ => none) mi_in164 (by rfl)

set_option maxRecDepth 100000 in
set_option maxHeartbeats 4000000 in
theorem mp_book_2 (a1 : Int32) (a2 : Int32) (r0 : 0 ≤ (a1).toInt ∧ (a1).toInt ≤ 2147483647) (r1 : 0 ≤ (a2).toInt ∧ (a2).toInt ≤ 1) : mi_P 87 164 [.int a1, .int a2] := by
  refine ⟨.int (-2), mi_G, mi_G, (mi_h87, mi_c87), (mi_h164, mi_c164), 2, 2, rfl, rfl, rfl, by decide, by decide, ?_, ?_⟩
  · refine mi_met_of (y := 87) (q := (mi_h87, mi_c87)) rfl (by decide) (Nat.le_of_ble_eq_true rfl) ?_
    refine mi_sem_steps mi_in87 (mi_calok_none _ _) 1 _ (1, [(0, .ref 0), (1, .int a1), (2, .int a2)], [.int a1], (0, 0), mi_G) (by rfl) ?_
    refine mi_sem_b mi_in87 (decide (a1 < 0)) false (mi_ltF (0) (by decide) (by omega)) 13 4 ([(0, .ref 0), (1, .int a1), (2, .int a2)], [], (0, 0), mi_G) (by rfl) ?_
    refine mi_sem_steps mi_in87 (mi_calok_none _ _) 3 _ (7, [(0, .ref 0), (1, .int a1), (2, .int a2)], [.int 1, .int 0, .int a2], (0, 0), mi_G) (by rfl) ?_
    have hM299 : mi_Met mi_N0 1 mi_h120 [.int a2, .int 0, .int 1] mi_G (some (.int 1)) mi_G := by
      refine mi_met_of (y := 120) (q := (mi_h120, mi_c120)) rfl (by decide) (Nat.le_of_ble_eq_true rfl) ?_
      refine mi_sem_steps mi_in120 (mi_calok_none _ _) 2 _ (2, [(0, .int a2), (1, .int 0), (2, .int 1)], [.int 0, .int a2], (0, 0), mi_G) (by rfl) ?_
      refine mi_sem_b mi_in120 (decide (a2 < 0)) false (mi_ltF (0) (by decide) (by omega)) 14 5 ([(0, .int a2), (1, .int 0), (2, .int 1)], [], (0, 0), mi_G) (by rfl) ?_
      refine mi_sem_steps mi_in120 (mi_calok_none _ _) 2 _ (7, [(0, .int a2), (1, .int 0), (2, .int 1)], [.int 1, .int a2], (0, 0), mi_G) (by rfl) ?_
      refine mi_sem_b mi_in120 (decide (1 < a2)) false (mi_ltF2 (1) (by decide) (by omega)) 14 10 ([(0, .int a2), (1, .int 0), (2, .int 1)], [], (0, 0), mi_G) (by rfl) ?_
      refine mi_sem_steps mi_in120 (mi_calok_none _ _) 2 _ (15, [(0, .int a2), (1, .int 0), (2, .int 1)], [.int 1], (0, 0), mi_G) (by rfl) ?_
      exact mi_sem_ret (cal := fun _ _ _ => none) mi_in120 (by rfl)
    refine mi_sem_call mi_in87 (i := (.invokestatic 74, 3, 120, 0, 9, 0, 152)) (by rfl) (by rfl) hM299 (by decide) ⟨Nat.le_of_ble_eq_true rfl, Nat.le_of_ble_eq_true rfl⟩ ?_
    refine mi_sem_steps mi_in87 (mi_calok_none _ _) 6 _ (26, [(0, .ref 0), (1, .int a1), (2, .int a2)], [.int 0, .int a1], (0, 0), mi_G) (by rfl) ?_
    refine mi_sem_b mi_in87 (decide (a1 < 0)) false (mi_ltF (0) (by decide) (by omega)) 32 29 ([(0, .ref 0), (1, .int a1), (2, .int a2)], [], (0, 0), mi_G) (by rfl) ?_
    refine mi_sem_steps mi_in87 (mi_calok_none _ _) 1 _ (31, [(0, .ref 0), (1, .int a1), (2, .int a2)], [.int (-2)], (0, 0), mi_G) (by rfl) ?_
    exact mi_sem_ret (cal := fun _ _ _ => none) mi_in87 (by rfl)
  · refine mi_met_of (y := 164) (q := (mi_h164, mi_c164)) rfl (by decide) (Nat.le_of_ble_eq_true rfl) ?_
    refine mi_sem_steps mi_in164 (mi_calok_none _ _) 1 _ (1, [(0, .ref 116), (1, .int a1), (2, .int a2)], [.int a1], (0, 0), mi_G) (by rfl) ?_
    refine mi_sem_b mi_in164 (decide (a1 < 0)) false (mi_ltF (0) (by decide) (by omega)) 13 4 ([(0, .ref 116), (1, .int a1), (2, .int a2)], [], (0, 0), mi_G) (by rfl) ?_
    refine mi_sem_steps mi_in164 (mi_calok_none _ _) 3 _ (7, [(0, .ref 116), (1, .int a1), (2, .int a2)], [.int 1, .int 0, .int a2], (0, 0), mi_G) (by rfl) ?_
    have hM300 : mi_Met mi_N0 1 mi_h131 [.int a2, .int 0, .int 1] mi_G (some (.int 1)) mi_G := by
      refine mi_met_of (y := 131) (q := (mi_h131, mi_c131)) rfl (by decide) (Nat.le_of_ble_eq_true rfl) ?_
      refine mi_sem_steps mi_in131 (mi_calok_none _ _) 2 _ (2, [(0, .int a2), (1, .int 0), (2, .int 1)], [.int 0, .int a2], (0, 0), mi_G) (by rfl) ?_
      refine mi_sem_b mi_in131 (decide (a2 < 0)) false (mi_ltF (0) (by decide) (by omega)) 14 5 ([(0, .int a2), (1, .int 0), (2, .int 1)], [], (0, 0), mi_G) (by rfl) ?_
      refine mi_sem_steps mi_in131 (mi_calok_none _ _) 2 _ (7, [(0, .int a2), (1, .int 0), (2, .int 1)], [.int 1, .int a2], (0, 0), mi_G) (by rfl) ?_
      refine mi_sem_b mi_in131 (decide (1 < a2)) false (mi_ltF2 (1) (by decide) (by omega)) 14 10 ([(0, .int a2), (1, .int 0), (2, .int 1)], [], (0, 0), mi_G) (by rfl) ?_
      refine mi_sem_steps mi_in131 (mi_calok_none _ _) 2 _ (15, [(0, .int a2), (1, .int 0), (2, .int 1)], [.int 1], (0, 0), mi_G) (by rfl) ?_
      exact mi_sem_ret (cal := fun _ _ _ => none) mi_in131 (by rfl)
    refine mi_sem_call mi_in164 (i := (.invokestatic 119, 3, 131, 0, 9, 0, 379)) (by rfl) (by rfl) hM300 (by decide) ⟨Nat.le_of_ble_eq_true rfl, Nat.le_of_ble_eq_true rfl⟩ ?_
    refine mi_sem_steps mi_in164 (mi_calok_none _ _) 6 _ (23, [(0, .ref 116), (1, .int a1), (2, .int a2)], [.int 0, .int a1], (0, 0), mi_G) (by rfl) ?_
    refine mi_sem_b mi_in164 (decide (a1 < 0)) false (mi_ltF (0) (by decide) (by omega)) 31 26 ([(0, .ref 116), (1, .int a1), (2, .int a2)], [], (0, 0), mi_G) (by rfl) ?_
    refine mi_sem_steps mi_in164 (mi_calok_none _ _) 2 _ (45, [(0, .ref 116), (1, .int a1), (2, .int a2)], [.int (-2)], (0, 0), mi_G) (by rfl) ?_
    exact mi_sem_ret (cal := fun _ _ _ => none) mi_in164 (by rfl)

set_option maxRecDepth 100000 in
set_option maxHeartbeats 4000000 in
theorem mp_book_3 (a1 : Int32) (a2 : Int32) (r0 : 0 ≤ (a1).toInt ∧ (a1).toInt ≤ 2147483647) (r1 : 2 ≤ (a2).toInt ∧ (a2).toInt ≤ 2147483647) : mi_P 87 164 [.int a1, .int a2] := by
  refine ⟨.int (-1), mi_G, mi_G, (mi_h87, mi_c87), (mi_h164, mi_c164), 2, 2, rfl, rfl, rfl, by decide, by decide, ?_, ?_⟩
  · refine mi_met_of (y := 87) (q := (mi_h87, mi_c87)) rfl (by decide) (Nat.le_of_ble_eq_true rfl) ?_
    refine mi_sem_steps mi_in87 (mi_calok_none _ _) 1 _ (1, [(0, .ref 0), (1, .int a1), (2, .int a2)], [.int a1], (0, 0), mi_G) (by rfl) ?_
    refine mi_sem_b mi_in87 (decide (a1 < 0)) false (mi_ltF (0) (by decide) (by omega)) 13 4 ([(0, .ref 0), (1, .int a1), (2, .int a2)], [], (0, 0), mi_G) (by rfl) ?_
    refine mi_sem_steps mi_in87 (mi_calok_none _ _) 3 _ (7, [(0, .ref 0), (1, .int a1), (2, .int a2)], [.int 1, .int 0, .int a2], (0, 0), mi_G) (by rfl) ?_
    have hM301 : mi_Met mi_N0 1 mi_h120 [.int a2, .int 0, .int 1] mi_G (some (.int 0)) mi_G := by
      refine mi_met_of (y := 120) (q := (mi_h120, mi_c120)) rfl (by decide) (Nat.le_of_ble_eq_true rfl) ?_
      refine mi_sem_steps mi_in120 (mi_calok_none _ _) 2 _ (2, [(0, .int a2), (1, .int 0), (2, .int 1)], [.int 0, .int a2], (0, 0), mi_G) (by rfl) ?_
      refine mi_sem_b mi_in120 (decide (a2 < 0)) false (mi_ltF (0) (by decide) (by omega)) 14 5 ([(0, .int a2), (1, .int 0), (2, .int 1)], [], (0, 0), mi_G) (by rfl) ?_
      refine mi_sem_steps mi_in120 (mi_calok_none _ _) 2 _ (7, [(0, .int a2), (1, .int 0), (2, .int 1)], [.int 1, .int a2], (0, 0), mi_G) (by rfl) ?_
      refine mi_sem_b mi_in120 (decide (1 < a2)) true (mi_ltT2 (1) (by decide) (by omega)) 14 10 ([(0, .int a2), (1, .int 0), (2, .int 1)], [], (0, 0), mi_G) (by rfl) ?_
      refine mi_sem_steps mi_in120 (mi_calok_none _ _) 1 _ (15, [(0, .int a2), (1, .int 0), (2, .int 1)], [.int 0], (0, 0), mi_G) (by rfl) ?_
      exact mi_sem_ret (cal := fun _ _ _ => none) mi_in120 (by rfl)
    refine mi_sem_call mi_in87 (i := (.invokestatic 74, 3, 120, 0, 9, 0, 152)) (by rfl) (by rfl) hM301 (by decide) ⟨Nat.le_of_ble_eq_true rfl, Nat.le_of_ble_eq_true rfl⟩ ?_
    refine mi_sem_steps mi_in87 (mi_calok_none _ _) 2 _ (14, [(0, .ref 0), (1, .int a1), (2, .int a2)], [.int (-1)], (0, 0), mi_G) (by rfl) ?_
    exact mi_sem_ret (cal := fun _ _ _ => none) mi_in87 (by rfl)
  · refine mi_met_of (y := 164) (q := (mi_h164, mi_c164)) rfl (by decide) (Nat.le_of_ble_eq_true rfl) ?_
    refine mi_sem_steps mi_in164 (mi_calok_none _ _) 1 _ (1, [(0, .ref 116), (1, .int a1), (2, .int a2)], [.int a1], (0, 0), mi_G) (by rfl) ?_
    refine mi_sem_b mi_in164 (decide (a1 < 0)) false (mi_ltF (0) (by decide) (by omega)) 13 4 ([(0, .ref 116), (1, .int a1), (2, .int a2)], [], (0, 0), mi_G) (by rfl) ?_
    refine mi_sem_steps mi_in164 (mi_calok_none _ _) 3 _ (7, [(0, .ref 116), (1, .int a1), (2, .int a2)], [.int 1, .int 0, .int a2], (0, 0), mi_G) (by rfl) ?_
    have hM302 : mi_Met mi_N0 1 mi_h131 [.int a2, .int 0, .int 1] mi_G (some (.int 0)) mi_G := by
      refine mi_met_of (y := 131) (q := (mi_h131, mi_c131)) rfl (by decide) (Nat.le_of_ble_eq_true rfl) ?_
      refine mi_sem_steps mi_in131 (mi_calok_none _ _) 2 _ (2, [(0, .int a2), (1, .int 0), (2, .int 1)], [.int 0, .int a2], (0, 0), mi_G) (by rfl) ?_
      refine mi_sem_b mi_in131 (decide (a2 < 0)) false (mi_ltF (0) (by decide) (by omega)) 14 5 ([(0, .int a2), (1, .int 0), (2, .int 1)], [], (0, 0), mi_G) (by rfl) ?_
      refine mi_sem_steps mi_in131 (mi_calok_none _ _) 2 _ (7, [(0, .int a2), (1, .int 0), (2, .int 1)], [.int 1, .int a2], (0, 0), mi_G) (by rfl) ?_
      refine mi_sem_b mi_in131 (decide (1 < a2)) true (mi_ltT2 (1) (by decide) (by omega)) 14 10 ([(0, .int a2), (1, .int 0), (2, .int 1)], [], (0, 0), mi_G) (by rfl) ?_
      refine mi_sem_steps mi_in131 (mi_calok_none _ _) 1 _ (15, [(0, .int a2), (1, .int 0), (2, .int 1)], [.int 0], (0, 0), mi_G) (by rfl) ?_
      exact mi_sem_ret (cal := fun _ _ _ => none) mi_in131 (by rfl)
    refine mi_sem_call mi_in164 (i := (.invokestatic 119, 3, 131, 0, 9, 0, 379)) (by rfl) (by rfl) hM302 (by decide) ⟨Nat.le_of_ble_eq_true rfl, Nat.le_of_ble_eq_true rfl⟩ ?_
    refine mi_sem_steps mi_in164 (mi_calok_none _ _) 2 _ (14, [(0, .ref 116), (1, .int a1), (2, .int a2)], [.int (-1)], (0, 0), mi_G) (by rfl) ?_
    exact mi_sem_ret (cal := fun _ _ _ => none) mi_in164 (by rfl)

set_option maxRecDepth 100000 in
set_option maxHeartbeats 4000000 in
theorem mp_book (a1 : Int32) (a2 : Int32) : mi_P 87 164 [.int a1, .int a2] := by
  have b0 := Int32.toInt_lt (a1)
  have c0 := Int32.le_toInt (a1)
  have b1 := Int32.toInt_lt (a2)
  have c1 := Int32.le_toInt (a2)
  rcases Int.lt_or_le (a1).toInt 0 with _hh | _hh
  ·
    exact mp_book_0 a1 a2 ⟨by omega, by omega⟩
  ·
    rcases Int.lt_or_le (a2).toInt 0 with _hh | _hh
    ·
      exact mp_book_1 a1 a2 ⟨by omega, by omega⟩ ⟨by omega, by omega⟩
    ·
      rcases Int.lt_or_le (a2).toInt 2 with _hh | _hh
      ·
        exact mp_book_2 a1 a2 ⟨by omega, by omega⟩ ⟨by omega, by omega⟩
      ·
        exact mp_book_3 a1 a2 ⟨by omega, by omega⟩ ⟨by omega, by omega⟩
