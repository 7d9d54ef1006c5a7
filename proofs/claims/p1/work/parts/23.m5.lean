set_option maxRecDepth 100000 in
set_option maxHeartbeats 4000000 in
theorem mp_put_0 (a1 : Int32) (a2 : Int32) (a3 : Int64) (r0 : (-2147483648) ≤ (a1).toInt ∧ (a1).toInt ≤ (-1)) : mi_P 115 221 [.int a1, .int a2, .long a3] := by
  refine ⟨.int (-1), mi_G, mi_G, (mi_h115, mi_c115), (mi_h221, mi_c221), 4, 3, rfl, rfl, rfl, by decide, by decide, ?_, ?_⟩
  · refine mi_met_of (y := 115) (q := (mi_h115, mi_c115)) rfl (by decide) (Nat.le_of_ble_eq_true rfl) ?_
    refine mi_sem_steps mi_in115 (mi_calok_none _ _) 3 _ (3, [(0, .ref 0), (1, .int a1), (2, .int a2), (3, .long a3)], [.int a2, .int a1, .ref 0], (0, 0), mi_G) (by rfl) ?_
    have hM1627 : mi_Met mi_N0 3 mi_h128 [.ref 0, .int a1, .int a2] mi_G (some (.int (-1))) mi_G := by
      refine mi_met_of (y := 128) (q := (mi_h128, mi_c128)) rfl (by decide) (Nat.le_of_ble_eq_true rfl) ?_
      refine mi_sem_steps mi_in128 (mi_calok_none _ _) 1 _ (1, [(0, .ref 0), (1, .int a1), (2, .int a2)], [.int a1], (0, 0), mi_G) (by rfl) ?_
      have hM1626 : mi_Met mi_N0 2 mi_h121 [.int a1] mi_G (some (.int 0)) mi_G := by
        refine mi_met_of (y := 121) (q := (mi_h121, mi_c121)) rfl (by decide) (Nat.le_of_ble_eq_true rfl) ?_
        refine mi_sem_steps mi_in121 (mi_calok_none _ _) 3 _ (3, [(0, .int a1)], [.int 5, .int 0, .int a1], (0, 0), mi_G) (by rfl) ?_
        have hM1625 : mi_Met mi_N0 1 mi_h120 [.int a1, .int 0, .int 5] mi_G (some (.int 0)) mi_G := by
          refine mi_met_of (y := 120) (q := (mi_h120, mi_c120)) rfl (by decide) (Nat.le_of_ble_eq_true rfl) ?_
          refine mi_sem_steps mi_in120 (mi_calok_none _ _) 2 _ (2, [(0, .int a1), (1, .int 0), (2, .int 5)], [.int 0, .int a1], (0, 0), mi_G) (by rfl) ?_
          refine mi_sem_b mi_in120 (decide (a1 < 0)) true (mi_ltT (0) (by decide) (by omega)) 14 5 ([(0, .int a1), (1, .int 0), (2, .int 5)], [], (0, 0), mi_G) (by rfl) ?_
          refine mi_sem_steps mi_in120 (mi_calok_none _ _) 1 _ (15, [(0, .int a1), (1, .int 0), (2, .int 5)], [.int 0], (0, 0), mi_G) (by rfl) ?_
          exact mi_sem_ret (cal := fun _ _ _ => none) mi_in120 (by rfl)
        refine mi_sem_call mi_in121 (i := (.invokestatic 74, 3, 120, 0, 9, 0, 152)) (by rfl) (by rfl) hM1625 (by decide) ⟨Nat.le_of_ble_eq_true rfl, Nat.le_of_ble_eq_true rfl⟩ ?_
        exact mi_sem_ret (cal := fun _ _ _ => none) mi_in121 (by rfl)
      refine mi_sem_call mi_in128 (i := (.invokestatic 70, 3, 121, 0, 9, 0, 157)) (by rfl) (by rfl) hM1626 (by decide) ⟨Nat.le_of_ble_eq_true rfl, Nat.le_of_ble_eq_true rfl⟩ ?_
      refine mi_sem_steps mi_in128 (mi_calok_none _ _) 2 _ (8, [(0, .ref 0), (1, .int a1), (2, .int a2)], [.int (-1)], (0, 0), mi_G) (by rfl) ?_
      exact mi_sem_ret (cal := fun _ _ _ => none) mi_in128 (by rfl)
    refine mi_sem_call mi_in115 (i := (.invokevirtual 312, 3, 128, 0, 9, 0, 311)) (by rfl) (by rfl) hM1627 (by decide) ⟨Nat.le_of_ble_eq_true rfl, Nat.le_of_ble_eq_true rfl⟩ ?_
    refine mi_sem_steps mi_in115 (mi_calok_none _ _) 4 _ (15, [(5, .int (-1)), (0, .ref 0), (1, .int a1), (2, .int a2), (3, .long a3)], [.int (-1)], (0, 0), mi_G) (by rfl) ?_
    exact mi_sem_ret (cal := fun _ _ _ => none) mi_in115 (by rfl)
  · refine mi_met_of (y := 221) (q := (mi_h221, mi_c221)) rfl (by decide) (Nat.le_of_ble_eq_true rfl) ?_
    refine mi_sem_steps mi_in221 (mi_calok_none _ _) 1 _ (1, [(0, .ref 116), (1, .int a1), (2, .int a2), (3, .long a3)], [.int a1], (0, 0), mi_G) (by rfl) ?_
    have hM1629 : mi_Met mi_N0 2 mi_h133 [.int a1] mi_G (some (.int 0)) mi_G := by
      refine mi_met_of (y := 133) (q := (mi_h133, mi_c133)) rfl (by decide) (Nat.le_of_ble_eq_true rfl) ?_
      refine mi_sem_steps mi_in133 (mi_calok_none _ _) 3 _ (3, [(0, .int a1)], [.int 5, .int 0, .int a1], (0, 0), mi_G) (by rfl) ?_
      have hM1628 : mi_Met mi_N0 1 mi_h131 [.int a1, .int 0, .int 5] mi_G (some (.int 0)) mi_G := by
        refine mi_met_of (y := 131) (q := (mi_h131, mi_c131)) rfl (by decide) (Nat.le_of_ble_eq_true rfl) ?_
        refine mi_sem_steps mi_in131 (mi_calok_none _ _) 2 _ (2, [(0, .int a1), (1, .int 0), (2, .int 5)], [.int 0, .int a1], (0, 0), mi_G) (by rfl) ?_
        refine mi_sem_b mi_in131 (decide (a1 < 0)) true (mi_ltT (0) (by decide) (by omega)) 14 5 ([(0, .int a1), (1, .int 0), (2, .int 5)], [], (0, 0), mi_G) (by rfl) ?_
        refine mi_sem_steps mi_in131 (mi_calok_none _ _) 1 _ (15, [(0, .int a1), (1, .int 0), (2, .int 5)], [.int 0], (0, 0), mi_G) (by rfl) ?_
        exact mi_sem_ret (cal := fun _ _ _ => none) mi_in131 (by rfl)
      refine mi_sem_call mi_in133 (i := (.invokestatic 119, 3, 131, 0, 9, 0, 379)) (by rfl) (by rfl) hM1628 (by decide) ⟨Nat.le_of_ble_eq_true rfl, Nat.le_of_ble_eq_true rfl⟩ ?_
      exact mi_sem_ret (cal := fun _ _ _ => none) mi_in133 (by rfl)
    refine mi_sem_call mi_in221 (i := (.invokestatic 127, 3, 133, 0, 9, 0, 382)) (by rfl) (by rfl) hM1629 (by decide) ⟨Nat.le_of_ble_eq_true rfl, Nat.le_of_ble_eq_true rfl⟩ ?_
    refine mi_sem_steps mi_in221 (mi_calok_none _ _) 2 _ (8, [(0, .ref 116), (1, .int a1), (2, .int a2), (3, .long a3)], [.int (-1)], (0, 0), mi_G) (by rfl) ?_
    exact mi_sem_ret (cal := fun _ _ _ => none) mi_in221 (by rfl)

set_option maxRecDepth 100000 in
set_option maxHeartbeats 4000000 in
theorem mp_put_1 (a2 : Int32) (a3 : Int64)  : mi_P 115 221 [.int 0, .int a2, .long a3] := by
  refine ⟨.int (-11), mi_G, mi_G, (mi_h115, mi_c115), (mi_h221, mi_c221), 4, 3, rfl, rfl, rfl, by decide, by decide, ?_, ?_⟩
  · refine mi_met_of (y := 115) (q := (mi_h115, mi_c115)) rfl (by decide) (Nat.le_of_ble_eq_true rfl) ?_
    refine mi_sem_steps mi_in115 (mi_calok_none _ _) 3 _ (3, [(0, .ref 0), (1, .int 0), (2, .int a2), (3, .long a3)], [.int a2, .int 0, .ref 0], (0, 0), mi_G) (by rfl) ?_
    have hM1633 : mi_Met mi_N0 3 mi_h128 [.ref 0, .int 0, .int a2] mi_G (some (.int (-11))) mi_G := by
      refine mi_met_of (y := 128) (q := (mi_h128, mi_c128)) rfl (by decide) (Nat.le_of_ble_eq_true rfl) ?_
      refine mi_sem_steps mi_in128 (mi_calok_none _ _) 1 _ (1, [(0, .ref 0), (1, .int 0), (2, .int a2)], [.int 0], (0, 0), mi_G) (by rfl) ?_
      have hM1632 : mi_Met mi_N0 2 mi_h121 [.int 0] mi_G (some (.int 1)) mi_G := mi_fun_ok mi_N0 2 121 (mi_h121, mi_c121) _ _ _ _ rfl (mi_eR_ok (by decide +kernel))
      refine mi_sem_call mi_in128 (i := (.invokestatic 70, 3, 121, 0, 9, 0, 157)) (by rfl) (by rfl) hM1632 (by decide) ⟨Nat.le_of_ble_eq_true rfl, Nat.le_of_ble_eq_true rfl⟩ ?_
      refine mi_sem_steps mi_in128 (mi_calok_none _ _) 10 _ (25, [(3, .ref 104), (0, .ref 0), (1, .int 0), (2, .int a2)], [.int (-11)], (0, 0), mi_G) (by rfl) ?_
      exact mi_sem_ret (cal := fun _ _ _ => none) mi_in128 (by rfl)
    refine mi_sem_call mi_in115 (i := (.invokevirtual 312, 3, 128, 0, 9, 0, 311)) (by rfl) (by rfl) hM1633 (by decide) ⟨Nat.le_of_ble_eq_true rfl, Nat.le_of_ble_eq_true rfl⟩ ?_
    refine mi_sem_steps mi_in115 (mi_calok_none _ _) 4 _ (15, [(5, .int (-11)), (0, .ref 0), (1, .int 0), (2, .int a2), (3, .long a3)], [.int (-11)], (0, 0), mi_G) (by rfl) ?_
    exact mi_sem_ret (cal := fun _ _ _ => none) mi_in115 (by rfl)
  · refine mi_met_of (y := 221) (q := (mi_h221, mi_c221)) rfl (by decide) (Nat.le_of_ble_eq_true rfl) ?_
    refine mi_sem_steps mi_in221 (mi_calok_none _ _) 1 _ (1, [(0, .ref 116), (1, .int 0), (2, .int a2), (3, .long a3)], [.int 0], (0, 0), mi_G) (by rfl) ?_
    have hM1634 : mi_Met mi_N0 2 mi_h133 [.int 0] mi_G (some (.int 1)) mi_G := mi_fun_ok mi_N0 2 133 (mi_h133, mi_c133) _ _ _ _ rfl (mi_eR_ok (by decide +kernel))
    refine mi_sem_call mi_in221 (i := (.invokestatic 127, 3, 133, 0, 9, 0, 382)) (by rfl) (by rfl) hM1634 (by decide) ⟨Nat.le_of_ble_eq_true rfl, Nat.le_of_ble_eq_true rfl⟩ ?_
    refine mi_sem_steps mi_in221 (mi_calok_none _ _) 8 _ (21, [(0, .ref 116), (1, .int 0), (2, .int a2), (3, .long a3)], [.int (-11)], (0, 0), mi_G) (by rfl) ?_
    exact mi_sem_ret (cal := fun _ _ _ => none) mi_in221 (by rfl)

set_option maxRecDepth 100000 in
set_option maxHeartbeats 4000000 in
theorem mp_put_2 (a2 : Int32) (a3 : Int64)  : mi_P 115 221 [.int 1, .int a2, .long a3] := by
  refine ⟨.int (-11), mi_G, mi_G, (mi_h115, mi_c115), (mi_h221, mi_c221), 4, 3, rfl, rfl, rfl, by decide, by decide, ?_, ?_⟩
  · refine mi_met_of (y := 115) (q := (mi_h115, mi_c115)) rfl (by decide) (Nat.le_of_ble_eq_true rfl) ?_
    refine mi_sem_steps mi_in115 (mi_calok_none _ _) 3 _ (3, [(0, .ref 0), (1, .int 1), (2, .int a2), (3, .long a3)], [.int a2, .int 1, .ref 0], (0, 0), mi_G) (by rfl) ?_
    have hM1638 : mi_Met mi_N0 3 mi_h128 [.ref 0, .int 1, .int a2] mi_G (some (.int (-11))) mi_G := by
      refine mi_met_of (y := 128) (q := (mi_h128, mi_c128)) rfl (by decide) (Nat.le_of_ble_eq_true rfl) ?_
      refine mi_sem_steps mi_in128 (mi_calok_none _ _) 1 _ (1, [(0, .ref 0), (1, .int 1), (2, .int a2)], [.int 1], (0, 0), mi_G) (by rfl) ?_
      have hM1637 : mi_Met mi_N0 2 mi_h121 [.int 1] mi_G (some (.int 1)) mi_G := mi_fun_ok mi_N0 2 121 (mi_h121, mi_c121) _ _ _ _ rfl (mi_eR_ok (by decide +kernel))
      refine mi_sem_call mi_in128 (i := (.invokestatic 70, 3, 121, 0, 9, 0, 157)) (by rfl) (by rfl) hM1637 (by decide) ⟨Nat.le_of_ble_eq_true rfl, Nat.le_of_ble_eq_true rfl⟩ ?_
      refine mi_sem_steps mi_in128 (mi_calok_none _ _) 10 _ (25, [(3, .ref 106), (0, .ref 0), (1, .int 1), (2, .int a2)], [.int (-11)], (0, 0), mi_G) (by rfl) ?_
      exact mi_sem_ret (cal := fun _ _ _ => none) mi_in128 (by rfl)
    refine mi_sem_call mi_in115 (i := (.invokevirtual 312, 3, 128, 0, 9, 0, 311)) (by rfl) (by rfl) hM1638 (by decide) ⟨Nat.le_of_ble_eq_true rfl, Nat.le_of_ble_eq_true rfl⟩ ?_
    refine mi_sem_steps mi_in115 (mi_calok_none _ _) 4 _ (15, [(5, .int (-11)), (0, .ref 0), (1, .int 1), (2, .int a2), (3, .long a3)], [.int (-11)], (0, 0), mi_G) (by rfl) ?_
    exact mi_sem_ret (cal := fun _ _ _ => none) mi_in115 (by rfl)
  · refine mi_met_of (y := 221) (q := (mi_h221, mi_c221)) rfl (by decide) (Nat.le_of_ble_eq_true rfl) ?_
    refine mi_sem_steps mi_in221 (mi_calok_none _ _) 1 _ (1, [(0, .ref 116), (1, .int 1), (2, .int a2), (3, .long a3)], [.int 1], (0, 0), mi_G) (by rfl) ?_
    have hM1639 : mi_Met mi_N0 2 mi_h133 [.int 1] mi_G (some (.int 1)) mi_G := mi_fun_ok mi_N0 2 133 (mi_h133, mi_c133) _ _ _ _ rfl (mi_eR_ok (by decide +kernel))
    refine mi_sem_call mi_in221 (i := (.invokestatic 127, 3, 133, 0, 9, 0, 382)) (by rfl) (by rfl) hM1639 (by decide) ⟨Nat.le_of_ble_eq_true rfl, Nat.le_of_ble_eq_true rfl⟩ ?_
    refine mi_sem_steps mi_in221 (mi_calok_none _ _) 8 _ (21, [(0, .ref 116), (1, .int 1), (2, .int a2), (3, .long a3)], [.int (-11)], (0, 0), mi_G) (by rfl) ?_
    exact mi_sem_ret (cal := fun _ _ _ => none) mi_in221 (by rfl)

set_option maxRecDepth 100000 in
set_option maxHeartbeats 4000000 in
theorem mp_put_3 (a2 : Int32) (a3 : Int64)  : mi_P 115 221 [.int 2, .int a2, .long a3] := by
  refine ⟨.int (-11), mi_G, mi_G, (mi_h115, mi_c115), (mi_h221, mi_c221), 4, 3, rfl, rfl, rfl, by decide, by decide, ?_, ?_⟩
  · refine mi_met_of (y := 115) (q := (mi_h115, mi_c115)) rfl (by decide) (Nat.le_of_ble_eq_true rfl) ?_
    refine mi_sem_steps mi_in115 (mi_calok_none _ _) 3 _ (3, [(0, .ref 0), (1, .int 2), (2, .int a2), (3, .long a3)], [.int a2, .int 2, .ref 0], (0, 0), mi_G) (by rfl) ?_
    have hM1643 : mi_Met mi_N0 3 mi_h128 [.ref 0, .int 2, .int a2] mi_G (some (.int (-11))) mi_G := by
      refine mi_met_of (y := 128) (q := (mi_h128, mi_c128)) rfl (by decide) (Nat.le_of_ble_eq_true rfl) ?_
      refine mi_sem_steps mi_in128 (mi_calok_none _ _) 1 _ (1, [(0, .ref 0), (1, .int 2), (2, .int a2)], [.int 2], (0, 0), mi_G) (by rfl) ?_
      have hM1642 : mi_Met mi_N0 2 mi_h121 [.int 2] mi_G (some (.int 1)) mi_G := mi_fun_ok mi_N0 2 121 (mi_h121, mi_c121) _ _ _ _ rfl (mi_eR_ok (by decide +kernel))
      refine mi_sem_call mi_in128 (i := (.invokestatic 70, 3, 121, 0, 9, 0, 157)) (by rfl) (by rfl) hM1642 (by decide) ⟨Nat.le_of_ble_eq_true rfl, Nat.le_of_ble_eq_true rfl⟩ ?_
      refine mi_sem_steps mi_in128 (mi_calok_none _ _) 10 _ (25, [(3, .ref 108), (0, .ref 0), (1, .int 2), (2, .int a2)], [.int (-11)], (0, 0), mi_G) (by rfl) ?_
      exact mi_sem_ret (cal := fun _ _ _ => none) mi_in128 (by rfl)
    refine mi_sem_call mi_in115 (i := (.invokevirtual 312, 3, 128, 0, 9, 0, 311)) (by rfl) (by rfl) hM1643 (by decide) ⟨Nat.le_of_ble_eq_true rfl, Nat.le_of_ble_eq_true rfl⟩ ?_
    refine mi_sem_steps mi_in115 (mi_calok_none _ _) 4 _ (15, [(5, .int (-11)), (0, .ref 0), (1, .int 2), (2, .int a2), (3, .long a3)], [.int (-11)], (0, 0), mi_G) (by rfl) ?_
    exact mi_sem_ret (cal := fun _ _ _ => none) mi_in115 (by rfl)
  · refine mi_met_of (y := 221) (q := (mi_h221, mi_c221)) rfl (by decide) (Nat.le_of_ble_eq_true rfl) ?_
    refine mi_sem_steps mi_in221 (mi_calok_none _ _) 1 _ (1, [(0, .ref 116), (1, .int 2), (2, .int a2), (3, .long a3)], [.int 2], (0, 0), mi_G) (by rfl) ?_
    have hM1644 : mi_Met mi_N0 2 mi_h133 [.int 2] mi_G (some (.int 1)) mi_G := mi_fun_ok mi_N0 2 133 (mi_h133, mi_c133) _ _ _ _ rfl (mi_eR_ok (by decide +kernel))
    refine mi_sem_call mi_in221 (i := (.invokestatic 127, 3, 133, 0, 9, 0, 382)) (by rfl) (by rfl) hM1644 (by decide) ⟨Nat.le_of_ble_eq_true rfl, Nat.le_of_ble_eq_true rfl⟩ ?_
    refine mi_sem_steps mi_in221 (mi_calok_none _ _) 8 _ (21, [(0, .ref 116), (1, .int 2), (2, .int a2), (3, .long a3)], [.int (-11)], (0, 0), mi_G) (by rfl) ?_
    exact mi_sem_ret (cal := fun _ _ _ => none) mi_in221 (by rfl)

set_option maxRecDepth 100000 in
set_option maxHeartbeats 4000000 in
theorem mp_put_4 (a2 : Int32) (a3 : Int64)  : mi_P 115 221 [.int 3, .int a2, .long a3] := by
  refine ⟨.int (-11), mi_G, mi_G, (mi_h115, mi_c115), (mi_h221, mi_c221), 4, 3, rfl, rfl, rfl, by decide, by decide, ?_, ?_⟩
  · refine mi_met_of (y := 115) (q := (mi_h115, mi_c115)) rfl (by decide) (Nat.le_of_ble_eq_true rfl) ?_
    refine mi_sem_steps mi_in115 (mi_calok_none _ _) 3 _ (3, [(0, .ref 0), (1, .int 3), (2, .int a2), (3, .long a3)], [.int a2, .int 3, .ref 0], (0, 0), mi_G) (by rfl) ?_
    have hM1648 : mi_Met mi_N0 3 mi_h128 [.ref 0, .int 3, .int a2] mi_G (some (.int (-11))) mi_G := by
      refine mi_met_of (y := 128) (q := (mi_h128, mi_c128)) rfl (by decide) (Nat.le_of_ble_eq_true rfl) ?_
      refine mi_sem_steps mi_in128 (mi_calok_none _ _) 1 _ (1, [(0, .ref 0), (1, .int 3), (2, .int a2)], [.int 3], (0, 0), mi_G) (by rfl) ?_
      have hM1647 : mi_Met mi_N0 2 mi_h121 [.int 3] mi_G (some (.int 1)) mi_G := mi_fun_ok mi_N0 2 121 (mi_h121, mi_c121) _ _ _ _ rfl (mi_eR_ok (by decide +kernel))
      refine mi_sem_call mi_in128 (i := (.invokestatic 70, 3, 121, 0, 9, 0, 157)) (by rfl) (by rfl) hM1647 (by decide) ⟨Nat.le_of_ble_eq_true rfl, Nat.le_of_ble_eq_true rfl⟩ ?_
      refine mi_sem_steps mi_in128 (mi_calok_none _ _) 10 _ (25, [(3, .ref 110), (0, .ref 0), (1, .int 3), (2, .int a2)], [.int (-11)], (0, 0), mi_G) (by rfl) ?_
      exact mi_sem_ret (cal := fun _ _ _ => none) mi_in128 (by rfl)
    refine mi_sem_call mi_in115 (i := (.invokevirtual 312, 3, 128, 0, 9, 0, 311)) (by rfl) (by rfl) hM1648 (by decide) ⟨Nat.le_of_ble_eq_true rfl, Nat.le_of_ble_eq_true rfl⟩ ?_
    refine mi_sem_steps mi_in115 (mi_calok_none _ _) 4 _ (15, [(5, .int (-11)), (0, .ref 0), (1, .int 3), (2, .int a2), (3, .long a3)], [.int (-11)], (0, 0), mi_G) (by rfl) ?_
    exact mi_sem_ret (cal := fun _ _ _ => none) mi_in115 (by rfl)
  · refine mi_met_of (y := 221) (q := (mi_h221, mi_c221)) rfl (by decide) (Nat.le_of_ble_eq_true rfl) ?_
    refine mi_sem_steps mi_in221 (mi_calok_none _ _) 1 _ (1, [(0, .ref 116), (1, .int 3), (2, .int a2), (3, .long a3)], [.int 3], (0, 0), mi_G) (by rfl) ?_
    have hM1649 : mi_Met mi_N0 2 mi_h133 [.int 3] mi_G (some (.int 1)) mi_G := mi_fun_ok mi_N0 2 133 (mi_h133, mi_c133) _ _ _ _ rfl (mi_eR_ok (by decide +kernel))
    refine mi_sem_call mi_in221 (i := (.invokestatic 127, 3, 133, 0, 9, 0, 382)) (by rfl) (by rfl) hM1649 (by decide) ⟨Nat.le_of_ble_eq_true rfl, Nat.le_of_ble_eq_true rfl⟩ ?_
    refine mi_sem_steps mi_in221 (mi_calok_none _ _) 8 _ (21, [(0, .ref 116), (1, .int 3), (2, .int a2), (3, .long a3)], [.int (-11)], (0, 0), mi_G) (by rfl) ?_
    exact mi_sem_ret (cal := fun _ _ _ => none) mi_in221 (by rfl)

set_option maxRecDepth 100000 in
set_option maxHeartbeats 4000000 in
theorem mp_put_5 (a2 : Int32) (a3 : Int64)  : mi_P 115 221 [.int 4, .int a2, .long a3] := by
  refine ⟨.int (-11), mi_G, mi_G, (mi_h115, mi_c115), (mi_h221, mi_c221), 4, 3, rfl, rfl, rfl, by decide, by decide, ?_, ?_⟩
  · refine mi_met_of (y := 115) (q := (mi_h115, mi_c115)) rfl (by decide) (Nat.le_of_ble_eq_true rfl) ?_
    refine mi_sem_steps mi_in115 (mi_calok_none _ _) 3 _ (3, [(0, .ref 0), (1, .int 4), (2, .int a2), (3, .long a3)], [.int a2, .int 4, .ref 0], (0, 0), mi_G) (by rfl) ?_
    have hM1653 : mi_Met mi_N0 3 mi_h128 [.ref 0, .int 4, .int a2] mi_G (some (.int (-11))) mi_G := by
      refine mi_met_of (y := 128) (q := (mi_h128, mi_c128)) rfl (by decide) (Nat.le_of_ble_eq_true rfl) ?_
      refine mi_sem_steps mi_in128 (mi_calok_none _ _) 1 _ (1, [(0, .ref 0), (1, .int 4), (2, .int a2)], [.int 4], (0, 0), mi_G) (by rfl) ?_
      have hM1652 : mi_Met mi_N0 2 mi_h121 [.int 4] mi_G (some (.int 1)) mi_G := mi_fun_ok mi_N0 2 121 (mi_h121, mi_c121) _ _ _ _ rfl (mi_eR_ok (by decide +kernel))
      refine mi_sem_call mi_in128 (i := (.invokestatic 70, 3, 121, 0, 9, 0, 157)) (by rfl) (by rfl) hM1652 (by decide) ⟨Nat.le_of_ble_eq_true rfl, Nat.le_of_ble_eq_true rfl⟩ ?_
      refine mi_sem_steps mi_in128 (mi_calok_none _ _) 10 _ (25, [(3, .ref 112), (0, .ref 0), (1, .int 4), (2, .int a2)], [.int (-11)], (0, 0), mi_G) (by rfl) ?_
      exact mi_sem_ret (cal := fun _ _ _ => none) mi_in128 (by rfl)
    refine mi_sem_call mi_in115 (i := (.invokevirtual 312, 3, 128, 0, 9, 0, 311)) (by rfl) (by rfl) hM1653 (by decide) ⟨Nat.le_of_ble_eq_true rfl, Nat.le_of_ble_eq_true rfl⟩ ?_
    refine mi_sem_steps mi_in115 (mi_calok_none _ _) 4 _ (15, [(5, .int (-11)), (0, .ref 0), (1, .int 4), (2, .int a2), (3, .long a3)], [.int (-11)], (0, 0), mi_G) (by rfl) ?_
    exact mi_sem_ret (cal := fun _ _ _ => none) mi_in115 (by rfl)
  · refine mi_met_of (y := 221) (q := (mi_h221, mi_c221)) rfl (by decide) (Nat.le_of_ble_eq_true rfl) ?_
    refine mi_sem_steps mi_in221 (mi_calok_none _ _) 1 _ (1, [(0, .ref 116), (1, .int 4), (2, .int a2), (3, .long a3)], [.int 4], (0, 0), mi_G) (by rfl) ?_
    have hM1654 : mi_Met mi_N0 2 mi_h133 [.int 4] mi_G (some (.int 1)) mi_G := mi_fun_ok mi_N0 2 133 (mi_h133, mi_c133) _ _ _ _ rfl (mi_eR_ok (by decide +kernel))
    refine mi_sem_call mi_in221 (i := (.invokestatic 127, 3, 133, 0, 9, 0, 382)) (by rfl) (by rfl) hM1654 (by decide) ⟨Nat.le_of_ble_eq_true rfl, Nat.le_of_ble_eq_true rfl⟩ ?_
    refine mi_sem_steps mi_in221 (mi_calok_none _ _) 8 _ (21, [(0, .ref 116), (1, .int 4), (2, .int a2), (3, .long a3)], [.int (-11)], (0, 0), mi_G) (by rfl) ?_
    exact mi_sem_ret (cal := fun _ _ _ => none) mi_in221 (by rfl)

set_option maxRecDepth 100000 in
set_option maxHeartbeats 4000000 in
theorem mp_put_6 (a2 : Int32) (a3 : Int64)  : mi_P 115 221 [.int 5, .int a2, .long a3] := by
  refine ⟨.int (-11), mi_G, mi_G, (mi_h115, mi_c115), (mi_h221, mi_c221), 4, 3, rfl, rfl, rfl, by decide, by decide, ?_, ?_⟩
  · refine mi_met_of (y := 115) (q := (mi_h115, mi_c115)) rfl (by decide) (Nat.le_of_ble_eq_true rfl) ?_
    refine mi_sem_steps mi_in115 (mi_calok_none _ _) 3 _ (3, [(0, .ref 0), (1, .int 5), (2, .int a2), (3, .long a3)], [.int a2, .int 5, .ref 0], (0, 0), mi_G) (by rfl) ?_
    have hM1656 : mi_Met mi_N0 3 mi_h128 [.ref 0, .int 5, .int a2] mi_G (some (.int (-11))) mi_G := by
      refine mi_met_of (y := 128) (q := (mi_h128, mi_c128)) rfl (by decide) (Nat.le_of_ble_eq_true rfl) ?_
      refine mi_sem_steps mi_in128 (mi_calok_none _ _) 1 _ (1, [(0, .ref 0), (1, .int 5), (2, .int a2)], [.int 5], (0, 0), mi_G) (by rfl) ?_
      have hM1655 : mi_Met mi_N0 2 mi_h121 [.int 5] mi_G (some (.int 1)) mi_G := mi_fun_ok mi_N0 2 121 (mi_h121, mi_c121) _ _ _ _ rfl (mi_eR_ok (by decide +kernel))
      refine mi_sem_call mi_in128 (i := (.invokestatic 70, 3, 121, 0, 9, 0, 157)) (by rfl) (by rfl) hM1655 (by decide) ⟨Nat.le_of_ble_eq_true rfl, Nat.le_of_ble_eq_true rfl⟩ ?_
      refine mi_sem_steps mi_in128 (mi_calok_none _ _) 10 _ (25, [(3, .ref 114), (0, .ref 0), (1, .int 5), (2, .int a2)], [.int (-11)], (0, 0), mi_G) (by rfl) ?_
      exact mi_sem_ret (cal := fun _ _ _ => none) mi_in128 (by rfl)
    refine mi_sem_call mi_in115 (i := (.invokevirtual 312, 3, 128, 0, 9, 0, 311)) (by rfl) (by rfl) hM1656 (by decide) ⟨Nat.le_of_ble_eq_true rfl, Nat.le_of_ble_eq_true rfl⟩ ?_
    refine mi_sem_steps mi_in115 (mi_calok_none _ _) 4 _ (15, [(5, .int (-11)), (0, .ref 0), (1, .int 5), (2, .int a2), (3, .long a3)], [.int (-11)], (0, 0), mi_G) (by rfl) ?_
    exact mi_sem_ret (cal := fun _ _ _ => none) mi_in115 (by rfl)
  · refine mi_met_of (y := 221) (q := (mi_h221, mi_c221)) rfl (by decide) (Nat.le_of_ble_eq_true rfl) ?_
    refine mi_sem_steps mi_in221 (mi_calok_none _ _) 1 _ (1, [(0, .ref 116), (1, .int 5), (2, .int a2), (3, .long a3)], [.int 5], (0, 0), mi_G) (by rfl) ?_
    have hM1657 : mi_Met mi_N0 2 mi_h133 [.int 5] mi_G (some (.int 1)) mi_G := mi_fun_ok mi_N0 2 133 (mi_h133, mi_c133) _ _ _ _ rfl (mi_eR_ok (by decide +kernel))
    refine mi_sem_call mi_in221 (i := (.invokestatic 127, 3, 133, 0, 9, 0, 382)) (by rfl) (by rfl) hM1657 (by decide) ⟨Nat.le_of_ble_eq_true rfl, Nat.le_of_ble_eq_true rfl⟩ ?_
    refine mi_sem_steps mi_in221 (mi_calok_none _ _) 8 _ (21, [(0, .ref 116), (1, .int 5), (2, .int a2), (3, .long a3)], [.int (-11)], (0, 0), mi_G) (by rfl) ?_
    exact mi_sem_ret (cal := fun _ _ _ => none) mi_in221 (by rfl)

set_option maxRecDepth 100000 in
set_option maxHeartbeats 4000000 in
theorem mp_put_7 (a1 : Int32) (a2 : Int32) (a3 : Int64) (r0 : 6 ≤ (a1).toInt ∧ (a1).toInt ≤ 2147483647) : mi_P 115 221 [.int a1, .int a2, .long a3] := by
  refine ⟨.int (-1), mi_G, mi_G, (mi_h115, mi_c115), (mi_h221, mi_c221), 4, 3, rfl, rfl, rfl, by decide, by decide, ?_, ?_⟩
  · refine mi_met_of (y := 115) (q := (mi_h115, mi_c115)) rfl (by decide) (Nat.le_of_ble_eq_true rfl) ?_
    refine mi_sem_steps mi_in115 (mi_calok_none _ _) 3 _ (3, [(0, .ref 0), (1, .int a1), (2, .int a2), (3, .long a3)], [.int a2, .int a1, .ref 0], (0, 0), mi_G) (by rfl) ?_
    have hM1660 : mi_Met mi_N0 3 mi_h128 [.ref 0, .int a1, .int a2] mi_G (some (.int (-1))) mi_G := by
      refine mi_met_of (y := 128) (q := (mi_h128, mi_c128)) rfl (by decide) (Nat.le_of_ble_eq_true rfl) ?_
      refine mi_sem_steps mi_in128 (mi_calok_none _ _) 1 _ (1, [(0, .ref 0), (1, .int a1), (2, .int a2)], [.int a1], (0, 0), mi_G) (by rfl) ?_
      have hM1659 : mi_Met mi_N0 2 mi_h121 [.int a1] mi_G (some (.int 0)) mi_G := by
        refine mi_met_of (y := 121) (q := (mi_h121, mi_c121)) rfl (by decide) (Nat.le_of_ble_eq_true rfl) ?_
        refine mi_sem_steps mi_in121 (mi_calok_none _ _) 3 _ (3, [(0, .int a1)], [.int 5, .int 0, .int a1], (0, 0), mi_G) (by rfl) ?_
        have hM1658 : mi_Met mi_N0 1 mi_h120 [.int a1, .int 0, .int 5] mi_G (some (.int 0)) mi_G := by
          refine mi_met_of (y := 120) (q := (mi_h120, mi_c120)) rfl (by decide) (Nat.le_of_ble_eq_true rfl) ?_
          refine mi_sem_steps mi_in120 (mi_calok_none _ _) 2 _ (2, [(0, .int a1), (1, .int 0), (2, .int 5)], [.int 0, .int a1], (0, 0), mi_G) (by rfl) ?_
          refine mi_sem_b mi_in120 (decide (a1 < 0)) false (mi_ltF (0) (by decide) (by omega)) 14 5 ([(0, .int a1), (1, .int 0), (2, .int 5)], [], (0, 0), mi_G) (by rfl) ?_
          refine mi_sem_steps mi_in120 (mi_calok_none _ _) 2 _ (7, [(0, .int a1), (1, .int 0), (2, .int 5)], [.int 5, .int a1], (0, 0), mi_G) (by rfl) ?_
          refine mi_sem_b mi_in120 (decide (5 < a1)) true (mi_ltT2 (5) (by decide) (by omega)) 14 10 ([(0, .int a1), (1, .int 0), (2, .int 5)], [], (0, 0), mi_G) (by rfl) ?_
          refine mi_sem_steps mi_in120 (mi_calok_none _ _) 1 _ (15, [(0, .int a1), (1, .int 0), (2, .int 5)], [.int 0], (0, 0), mi_G) (by rfl) ?_
          exact mi_sem_ret (cal := fun _ _ _ => none) mi_in120 (by rfl)
        refine mi_sem_call mi_in121 (i := (.invokestatic 74, 3, 120, 0, 9, 0, 152)) (by rfl) (by rfl) hM1658 (by decide) ⟨Nat.le_of_ble_eq_true rfl, Nat.le_of_ble_eq_true rfl⟩ ?_
        exact mi_sem_ret (cal := fun _ _ _ => none) mi_in121 (by rfl)
      refine mi_sem_call mi_in128 (i := (.invokestatic 70, 3, 121, 0, 9, 0, 157)) (by rfl) (by rfl) hM1659 (by decide) ⟨Nat.le_of_ble_eq_true rfl, Nat.le_of_ble_eq_true rfl⟩ ?_
      refine mi_sem_steps mi_in128 (mi_calok_none _ _) 2 _ (8, [(0, .ref 0), (1, .int a1), (2, .int a2)], [.int (-1)], (0, 0), mi_G) (by rfl) ?_
      exact mi_sem_ret (cal := fun _ _ _ => none) mi_in128 (by rfl)
    refine mi_sem_call mi_in115 (i := (.invokevirtual 312, 3, 128, 0, 9, 0, 311)) (by rfl) (by rfl) hM1660 (by decide) ⟨Nat.le_of_ble_eq_true rfl, Nat.le_of_ble_eq_true rfl⟩ ?_
    refine mi_sem_steps mi_in115 (mi_calok_none _ _) 4 _ (15, [(5, .int (-1)), (0, .ref 0), (1, .int a1), (2, .int a2), (3, .long a3)], [.int (-1)], (0, 0), mi_G) (by rfl) ?_
    exact mi_sem_ret (cal := fun _ _ _ => none) mi_in115 (by rfl)
  · refine mi_met_of (y := 221) (q := (mi_h221, mi_c221)) rfl (by decide) (Nat.le_of_ble_eq_true rfl) ?_
    refine mi_sem_steps mi_in221 (mi_calok_none _ _) 1 _ (1, [(0, .ref 116), (1, .int a1), (2, .int a2), (3, .long a3)], [.int a1], (0, 0), mi_G) (by rfl) ?_
    have hM1662 : mi_Met mi_N0 2 mi_h133 [.int a1] mi_G (some (.int 0)) mi_G := by
      refine mi_met_of (y := 133) (q := (mi_h133, mi_c133)) rfl (by decide) (Nat.le_of_ble_eq_true rfl) ?_
      refine mi_sem_steps mi_in133 (mi_calok_none _ _) 3 _ (3, [(0, .int a1)], [.int 5, .int 0, .int a1], (0, 0), mi_G) (by rfl) ?_
      have hM1661 : mi_Met mi_N0 1 mi_h131 [.int a1, .int 0, .int 5] mi_G (some (.int 0)) mi_G := by
        refine mi_met_of (y := 131) (q := (mi_h131, mi_c131)) rfl (by decide) (Nat.le_of_ble_eq_true rfl) ?_
        refine mi_sem_steps mi_in131 (mi_calok_none _ _) 2 _ (2, [(0, .int a1), (1, .int 0), (2, .int 5)], [.int 0, .int a1], (0, 0), mi_G) (by rfl) ?_
        refine mi_sem_b mi_in131 (decide (a1 < 0)) false (mi_ltF (0) (by decide) (by omega)) 14 5 ([(0, .int a1), (1, .int 0), (2, .int 5)], [], (0, 0), mi_G) (by rfl) ?_
        refine mi_sem_steps mi_in131 (mi_calok_none _ _) 2 _ (7, [(0, .int a1), (1, .int 0), (2, .int 5)], [.int 5, .int a1], (0, 0), mi_G) (by rfl) ?_
        refine mi_sem_b mi_in131 (decide (5 < a1)) true (mi_ltT2 (5) (by decide) (by omega)) 14 10 ([(0, .int a1), (1, .int 0), (2, .int 5)], [], (0, 0), mi_G) (by rfl) ?_
        refine mi_sem_steps mi_in131 (mi_calok_none _ _) 1 _ (15, [(0, .int a1), (1, .int 0), (2, .int 5)], [.int 0], (0, 0), mi_G) (by rfl) ?_
        exact mi_sem_ret (cal := fun _ _ _ => none) mi_in131 (by rfl)
      refine mi_sem_call mi_in133 (i := (.invokestatic 119, 3, 131, 0, 9, 0, 379)) (by rfl) (by rfl) hM1661 (by decide) ⟨Nat.le_of_ble_eq_true rfl, Nat.le_of_ble_eq_true rfl⟩ ?_
      exact mi_sem_ret (cal := fun _ _ _ => none) mi_in133 (by rfl)
    refine mi_sem_call mi_in221 (i := (.invokestatic 127, 3, 133, 0, 9, 0, 382)) (by rfl) (by rfl) hM1662 (by decide) ⟨Nat.le_of_ble_eq_true rfl, Nat.le_of_ble_eq_true rfl⟩ ?_
    refine mi_sem_steps mi_in221 (mi_calok_none _ _) 2 _ (8, [(0, .ref 116), (1, .int a1), (2, .int a2), (3, .long a3)], [.int (-1)], (0, 0), mi_G) (by rfl) ?_
    exact mi_sem_ret (cal := fun _ _ _ => none) mi_in221 (by rfl)

set_option maxRecDepth 100000 in
set_option maxHeartbeats 4000000 in
theorem mp_put (a1 : Int32) (a2 : Int32) (a3 : Int64) : mi_P 115 221 [.int a1, .int a2, .long a3] := by
  have b0 := Int32.toInt_lt (a1)
  have c0 := Int32.le_toInt (a1)
  rcases Int.lt_or_le (a1).toInt 0 with _hh | _hh
  ·
    exact mp_put_0 a1 a2 a3 ⟨by omega, by omega⟩
  ·
    rcases Int.lt_or_le (a1).toInt 6 with _hh | _hh
    ·
      rcases Int.lt_or_le (a1).toInt 1 with _hh | _hh
      ·
        have e_a1 : a1 = 0 := Int32.toInt_inj.mp ((by omega : (a1).toInt = 0).trans (by decide))
        subst e_a1
        exact mp_put_1 a2 a3 
      ·
        rcases Int.lt_or_le (a1).toInt 2 with _hh | _hh
        ·
          have e_a1 : a1 = 1 := Int32.toInt_inj.mp ((by omega : (a1).toInt = 1).trans (by decide))
          subst e_a1
          exact mp_put_2 a2 a3 
        ·
          rcases Int.lt_or_le (a1).toInt 3 with _hh | _hh
          ·
            have e_a1 : a1 = 2 := Int32.toInt_inj.mp ((by omega : (a1).toInt = 2).trans (by decide))
            subst e_a1
            exact mp_put_3 a2 a3 
          ·
            rcases Int.lt_or_le (a1).toInt 4 with _hh | _hh
            ·
              have e_a1 : a1 = 3 := Int32.toInt_inj.mp ((by omega : (a1).toInt = 3).trans (by decide))
              subst e_a1
              exact mp_put_4 a2 a3 
            ·
              rcases Int.lt_or_le (a1).toInt 5 with _hh | _hh
              ·
                have e_a1 : a1 = 4 := Int32.toInt_inj.mp ((by omega : (a1).toInt = 4).trans (by decide))
                subst e_a1
                exact mp_put_5 a2 a3 
              ·
                have e_a1 : a1 = 5 := Int32.toInt_inj.mp ((by omega : (a1).toInt = 5).trans (by decide))
                subst e_a1
                exact mp_put_6 a2 a3 
    ·
      exact mp_put_7 a1 a2 a3 ⟨by omega, by omega⟩

set_option maxRecDepth 100000 in
set_option maxHeartbeats 4000000 in
theorem mp_element_0 (a1 : Int32) (a2 : Int32) (r0 : (-2147483648) ≤ (a1).toInt ∧ (a1).toInt ≤ (-1)) : mi_P 116 222 [.int a1, .int a2] := by
  refine ⟨.long (-9223372036854775808), mi_G, mi_G, (mi_h116, mi_c116), (mi_h222, mi_c222), 4, 3, rfl, rfl, rfl, by decide, by decide, ?_, ?_⟩
  · refine mi_met_of (y := 116) (q := (mi_h116, mi_c116)) rfl (by decide) (Nat.le_of_ble_eq_true rfl) ?_
    refine mi_sem_steps mi_in116 (mi_calok_none _ _) 3 _ (3, [(0, .ref 0), (1, .int a1), (2, .int a2)], [.int a2, .int a1, .ref 0], (0, 0), mi_G) (by rfl) ?_
    have hM1665 : mi_Met mi_N0 3 mi_h128 [.ref 0, .int a1, .int a2] mi_G (some (.int (-1))) mi_G := by
      refine mi_met_of (y := 128) (q := (mi_h128, mi_c128)) rfl (by decide) (Nat.le_of_ble_eq_true rfl) ?_
      refine mi_sem_steps mi_in128 (mi_calok_none _ _) 1 _ (1, [(0, .ref 0), (1, .int a1), (2, .int a2)], [.int a1], (0, 0), mi_G) (by rfl) ?_
      have hM1664 : mi_Met mi_N0 2 mi_h121 [.int a1] mi_G (some (.int 0)) mi_G := by
        refine mi_met_of (y := 121) (q := (mi_h121, mi_c121)) rfl (by decide) (Nat.le_of_ble_eq_true rfl) ?_
        refine mi_sem_steps mi_in121 (mi_calok_none _ _) 3 _ (3, [(0, .int a1)], [.int 5, .int 0, .int a1], (0, 0), mi_G) (by rfl) ?_
        have hM1663 : mi_Met mi_N0 1 mi_h120 [.int a1, .int 0, .int 5] mi_G (some (.int 0)) mi_G := by
          refine mi_met_of (y := 120) (q := (mi_h120, mi_c120)) rfl (by decide) (Nat.le_of_ble_eq_true rfl) ?_
          refine mi_sem_steps mi_in120 (mi_calok_none _ _) 2 _ (2, [(0, .int a1), (1, .int 0), (2, .int 5)], [.int 0, .int a1], (0, 0), mi_G) (by rfl) ?_
          refine mi_sem_b mi_in120 (decide (a1 < 0)) true (mi_ltT (0) (by decide) (by omega)) 14 5 ([(0, .int a1), (1, .int 0), (2, .int 5)], [], (0, 0), mi_G) (by rfl) ?_
          refine mi_sem_steps mi_in120 (mi_calok_none _ _) 1 _ (15, [(0, .int a1), (1, .int 0), (2, .int 5)], [.int 0], (0, 0), mi_G) (by rfl) ?_
          exact mi_sem_ret (cal := fun _ _ _ => none) mi_in120 (by rfl)
        refine mi_sem_call mi_in121 (i := (.invokestatic 74, 3, 120, 0, 9, 0, 152)) (by rfl) (by rfl) hM1663 (by decide) ⟨Nat.le_of_ble_eq_true rfl, Nat.le_of_ble_eq_true rfl⟩ ?_
        exact mi_sem_ret (cal := fun _ _ _ => none) mi_in121 (by rfl)
      refine mi_sem_call mi_in128 (i := (.invokestatic 70, 3, 121, 0, 9, 0, 157)) (by rfl) (by rfl) hM1664 (by decide) ⟨Nat.le_of_ble_eq_true rfl, Nat.le_of_ble_eq_true rfl⟩ ?_
      refine mi_sem_steps mi_in128 (mi_calok_none _ _) 2 _ (8, [(0, .ref 0), (1, .int a1), (2, .int a2)], [.int (-1)], (0, 0), mi_G) (by rfl) ?_
      exact mi_sem_ret (cal := fun _ _ _ => none) mi_in128 (by rfl)
    refine mi_sem_call mi_in116 (i := (.invokevirtual 312, 3, 128, 0, 9, 0, 311)) (by rfl) (by rfl) hM1665 (by decide) ⟨Nat.le_of_ble_eq_true rfl, Nat.le_of_ble_eq_true rfl⟩ ?_
    refine mi_sem_steps mi_in116 (mi_calok_none _ _) 3 _ (26, [(0, .ref 0), (1, .int a1), (2, .int a2)], [.long (-9223372036854775808)], (0, 0), mi_G) (by rfl) ?_
    exact mi_sem_ret (cal := fun _ _ _ => none) mi_in116 (by rfl)
  · refine mi_met_of (y := 222) (q := (mi_h222, mi_c222)) rfl (by decide) (Nat.le_of_ble_eq_true rfl) ?_
    refine mi_sem_steps mi_in222 (mi_calok_none _ _) 1 _ (1, [(0, .ref 116), (1, .int a1), (2, .int a2)], [.int a1], (0, 0), mi_G) (by rfl) ?_
    have hM1667 : mi_Met mi_N0 2 mi_h133 [.int a1] mi_G (some (.int 0)) mi_G := by
      refine mi_met_of (y := 133) (q := (mi_h133, mi_c133)) rfl (by decide) (Nat.le_of_ble_eq_true rfl) ?_
      refine mi_sem_steps mi_in133 (mi_calok_none _ _) 3 _ (3, [(0, .int a1)], [.int 5, .int 0, .int a1], (0, 0), mi_G) (by rfl) ?_
      have hM1666 : mi_Met mi_N0 1 mi_h131 [.int a1, .int 0, .int 5] mi_G (some (.int 0)) mi_G := by
        refine mi_met_of (y := 131) (q := (mi_h131, mi_c131)) rfl (by decide) (Nat.le_of_ble_eq_true rfl) ?_
        refine mi_sem_steps mi_in131 (mi_calok_none _ _) 2 _ (2, [(0, .int a1), (1, .int 0), (2, .int 5)], [.int 0, .int a1], (0, 0), mi_G) (by rfl) ?_
        refine mi_sem_b mi_in131 (decide (a1 < 0)) true (mi_ltT (0) (by decide) (by omega)) 14 5 ([(0, .int a1), (1, .int 0), (2, .int 5)], [], (0, 0), mi_G) (by rfl) ?_
        refine mi_sem_steps mi_in131 (mi_calok_none _ _) 1 _ (15, [(0, .int a1), (1, .int 0), (2, .int 5)], [.int 0], (0, 0), mi_G) (by rfl) ?_
        exact mi_sem_ret (cal := fun _ _ _ => none) mi_in131 (by rfl)
      refine mi_sem_call mi_in133 (i := (.invokestatic 119, 3, 131, 0, 9, 0, 379)) (by rfl) (by rfl) hM1666 (by decide) ⟨Nat.le_of_ble_eq_true rfl, Nat.le_of_ble_eq_true rfl⟩ ?_
      exact mi_sem_ret (cal := fun _ _ _ => none) mi_in133 (by rfl)
    refine mi_sem_call mi_in222 (i := (.invokestatic 127, 3, 133, 0, 9, 0, 382)) (by rfl) (by rfl) hM1667 (by decide) ⟨Nat.le_of_ble_eq_true rfl, Nat.le_of_ble_eq_true rfl⟩ ?_
    refine mi_sem_steps mi_in222 (mi_calok_none _ _) 2 _ (48, [(0, .ref 116), (1, .int a1), (2, .int a2)], [.long (-9223372036854775808)], (0, 0), mi_G) (by rfl) ?_
    exact mi_sem_ret (cal := fun _ _ _ => none) mi_in222 (by rfl)

set_option maxRecDepth 100000 in
set_option maxHeartbeats 4000000 in
theorem mp_element_1 (a2 : Int32)  : mi_P 116 222 [.int 0, .int a2] := by
  refine ⟨.long (-9223372036854775808), mi_G, mi_G, (mi_h116, mi_c116), (mi_h222, mi_c222), 4, 3, rfl, rfl, rfl, by decide, by decide, ?_, ?_⟩
  · refine mi_met_of (y := 116) (q := (mi_h116, mi_c116)) rfl (by decide) (Nat.le_of_ble_eq_true rfl) ?_
    refine mi_sem_steps mi_in116 (mi_calok_none _ _) 3 _ (3, [(0, .ref 0), (1, .int 0), (2, .int a2)], [.int a2, .int 0, .ref 0], (0, 0), mi_G) (by rfl) ?_
    have hM1671 : mi_Met mi_N0 3 mi_h128 [.ref 0, .int 0, .int a2] mi_G (some (.int (-11))) mi_G := by
      refine mi_met_of (y := 128) (q := (mi_h128, mi_c128)) rfl (by decide) (Nat.le_of_ble_eq_true rfl) ?_
      refine mi_sem_steps mi_in128 (mi_calok_none _ _) 1 _ (1, [(0, .ref 0), (1, .int 0), (2, .int a2)], [.int 0], (0, 0), mi_G) (by rfl) ?_
      have hM1670 : mi_Met mi_N0 2 mi_h121 [.int 0] mi_G (some (.int 1)) mi_G := mi_fun_ok mi_N0 2 121 (mi_h121, mi_c121) _ _ _ _ rfl (mi_eR_ok (by decide +kernel))
      refine mi_sem_call mi_in128 (i := (.invokestatic 70, 3, 121, 0, 9, 0, 157)) (by rfl) (by rfl) hM1670 (by decide) ⟨Nat.le_of_ble_eq_true rfl, Nat.le_of_ble_eq_true rfl⟩ ?_
      refine mi_sem_steps mi_in128 (mi_calok_none _ _) 10 _ (25, [(3, .ref 104), (0, .ref 0), (1, .int 0), (2, .int a2)], [.int (-11)], (0, 0), mi_G) (by rfl) ?_
      exact mi_sem_ret (cal := fun _ _ _ => none) mi_in128 (by rfl)
    refine mi_sem_call mi_in116 (i := (.invokevirtual 312, 3, 128, 0, 9, 0, 311)) (by rfl) (by rfl) hM1671 (by decide) ⟨Nat.le_of_ble_eq_true rfl, Nat.le_of_ble_eq_true rfl⟩ ?_
    refine mi_sem_steps mi_in116 (mi_calok_none _ _) 3 _ (26, [(0, .ref 0), (1, .int 0), (2, .int a2)], [.long (-9223372036854775808)], (0, 0), mi_G) (by rfl) ?_
    exact mi_sem_ret (cal := fun _ _ _ => none) mi_in116 (by rfl)
  · refine mi_met_of (y := 222) (q := (mi_h222, mi_c222)) rfl (by decide) (Nat.le_of_ble_eq_true rfl) ?_
    refine mi_sem_steps mi_in222 (mi_calok_none _ _) 1 _ (1, [(0, .ref 116), (1, .int 0), (2, .int a2)], [.int 0], (0, 0), mi_G) (by rfl) ?_
    have hM1672 : mi_Met mi_N0 2 mi_h133 [.int 0] mi_G (some (.int 1)) mi_G := mi_fun_ok mi_N0 2 133 (mi_h133, mi_c133) _ _ _ _ rfl (mi_eR_ok (by decide +kernel))
    refine mi_sem_call mi_in222 (i := (.invokestatic 127, 3, 133, 0, 9, 0, 382)) (by rfl) (by rfl) hM1672 (by decide) ⟨Nat.le_of_ble_eq_true rfl, Nat.le_of_ble_eq_true rfl⟩ ?_
    refine mi_sem_steps mi_in222 (mi_calok_none _ _) 3 _ (9, [(0, .ref 116), (1, .int 0), (2, .int a2)], [.int 0, .ref 116], (0, 0), mi_G) (by rfl) ?_
    have hM1673 : mi_Met mi_N0 2 mi_h219 [.ref 116, .int 0] mi_G (some (.int 0)) mi_G := mi_fun_ok mi_N0 2 219 (mi_h219, mi_c219) _ _ _ _ rfl (mi_eR_ok (by decide +kernel))
    refine mi_sem_call mi_in222 (i := (.invokevirtual 372, 3, 219, 0, 9, 0, 473)) (by rfl) (by rfl) hM1673 (by decide) ⟨Nat.le_of_ble_eq_true rfl, Nat.le_of_ble_eq_true rfl⟩ ?_
    refine mi_sem_steps mi_in222 (mi_calok_none _ _) 2 _ (48, [(0, .ref 116), (1, .int 0), (2, .int a2)], [.long (-9223372036854775808)], (0, 0), mi_G) (by rfl) ?_
    exact mi_sem_ret (cal := fun _ _ _ => none) mi_in222 (by rfl)

set_option maxRecDepth 100000 in
set_option maxHeartbeats 4000000 in
theorem mp_element_2 (a2 : Int32)  : mi_P 116 222 [.int 1, .int a2] := by
  refine ⟨.long (-9223372036854775808), mi_G, mi_G, (mi_h116, mi_c116), (mi_h222, mi_c222), 4, 3, rfl, rfl, rfl, by decide, by decide, ?_, ?_⟩
  · refine mi_met_of (y := 116) (q := (mi_h116, mi_c116)) rfl (by decide) (Nat.le_of_ble_eq_true rfl) ?_
    refine mi_sem_steps mi_in116 (mi_calok_none _ _) 3 _ (3, [(0, .ref 0), (1, .int 1), (2, .int a2)], [.int a2, .int 1, .ref 0], (0, 0), mi_G) (by rfl) ?_
    have hM1677 : mi_Met mi_N0 3 mi_h128 [.ref 0, .int 1, .int a2] mi_G (some (.int (-11))) mi_G := by
      refine mi_met_of (y := 128) (q := (mi_h128, mi_c128)) rfl (by decide) (Nat.le_of_ble_eq_true rfl) ?_
      refine mi_sem_steps mi_in128 (mi_calok_none _ _) 1 _ (1, [(0, .ref 0), (1, .int 1), (2, .int a2)], [.int 1], (0, 0), mi_G) (by rfl) ?_
      have hM1676 : mi_Met mi_N0 2 mi_h121 [.int 1] mi_G (some (.int 1)) mi_G := mi_fun_ok mi_N0 2 121 (mi_h121, mi_c121) _ _ _ _ rfl (mi_eR_ok (by decide +kernel))
      refine mi_sem_call mi_in128 (i := (.invokestatic 70, 3, 121, 0, 9, 0, 157)) (by rfl) (by rfl) hM1676 (by decide) ⟨Nat.le_of_ble_eq_true rfl, Nat.le_of_ble_eq_true rfl⟩ ?_
      refine mi_sem_steps mi_in128 (mi_calok_none _ _) 10 _ (25, [(3, .ref 106), (0, .ref 0), (1, .int 1), (2, .int a2)], [.int (-11)], (0, 0), mi_G) (by rfl) ?_
      exact mi_sem_ret (cal := fun _ _ _ => none) mi_in128 (by rfl)
    refine mi_sem_call mi_in116 (i := (.invokevirtual 312, 3, 128, 0, 9, 0, 311)) (by rfl) (by rfl) hM1677 (by decide) ⟨Nat.le_of_ble_eq_true rfl, Nat.le_of_ble_eq_true rfl⟩ ?_
    refine mi_sem_steps mi_in116 (mi_calok_none _ _) 3 _ (26, [(0, .ref 0), (1, .int 1), (2, .int a2)], [.long (-9223372036854775808)], (0, 0), mi_G) (by rfl) ?_
    exact mi_sem_ret (cal := fun _ _ _ => none) mi_in116 (by rfl)
  · refine mi_met_of (y := 222) (q := (mi_h222, mi_c222)) rfl (by decide) (Nat.le_of_ble_eq_true rfl) ?_
    refine mi_sem_steps mi_in222 (mi_calok_none _ _) 1 _ (1, [(0, .ref 116), (1, .int 1), (2, .int a2)], [.int 1], (0, 0), mi_G) (by rfl) ?_
    have hM1678 : mi_Met mi_N0 2 mi_h133 [.int 1] mi_G (some (.int 1)) mi_G := mi_fun_ok mi_N0 2 133 (mi_h133, mi_c133) _ _ _ _ rfl (mi_eR_ok (by decide +kernel))
    refine mi_sem_call mi_in222 (i := (.invokestatic 127, 3, 133, 0, 9, 0, 382)) (by rfl) (by rfl) hM1678 (by decide) ⟨Nat.le_of_ble_eq_true rfl, Nat.le_of_ble_eq_true rfl⟩ ?_
    refine mi_sem_steps mi_in222 (mi_calok_none _ _) 3 _ (9, [(0, .ref 116), (1, .int 1), (2, .int a2)], [.int 1, .ref 116], (0, 0), mi_G) (by rfl) ?_
    have hM1679 : mi_Met mi_N0 2 mi_h219 [.ref 116, .int 1] mi_G (some (.int 0)) mi_G := mi_fun_ok mi_N0 2 219 (mi_h219, mi_c219) _ _ _ _ rfl (mi_eR_ok (by decide +kernel))
    refine mi_sem_call mi_in222 (i := (.invokevirtual 372, 3, 219, 0, 9, 0, 473)) (by rfl) (by rfl) hM1679 (by decide) ⟨Nat.le_of_ble_eq_true rfl, Nat.le_of_ble_eq_true rfl⟩ ?_
    refine mi_sem_steps mi_in222 (mi_calok_none _ _) 2 _ (48, [(0, .ref 116), (1, .int 1), (2, .int a2)], [.long (-9223372036854775808)], (0, 0), mi_G) (by rfl) ?_
    exact mi_sem_ret (cal := fun _ _ _ => none) mi_in222 (by rfl)

set_option maxRecDepth 100000 in
set_option maxHeartbeats 4000000 in
theorem mp_element_3 (a2 : Int32)  : mi_P 116 222 [.int 2, .int a2] := by
  refine ⟨.long (-9223372036854775808), mi_G, mi_G, (mi_h116, mi_c116), (mi_h222, mi_c222), 4, 3, rfl, rfl, rfl, by decide, by decide, ?_, ?_⟩
  · refine mi_met_of (y := 116) (q := (mi_h116, mi_c116)) rfl (by decide) (Nat.le_of_ble_eq_true rfl) ?_
    refine mi_sem_steps mi_in116 (mi_calok_none _ _) 3 _ (3, [(0, .ref 0), (1, .int 2), (2, .int a2)], [.int a2, .int 2, .ref 0], (0, 0), mi_G) (by rfl) ?_
    have hM1683 : mi_Met mi_N0 3 mi_h128 [.ref 0, .int 2, .int a2] mi_G (some (.int (-11))) mi_G := by
      refine mi_met_of (y := 128) (q := (mi_h128, mi_c128)) rfl (by decide) (Nat.le_of_ble_eq_true rfl) ?_
      refine mi_sem_steps mi_in128 (mi_calok_none _ _) 1 _ (1, [(0, .ref 0), (1, .int 2), (2, .int a2)], [.int 2], (0, 0), mi_G) (by rfl) ?_
      have hM1682 : mi_Met mi_N0 2 mi_h121 [.int 2] mi_G (some (.int 1)) mi_G := mi_fun_ok mi_N0 2 121 (mi_h121, mi_c121) _ _ _ _ rfl (mi_eR_ok (by decide +kernel))
      refine mi_sem_call mi_in128 (i := (.invokestatic 70, 3, 121, 0, 9, 0, 157)) (by rfl) (by rfl) hM1682 (by decide) ⟨Nat.le_of_ble_eq_true rfl, Nat.le_of_ble_eq_true rfl⟩ ?_
      refine mi_sem_steps mi_in128 (mi_calok_none _ _) 10 _ (25, [(3, .ref 108), (0, .ref 0), (1, .int 2), (2, .int a2)], [.int (-11)], (0, 0), mi_G) (by rfl) ?_
      exact mi_sem_ret (cal := fun _ _ _ => none) mi_in128 (by rfl)
    refine mi_sem_call mi_in116 (i := (.invokevirtual 312, 3, 128, 0, 9, 0, 311)) (by rfl) (by rfl) hM1683 (by decide) ⟨Nat.le_of_ble_eq_true rfl, Nat.le_of_ble_eq_true rfl⟩ ?_
    refine mi_sem_steps mi_in116 (mi_calok_none _ _) 3 _ (26, [(0, .ref 0), (1, .int 2), (2, .int a2)], [.long (-9223372036854775808)], (0, 0), mi_G) (by rfl) ?_
    exact mi_sem_ret (cal := fun _ _ _ => none) mi_in116 (by rfl)
  · refine mi_met_of (y := 222) (q := (mi_h222, mi_c222)) rfl (by decide) (Nat.le_of_ble_eq_true rfl) ?_
    refine mi_sem_steps mi_in222 (mi_calok_none _ _) 1 _ (1, [(0, .ref 116), (1, .int 2), (2, .int a2)], [.int 2], (0, 0), mi_G) (by rfl) ?_
    have hM1684 : mi_Met mi_N0 2 mi_h133 [.int 2] mi_G (some (.int 1)) mi_G := mi_fun_ok mi_N0 2 133 (mi_h133, mi_c133) _ _ _ _ rfl (mi_eR_ok (by decide +kernel))
    refine mi_sem_call mi_in222 (i := (.invokestatic 127, 3, 133, 0, 9, 0, 382)) (by rfl) (by rfl) hM1684 (by decide) ⟨Nat.le_of_ble_eq_true rfl, Nat.le_of_ble_eq_true rfl⟩ ?_
    refine mi_sem_steps mi_in222 (mi_calok_none _ _) 3 _ (9, [(0, .ref 116), (1, .int 2), (2, .int a2)], [.int 2, .ref 116], (0, 0), mi_G) (by rfl) ?_
    have hM1685 : mi_Met mi_N0 2 mi_h219 [.ref 116, .int 2] mi_G (some (.int 0)) mi_G := mi_fun_ok mi_N0 2 219 (mi_h219, mi_c219) _ _ _ _ rfl (mi_eR_ok (by decide +kernel))
    refine mi_sem_call mi_in222 (i := (.invokevirtual 372, 3, 219, 0, 9, 0, 473)) (by rfl) (by rfl) hM1685 (by decide) ⟨Nat.le_of_ble_eq_true rfl, Nat.le_of_ble_eq_true rfl⟩ ?_
    refine mi_sem_steps mi_in222 (mi_calok_none _ _) 2 _ (48, [(0, .ref 116), (1, .int 2), (2, .int a2)], [.long (-9223372036854775808)], (0, 0), mi_G) (by rfl) ?_
    exact mi_sem_ret (cal := fun _ _ _ => none) mi_in222 (by rfl)

set_option maxRecDepth 100000 in
set_option maxHeartbeats 4000000 in
theorem mp_element_4 (a2 : Int32)  : mi_P 116 222 [.int 3, .int a2] := by
  refine ⟨.long (-9223372036854775808), mi_G, mi_G, (mi_h116, mi_c116), (mi_h222, mi_c222), 4, 3, rfl, rfl, rfl, by decide, by decide, ?_, ?_⟩
  · refine mi_met_of (y := 116) (q := (mi_h116, mi_c116)) rfl (by decide) (Nat.le_of_ble_eq_true rfl) ?_
    refine mi_sem_steps mi_in116 (mi_calok_none _ _) 3 _ (3, [(0, .ref 0), (1, .int 3), (2, .int a2)], [.int a2, .int 3, .ref 0], (0, 0), mi_G) (by rfl) ?_
    have hM1689 : mi_Met mi_N0 3 mi_h128 [.ref 0, .int 3, .int a2] mi_G (some (.int (-11))) mi_G := by
      refine mi_met_of (y := 128) (q := (mi_h128, mi_c128)) rfl (by decide) (Nat.le_of_ble_eq_true rfl) ?_
      refine mi_sem_steps mi_in128 (mi_calok_none _ _) 1 _ (1, [(0, .ref 0), (1, .int 3), (2, .int a2)], [.int 3], (0, 0), mi_G) (by rfl) ?_
      have hM1688 : mi_Met mi_N0 2 mi_h121 [.int 3] mi_G (some (.int 1)) mi_G := mi_fun_ok mi_N0 2 121 (mi_h121, mi_c121) _ _ _ _ rfl (mi_eR_ok (by decide +kernel))
      refine mi_sem_call mi_in128 (i := (.invokestatic 70, 3, 121, 0, 9, 0, 157)) (by rfl) (by rfl) hM1688 (by decide) ⟨Nat.le_of_ble_eq_true rfl, Nat.le_of_ble_eq_true rfl⟩ ?_
      refine mi_sem_steps mi_in128 (mi_calok_none _ _) 10 _ (25, [(3, .ref 110), (0, .ref 0), (1, .int 3), (2, .int a2)], [.int (-11)], (0, 0), mi_G) (by rfl) ?_
      exact mi_sem_ret (cal := fun _ _ _ => none) mi_in128 (by rfl)
    refine mi_sem_call mi_in116 (i := (.invokevirtual 312, 3, 128, 0, 9, 0, 311)) (by rfl) (by rfl) hM1689 (by decide) ⟨Nat.le_of_ble_eq_true rfl, Nat.le_of_ble_eq_true rfl⟩ ?_
    refine mi_sem_steps mi_in116 (mi_calok_none _ _) 3 _ (26, [(0, .ref 0), (1, .int 3), (2, .int a2)], [.long (-9223372036854775808)], (0, 0), mi_G) (by rfl) ?_
    exact mi_sem_ret (cal := fun _ _ _ => none) mi_in116 (by rfl)
  · refine mi_met_of (y := 222) (q := (mi_h222, mi_c222)) rfl (by decide) (Nat.le_of_ble_eq_true rfl) ?_
    refine mi_sem_steps mi_in222 (mi_calok_none _ _) 1 _ (1, [(0, .ref 116), (1, .int 3), (2, .int a2)], [.int 3], (0, 0), mi_G) (by rfl) ?_
    have hM1690 : mi_Met mi_N0 2 mi_h133 [.int 3] mi_G (some (.int 1)) mi_G := mi_fun_ok mi_N0 2 133 (mi_h133, mi_c133) _ _ _ _ rfl (mi_eR_ok (by decide +kernel))
    refine mi_sem_call mi_in222 (i := (.invokestatic 127, 3, 133, 0, 9, 0, 382)) (by rfl) (by rfl) hM1690 (by decide) ⟨Nat.le_of_ble_eq_true rfl, Nat.le_of_ble_eq_true rfl⟩ ?_
    refine mi_sem_steps mi_in222 (mi_calok_none _ _) 3 _ (9, [(0, .ref 116), (1, .int 3), (2, .int a2)], [.int 3, .ref 116], (0, 0), mi_G) (by rfl) ?_
    have hM1691 : mi_Met mi_N0 2 mi_h219 [.ref 116, .int 3] mi_G (some (.int 0)) mi_G := mi_fun_ok mi_N0 2 219 (mi_h219, mi_c219) _ _ _ _ rfl (mi_eR_ok (by decide +kernel))
    refine mi_sem_call mi_in222 (i := (.invokevirtual 372, 3, 219, 0, 9, 0, 473)) (by rfl) (by rfl) hM1691 (by decide) ⟨Nat.le_of_ble_eq_true rfl, Nat.le_of_ble_eq_true rfl⟩ ?_
    refine mi_sem_steps mi_in222 (mi_calok_none _ _) 2 _ (48, [(0, .ref 116), (1, .int 3), (2, .int a2)], [.long (-9223372036854775808)], (0, 0), mi_G) (by rfl) ?_
    exact mi_sem_ret (cal := fun _ _ _ => none) mi_in222 (by rfl)

set_option maxRecDepth 100000 in
set_option maxHeartbeats 4000000 in
theorem mp_element_5 (a2 : Int32)  : mi_P 116 222 [.int 4, .int a2] := by
  refine ⟨.long (-9223372036854775808), mi_G, mi_G, (mi_h116, mi_c116), (mi_h222, mi_c222), 4, 3, rfl, rfl, rfl, by decide, by decide, ?_, ?_⟩
  · refine mi_met_of (y := 116) (q := (mi_h116, mi_c116)) rfl (by decide) (Nat.le_of_ble_eq_true rfl) ?_
    refine mi_sem_steps mi_in116 (mi_calok_none _ _) 3 _ (3, [(0, .ref 0), (1, .int 4), (2, .int a2)], [.int a2, .int 4, .ref 0], (0, 0), mi_G) (by rfl) ?_
    have hM1695 : mi_Met mi_N0 3 mi_h128 [.ref 0, .int 4, .int a2] mi_G (some (.int (-11))) mi_G := by
      refine mi_met_of (y := 128) (q := (mi_h128, mi_c128)) rfl (by decide) (Nat.le_of_ble_eq_true rfl) ?_
      refine mi_sem_steps mi_in128 (mi_calok_none _ _) 1 _ (1, [(0, .ref 0), (1, .int 4), (2, .int a2)], [.int 4], (0, 0), mi_G) (by rfl) ?_
      have hM1694 : mi_Met mi_N0 2 mi_h121 [.int 4] mi_G (some (.int 1)) mi_G := mi_fun_ok mi_N0 2 121 (mi_h121, mi_c121) _ _ _ _ rfl (mi_eR_ok (by decide +kernel))
      refine mi_sem_call mi_in128 (i := (.invokestatic 70, 3, 121, 0, 9, 0, 157)) (by rfl) (by rfl) hM1694 (by decide) ⟨Nat.le_of_ble_eq_true rfl, Nat.le_of_ble_eq_true rfl⟩ ?_
      refine mi_sem_steps mi_in128 (mi_calok_none _ _) 10 _ (25, [(3, .ref 112), (0, .ref 0), (1, .int 4), (2, .int a2)], [.int (-11)], (0, 0), mi_G) (by rfl) ?_
      exact mi_sem_ret (cal := fun _ _ _ => none) mi_in128 (by rfl)
    refine mi_sem_call mi_in116 (i := (.invokevirtual 312, 3, 128, 0, 9, 0, 311)) (by rfl) (by rfl) hM1695 (by decide) ⟨Nat.le_of_ble_eq_true rfl, Nat.le_of_ble_eq_true rfl⟩ ?_
    refine mi_sem_steps mi_in116 (mi_calok_none _ _) 3 _ (26, [(0, .ref 0), (1, .int 4), (2, .int a2)], [.long (-9223372036854775808)], (0, 0), mi_G) (by rfl) ?_
    exact mi_sem_ret (cal := fun _ _ _ => none) mi_in116 (by rfl)
  · refine mi_met_of (y := 222) (q := (mi_h222, mi_c222)) rfl (by decide) (Nat.le_of_ble_eq_true rfl) ?_
    refine mi_sem_steps mi_in222 (mi_calok_none _ _) 1 _ (1, [(0, .ref 116), (1, .int 4), (2, .int a2)], [.int 4], (0, 0), mi_G) (by rfl) ?_
    have hM1696 : mi_Met mi_N0 2 mi_h133 [.int 4] mi_G (some (.int 1)) mi_G := mi_fun_ok mi_N0 2 133 (mi_h133, mi_c133) _ _ _ _ rfl (mi_eR_ok (by decide +kernel))
    refine mi_sem_call mi_in222 (i := (.invokestatic 127, 3, 133, 0, 9, 0, 382)) (by rfl) (by rfl) hM1696 (by decide) ⟨Nat.le_of_ble_eq_true rfl, Nat.le_of_ble_eq_true rfl⟩ ?_
    refine mi_sem_steps mi_in222 (mi_calok_none _ _) 3 _ (9, [(0, .ref 116), (1, .int 4), (2, .int a2)], [.int 4, .ref 116], (0, 0), mi_G) (by rfl) ?_
    have hM1697 : mi_Met mi_N0 2 mi_h219 [.ref 116, .int 4] mi_G (some (.int 0)) mi_G := mi_fun_ok mi_N0 2 219 (mi_h219, mi_c219) _ _ _ _ rfl (mi_eR_ok (by decide +kernel))
    refine mi_sem_call mi_in222 (i := (.invokevirtual 372, 3, 219, 0, 9, 0, 473)) (by rfl) (by rfl) hM1697 (by decide) ⟨Nat.le_of_ble_eq_true rfl, Nat.le_of_ble_eq_true rfl⟩ ?_
    refine mi_sem_steps mi_in222 (mi_calok_none _ _) 2 _ (48, [(0, .ref 116), (1, .int 4), (2, .int a2)], [.long (-9223372036854775808)], (0, 0), mi_G) (by rfl) ?_
    exact mi_sem_ret (cal := fun _ _ _ => none) mi_in222 (by rfl)

set_option maxRecDepth 100000 in
set_option maxHeartbeats 4000000 in
theorem mp_element_6 (a2 : Int32)  : mi_P 116 222 [.int 5, .int a2] := by
  refine ⟨.long (-9223372036854775808), mi_G, mi_G, (mi_h116, mi_c116), (mi_h222, mi_c222), 4, 3, rfl, rfl, rfl, by decide, by decide, ?_, ?_⟩
  · refine mi_met_of (y := 116) (q := (mi_h116, mi_c116)) rfl (by decide) (Nat.le_of_ble_eq_true rfl) ?_
    refine mi_sem_steps mi_in116 (mi_calok_none _ _) 3 _ (3, [(0, .ref 0), (1, .int 5), (2, .int a2)], [.int a2, .int 5, .ref 0], (0, 0), mi_G) (by rfl) ?_
    have hM1699 : mi_Met mi_N0 3 mi_h128 [.ref 0, .int 5, .int a2] mi_G (some (.int (-11))) mi_G := by
      refine mi_met_of (y := 128) (q := (mi_h128, mi_c128)) rfl (by decide) (Nat.le_of_ble_eq_true rfl) ?_
      refine mi_sem_steps mi_in128 (mi_calok_none _ _) 1 _ (1, [(0, .ref 0), (1, .int 5), (2, .int a2)], [.int 5], (0, 0), mi_G) (by rfl) ?_
      have hM1698 : mi_Met mi_N0 2 mi_h121 [.int 5] mi_G (some (.int 1)) mi_G := mi_fun_ok mi_N0 2 121 (mi_h121, mi_c121) _ _ _ _ rfl (mi_eR_ok (by decide +kernel))
      refine mi_sem_call mi_in128 (i := (.invokestatic 70, 3, 121, 0, 9, 0, 157)) (by rfl) (by rfl) hM1698 (by decide) ⟨Nat.le_of_ble_eq_true rfl, Nat.le_of_ble_eq_true rfl⟩ ?_
      refine mi_sem_steps mi_in128 (mi_calok_none _ _) 10 _ (25, [(3, .ref 114), (0, .ref 0), (1, .int 5), (2, .int a2)], [.int (-11)], (0, 0), mi_G) (by rfl) ?_
      exact mi_sem_ret (cal := fun _ _ _ => none) mi_in128 (by rfl)
    refine mi_sem_call mi_in116 (i := (.invokevirtual 312, 3, 128, 0, 9, 0, 311)) (by rfl) (by rfl) hM1699 (by decide) ⟨Nat.le_of_ble_eq_true rfl, Nat.le_of_ble_eq_true rfl⟩ ?_
    refine mi_sem_steps mi_in116 (mi_calok_none _ _) 3 _ (26, [(0, .ref 0), (1, .int 5), (2, .int a2)], [.long (-9223372036854775808)], (0, 0), mi_G) (by rfl) ?_
    exact mi_sem_ret (cal := fun _ _ _ => none) mi_in116 (by rfl)
  · refine mi_met_of (y := 222) (q := (mi_h222, mi_c222)) rfl (by decide) (Nat.le_of_ble_eq_true rfl) ?_
    refine mi_sem_steps mi_in222 (mi_calok_none _ _) 1 _ (1, [(0, .ref 116), (1, .int 5), (2, .int a2)], [.int 5], (0, 0), mi_G) (by rfl) ?_
    have hM1700 : mi_Met mi_N0 2 mi_h133 [.int 5] mi_G (some (.int 1)) mi_G := mi_fun_ok mi_N0 2 133 (mi_h133, mi_c133) _ _ _ _ rfl (mi_eR_ok (by decide +kernel))
    refine mi_sem_call mi_in222 (i := (.invokestatic 127, 3, 133, 0, 9, 0, 382)) (by rfl) (by rfl) hM1700 (by decide) ⟨Nat.le_of_ble_eq_true rfl, Nat.le_of_ble_eq_true rfl⟩ ?_
    refine mi_sem_steps mi_in222 (mi_calok_none _ _) 3 _ (9, [(0, .ref 116), (1, .int 5), (2, .int a2)], [.int 5, .ref 116], (0, 0), mi_G) (by rfl) ?_
    have hM1701 : mi_Met mi_N0 2 mi_h219 [.ref 116, .int 5] mi_G (some (.int 0)) mi_G := mi_fun_ok mi_N0 2 219 (mi_h219, mi_c219) _ _ _ _ rfl (mi_eR_ok (by decide +kernel))
    refine mi_sem_call mi_in222 (i := (.invokevirtual 372, 3, 219, 0, 9, 0, 473)) (by rfl) (by rfl) hM1701 (by decide) ⟨Nat.le_of_ble_eq_true rfl, Nat.le_of_ble_eq_true rfl⟩ ?_
    refine mi_sem_steps mi_in222 (mi_calok_none _ _) 2 _ (48, [(0, .ref 116), (1, .int 5), (2, .int a2)], [.long (-9223372036854775808)], (0, 0), mi_G) (by rfl) ?_
    exact mi_sem_ret (cal := fun _ _ _ => none) mi_in222 (by rfl)

set_option maxRecDepth 100000 in
set_option maxHeartbeats 4000000 in
theorem mp_element_7 (a1 : Int32) (a2 : Int32) (r0 : 6 ≤ (a1).toInt ∧ (a1).toInt ≤ 2147483647) : mi_P 116 222 [.int a1, .int a2] := by
  refine ⟨.long (-9223372036854775808), mi_G, mi_G, (mi_h116, mi_c116), (mi_h222, mi_c222), 4, 3, rfl, rfl, rfl, by decide, by decide, ?_, ?_⟩
  · refine mi_met_of (y := 116) (q := (mi_h116, mi_c116)) rfl (by decide) (Nat.le_of_ble_eq_true rfl) ?_
    refine mi_sem_steps mi_in116 (mi_calok_none _ _) 3 _ (3, [(0, .ref 0), (1, .int a1), (2, .int a2)], [.int a2, .int a1, .ref 0], (0, 0), mi_G) (by rfl) ?_
    have hM1704 : mi_Met mi_N0 3 mi_h128 [.ref 0, .int a1, .int a2] mi_G (some (.int (-1))) mi_G := by
      refine mi_met_of (y := 128) (q := (mi_h128, mi_c128)) rfl (by decide) (Nat.le_of_ble_eq_true rfl) ?_
      refine mi_sem_steps mi_in128 (mi_calok_none _ _) 1 _ (1, [(0, .ref 0), (1, .int a1), (2, .int a2)], [.int a1], (0, 0), mi_G) (by rfl) ?_
      have hM1703 : mi_Met mi_N0 2 mi_h121 [.int a1] mi_G (some (.int 0)) mi_G := by
        refine mi_met_of (y := 121) (q := (mi_h121, mi_c121)) rfl (by decide) (Nat.le_of_ble_eq_true rfl) ?_
        refine mi_sem_steps mi_in121 (mi_calok_none _ _) 3 _ (3, [(0, .int a1)], [.int 5, .int 0, .int a1], (0, 0), mi_G) (by rfl) ?_
        have hM1702 : mi_Met mi_N0 1 mi_h120 [.int a1, .int 0, .int 5] mi_G (some (.int 0)) mi_G := by
          refine mi_met_of (y := 120) (q := (mi_h120, mi_c120)) rfl (by decide) (Nat.le_of_ble_eq_true rfl) ?_
          refine mi_sem_steps mi_in120 (mi_calok_none _ _) 2 _ (2, [(0, .int a1), (1, .int 0), (2, .int 5)], [.int 0, .int a1], (0, 0), mi_G) (by rfl) ?_
          refine mi_sem_b mi_in120 (decide (a1 < 0)) false (mi_ltF (0) (by decide) (by omega)) 14 5 ([(0, .int a1), (1, .int 0), (2, .int 5)], [], (0, 0), mi_G) (by rfl) ?_
          refine mi_sem_steps mi_in120 (mi_calok_none _ _) 2 _ (7, [(0, .int a1), (1, .int 0), (2, .int 5)], [.int 5, .int a1], (0, 0), mi_G) (by rfl) ?_
          refine mi_sem_b mi_in120 (decide (5 < a1)) true (mi_ltT2 (5) (by decide) (by omega)) 14 10 ([(0, .int a1), (1, .int 0), (2, .int 5)], [], (0, 0), mi_G) (by rfl) ?_
          refine mi_sem_steps mi_in120 (mi_calok_none _ _) 1 _ (15, [(0, .int a1), (1, .int 0), (2, .int 5)], [.int 0], (0, 0), mi_G) (by rfl) ?_
          exact mi_sem_ret (cal := fun _ _ _ => none) mi_in120 (by rfl)
        refine mi_sem_call mi_in121 (i := (.invokestatic 74, 3, 120, 0, 9, 0, 152)) (by rfl) (by rfl) hM1702 (by decide) ⟨Nat.le_of_ble_eq_true rfl, Nat.le_of_ble_eq_true rfl⟩ ?_
        exact mi_sem_ret (cal := fun _ _ _ => none) mi_in121 (by rfl)
      refine mi_sem_call mi_in128 (i := (.invokestatic 70, 3, 121, 0, 9, 0, 157)) (by rfl) (by rfl) hM1703 (by decide) ⟨Nat.le_of_ble_eq_true rfl, Nat.le_of_ble_eq_true rfl⟩ ?_
      refine mi_sem_steps mi_in128 (mi_calok_none _ _) 2 _ (8, [(0, .ref 0), (1, .int a1), (2, .int a2)], [.int (-1)], (0, 0), mi_G) (by rfl) ?_
      exact mi_sem_ret (cal := fun _ _ _ => none) mi_in128 (by rfl)
    refine mi_sem_call mi_in116 (i := (.invokevirtual 312, 3, 128, 0, 9, 0, 311)) (by rfl) (by rfl) hM1704 (by decide) ⟨Nat.le_of_ble_eq_true rfl, Nat.le_of_ble_eq_true rfl⟩ ?_
    refine mi_sem_steps mi_in116 (mi_calok_none _ _) 3 _ (26, [(0, .ref 0), (1, .int a1), (2, .int a2)], [.long (-9223372036854775808)], (0, 0), mi_G) (by rfl) ?_
    exact mi_sem_ret (cal := fun _ _ _ => none) mi_in116 (by rfl)
  · refine mi_met_of (y := 222) (q := (mi_h222, mi_c222)) rfl (by decide) (Nat.le_of_ble_eq_true rfl) ?_
    refine mi_sem_steps mi_in222 (mi_calok_none _ _) 1 _ (1, [(0, .ref 116), (1, .int a1), (2, .int a2)], [.int a1], (0, 0), mi_G) (by rfl) ?_
    have hM1706 : mi_Met mi_N0 2 mi_h133 [.int a1] mi_G (some (.int 0)) mi_G := by
      refine mi_met_of (y := 133) (q := (mi_h133, mi_c133)) rfl (by decide) (Nat.le_of_ble_eq_true rfl) ?_
      refine mi_sem_steps mi_in133 (mi_calok_none _ _) 3 _ (3, [(0, .int a1)], [.int 5, .int 0, .int a1], (0, 0), mi_G) (by rfl) ?_
      have hM1705 : mi_Met mi_N0 1 mi_h131 [.int a1, .int 0, .int 5] mi_G (some (.int 0)) mi_G := by
        refine mi_met_of (y := 131) (q := (mi_h131, mi_c131)) rfl (by decide) (Nat.le_of_ble_eq_true rfl) ?_
        refine mi_sem_steps mi_in131 (mi_calok_none _ _) 2 _ (2, [(0, .int a1), (1, .int 0), (2, .int 5)], [.int 0, .int a1], (0, 0), mi_G) (by rfl) ?_
        refine mi_sem_b mi_in131 (decide (a1 < 0)) false (mi_ltF (0) (by decide) (by omega)) 14 5 ([(0, .int a1), (1, .int 0), (2, .int 5)], [], (0, 0), mi_G) (by rfl) ?_
        refine mi_sem_steps mi_in131 (mi_calok_none _ _) 2 _ (7, [(0, .int a1), (1, .int 0), (2, .int 5)], [.int 5, .int a1], (0, 0), mi_G) (by rfl) ?_
        refine mi_sem_b mi_in131 (decide (5 < a1)) true (mi_ltT2 (5) (by decide) (by omega)) 14 10 ([(0, .int a1), (1, .int 0), (2, .int 5)], [], (0, 0), mi_G) (by rfl) ?_
        refine mi_sem_steps mi_in131 (mi_calok_none _ _) 1 _ (15, [(0, .int a1), (1, .int 0), (2, .int 5)], [.int 0], (0, 0), mi_G) (by rfl) ?_
        exact mi_sem_ret (cal := fun _ _ _ => none) mi_in131 (by rfl)
      refine mi_sem_call mi_in133 (i := (.invokestatic 119, 3, 131, 0, 9, 0, 379)) (by rfl) (by rfl) hM1705 (by decide) ⟨Nat.le_of_ble_eq_true rfl, Nat.le_of_ble_eq_true rfl⟩ ?_
      exact mi_sem_ret (cal := fun _ _ _ => none) mi_in133 (by rfl)
    refine mi_sem_call mi_in222 (i := (.invokestatic 127, 3, 133, 0, 9, 0, 382)) (by rfl) (by rfl) hM1706 (by decide) ⟨Nat.le_of_ble_eq_true rfl, Nat.le_of_ble_eq_true rfl⟩ ?_
    refine mi_sem_steps mi_in222 (mi_calok_none _ _) 2 _ (48, [(0, .ref 116), (1, .int a1), (2, .int a2)], [.long (-9223372036854775808)], (0, 0), mi_G) (by rfl) ?_
    exact mi_sem_ret (cal := fun _ _ _ => none) mi_in222 (by rfl)

set_option maxRecDepth 100000 in
set_option maxHeartbeats 4000000 in
theorem mp_element (a1 : Int32) (a2 : Int32) : mi_P 116 222 [.int a1, .int a2] := by
  have b0 := Int32.toInt_lt (a1)
  have c0 := Int32.le_toInt (a1)
  rcases Int.lt_or_le (a1).toInt 0 with _hh | _hh
  ·
    exact mp_element_0 a1 a2 ⟨by omega, by omega⟩
  ·
    rcases Int.lt_or_le (a1).toInt 6 with _hh | _hh
    ·
      rcases Int.lt_or_le (a1).toInt 1 with _hh | _hh
      ·
        have e_a1 : a1 = 0 := Int32.toInt_inj.mp ((by omega : (a1).toInt = 0).trans (by decide))
        subst e_a1
        exact mp_element_1 a2 
      ·
        rcases Int.lt_or_le (a1).toInt 2 with _hh | _hh
        ·
          have e_a1 : a1 = 1 := Int32.toInt_inj.mp ((by omega : (a1).toInt = 1).trans (by decide))
          subst e_a1
          exact mp_element_2 a2 
        ·
          rcases Int.lt_or_le (a1).toInt 3 with _hh | _hh
          ·
            have e_a1 : a1 = 2 := Int32.toInt_inj.mp ((by omega : (a1).toInt = 2).trans (by decide))
            subst e_a1
            exact mp_element_3 a2 
          ·
            rcases Int.lt_or_le (a1).toInt 4 with _hh | _hh
            ·
              have e_a1 : a1 = 3 := Int32.toInt_inj.mp ((by omega : (a1).toInt = 3).trans (by decide))
              subst e_a1
              exact mp_element_4 a2 
            ·
              rcases Int.lt_or_le (a1).toInt 5 with _hh | _hh
              ·
                have e_a1 : a1 = 4 := Int32.toInt_inj.mp ((by omega : (a1).toInt = 4).trans (by decide))
                subst e_a1
                exact mp_element_5 a2 
              ·
                have e_a1 : a1 = 5 := Int32.toInt_inj.mp ((by omega : (a1).toInt = 5).trans (by decide))
                subst e_a1
                exact mp_element_6 a2 
    ·
      exact mp_element_7 a1 a2 ⟨by omega, by omega⟩

set_option maxRecDepth 100000 in
set_option maxHeartbeats 4000000 in
theorem mp_shift_0 (a1 : Int32) (a2 : Int32) (a3 : Int32) (a4 : Int32) (a5 : Int32) (r0 : (-2147483648) ≤ (a1).toInt ∧ (a1).toInt ≤ (-1)) : mi_P 117 223 [.int a1, .int a2, .int a3, .int a4, .int a5] := by
  refine ⟨.int (-1), mi_G, mi_G, (mi_h117, mi_c117), (mi_h223, mi_c223), 3, 3, rfl, rfl, rfl, by decide, by decide, ?_, ?_⟩
  · refine mi_met_of (y := 117) (q := (mi_h117, mi_c117)) rfl (by decide) (Nat.le_of_ble_eq_true rfl) ?_
    refine mi_sem_steps mi_in117 (mi_calok_none _ _) 1 _ (1, [(0, .ref 0), (1, .int a1), (2, .int a2), (3, .int a3), (4, .int a4), (5, .int a5)], [.int a1], (0, 0), mi_G) (by rfl) ?_
    have hM1708 : mi_Met mi_N0 2 mi_h121 [.int a1] mi_G (some (.int 0)) mi_G := by
      refine mi_met_of (y := 121) (q := (mi_h121, mi_c121)) rfl (by decide) (Nat.le_of_ble_eq_true rfl) ?_
      refine mi_sem_steps mi_in121 (mi_calok_none _ _) 3 _ (3, [(0, .int a1)], [.int 5, .int 0, .int a1], (0, 0), mi_G) (by rfl) ?_
      have hM1707 : mi_Met mi_N0 1 mi_h120 [.int a1, .int 0, .int 5] mi_G (some (.int 0)) mi_G := by
        refine mi_met_of (y := 120) (q := (mi_h120, mi_c120)) rfl (by decide) (Nat.le_of_ble_eq_true rfl) ?_
        refine mi_sem_steps mi_in120 (mi_calok_none _ _) 2 _ (2, [(0, .int a1), (1, .int 0), (2, .int 5)], [.int 0, .int a1], (0, 0), mi_G) (by rfl) ?_
        refine mi_sem_b mi_in120 (decide (a1 < 0)) true (mi_ltT (0) (by decide) (by omega)) 14 5 ([(0, .int a1), (1, .int 0), (2, .int 5)], [], (0, 0), mi_G) (by rfl) ?_
        refine mi_sem_steps mi_in120 (mi_calok_none _ _) 1 _ (15, [(0, .int a1), (1, .int 0), (2, .int 5)], [.int 0], (0, 0), mi_G) (by rfl) ?_
        exact mi_sem_ret (cal := fun _ _ _ => none) mi_in120 (by rfl)
      refine mi_sem_call mi_in121 (i := (.invokestatic 74, 3, 120, 0, 9, 0, 152)) (by rfl) (by rfl) hM1707 (by decide) ⟨Nat.le_of_ble_eq_true rfl, Nat.le_of_ble_eq_true rfl⟩ ?_
      exact mi_sem_ret (cal := fun _ _ _ => none) mi_in121 (by rfl)
    refine mi_sem_call mi_in117 (i := (.invokestatic 70, 3, 121, 0, 9, 0, 157)) (by rfl) (by rfl) hM1708 (by decide) ⟨Nat.le_of_ble_eq_true rfl, Nat.le_of_ble_eq_true rfl⟩ ?_
    refine mi_sem_steps mi_in117 (mi_calok_none _ _) 2 _ (15, [(0, .ref 0), (1, .int a1), (2, .int a2), (3, .int a3), (4, .int a4), (5, .int a5)], [.int (-1)], (0, 0), mi_G) (by rfl) ?_
    exact mi_sem_ret (cal := fun _ _ _ => none) mi_in117 (by rfl)
  · refine mi_met_of (y := 223) (q := (mi_h223, mi_c223)) rfl (by decide) (Nat.le_of_ble_eq_true rfl) ?_
    refine mi_sem_steps mi_in223 (mi_calok_none _ _) 1 _ (1, [(0, .ref 116), (1, .int a1), (2, .int a2), (3, .int a3), (4, .int a4), (5, .int a5)], [.int a1], (0, 0), mi_G) (by rfl) ?_
    have hM1710 : mi_Met mi_N0 2 mi_h133 [.int a1] mi_G (some (.int 0)) mi_G := by
      refine mi_met_of (y := 133) (q := (mi_h133, mi_c133)) rfl (by decide) (Nat.le_of_ble_eq_true rfl) ?_
      refine mi_sem_steps mi_in133 (mi_calok_none _ _) 3 _ (3, [(0, .int a1)], [.int 5, .int 0, .int a1], (0, 0), mi_G) (by rfl) ?_
      have hM1709 : mi_Met mi_N0 1 mi_h131 [.int a1, .int 0, .int 5] mi_G (some (.int 0)) mi_G := by
        refine mi_met_of (y := 131) (q := (mi_h131, mi_c131)) rfl (by decide) (Nat.le_of_ble_eq_true rfl) ?_
        refine mi_sem_steps mi_in131 (mi_calok_none _ _) 2 _ (2, [(0, .int a1), (1, .int 0), (2, .int 5)], [.int 0, .int a1], (0, 0), mi_G) (by rfl) ?_
        refine mi_sem_b mi_in131 (decide (a1 < 0)) true (mi_ltT (0) (by decide) (by omega)) 14 5 ([(0, .int a1), (1, .int 0), (2, .int 5)], [], (0, 0), mi_G) (by rfl) ?_
        refine mi_sem_steps mi_in131 (mi_calok_none _ _) 1 _ (15, [(0, .int a1), (1, .int 0), (2, .int 5)], [.int 0], (0, 0), mi_G) (by rfl) ?_
        exact mi_sem_ret (cal := fun _ _ _ => none) mi_in131 (by rfl)
      refine mi_sem_call mi_in133 (i := (.invokestatic 119, 3, 131, 0, 9, 0, 379)) (by rfl) (by rfl) hM1709 (by decide) ⟨Nat.le_of_ble_eq_true rfl, Nat.le_of_ble_eq_true rfl⟩ ?_
      exact mi_sem_ret (cal := fun _ _ _ => none) mi_in133 (by rfl)
    refine mi_sem_call mi_in223 (i := (.invokestatic 127, 3, 133, 0, 9, 0, 382)) (by rfl) (by rfl) hM1710 (by decide) ⟨Nat.le_of_ble_eq_true rfl, Nat.le_of_ble_eq_true rfl⟩ ?_
    refine mi_sem_steps mi_in223 (mi_calok_none _ _) 2 _ (15, [(0, .ref 116), (1, .int a1), (2, .int a2), (3, .int a3), (4, .int a4), (5, .int a5)], [.int (-1)], (0, 0), mi_G) (by rfl) ?_
    exact mi_sem_ret (cal := fun _ _ _ => none) mi_in223 (by rfl)

set_option maxRecDepth 100000 in
set_option maxHeartbeats 4000000 in
theorem mp_shift_1 (a1 : Int32) (a2 : Int32) (a3 : Int32) (a4 : Int32) (a5 : Int32) (r0 : 0 ≤ (a1).toInt ∧ (a1).toInt ≤ 5) (r1 : (-2147483648) ≤ (a3).toInt ∧ (a3).toInt ≤ (-1)) : mi_P 117 223 [.int a1, .int a2, .int a3, .int a4, .int a5] := by
  refine ⟨.int (-1), mi_G, mi_G, (mi_h117, mi_c117), (mi_h223, mi_c223), 3, 3, rfl, rfl, rfl, by decide, by decide, ?_, ?_⟩
  · refine mi_met_of (y := 117) (q := (mi_h117, mi_c117)) rfl (by decide) (Nat.le_of_ble_eq_true rfl) ?_
    refine mi_sem_steps mi_in117 (mi_calok_none _ _) 1 _ (1, [(0, .ref 0), (1, .int a1), (2, .int a2), (3, .int a3), (4, .int a4), (5, .int a5)], [.int a1], (0, 0), mi_G) (by rfl) ?_
    have hM1714 : mi_Met mi_N0 2 mi_h121 [.int a1] mi_G (some (.int 1)) mi_G := by
      refine mi_met_of (y := 121) (q := (mi_h121, mi_c121)) rfl (by decide) (Nat.le_of_ble_eq_true rfl) ?_
      refine mi_sem_steps mi_in121 (mi_calok_none _ _) 3 _ (3, [(0, .int a1)], [.int 5, .int 0, .int a1], (0, 0), mi_G) (by rfl) ?_
      have hM1713 : mi_Met mi_N0 1 mi_h120 [.int a1, .int 0, .int 5] mi_G (some (.int 1)) mi_G := by
        refine mi_met_of (y := 120) (q := (mi_h120, mi_c120)) rfl (by decide) (Nat.le_of_ble_eq_true rfl) ?_
        refine mi_sem_steps mi_in120 (mi_calok_none _ _) 2 _ (2, [(0, .int a1), (1, .int 0), (2, .int 5)], [.int 0, .int a1], (0, 0), mi_G) (by rfl) ?_
        refine mi_sem_b mi_in120 (decide (a1 < 0)) false (mi_ltF (0) (by decide) (by omega)) 14 5 ([(0, .int a1), (1, .int 0), (2, .int 5)], [], (0, 0), mi_G) (by rfl) ?_
        refine mi_sem_steps mi_in120 (mi_calok_none _ _) 2 _ (7, [(0, .int a1), (1, .int 0), (2, .int 5)], [.int 5, .int a1], (0, 0), mi_G) (by rfl) ?_
        refine mi_sem_b mi_in120 (decide (5 < a1)) false (mi_ltF2 (5) (by decide) (by omega)) 14 10 ([(0, .int a1), (1, .int 0), (2, .int 5)], [], (0, 0), mi_G) (by rfl) ?_
        refine mi_sem_steps mi_in120 (mi_calok_none _ _) 2 _ (15, [(0, .int a1), (1, .int 0), (2, .int 5)], [.int 1], (0, 0), mi_G) (by rfl) ?_
        exact mi_sem_ret (cal := fun _ _ _ => none) mi_in120 (by rfl)
      refine mi_sem_call mi_in121 (i := (.invokestatic 74, 3, 120, 0, 9, 0, 152)) (by rfl) (by rfl) hM1713 (by decide) ⟨Nat.le_of_ble_eq_true rfl, Nat.le_of_ble_eq_true rfl⟩ ?_
      exact mi_sem_ret (cal := fun _ _ _ => none) mi_in121 (by rfl)
    refine mi_sem_call mi_in117 (i := (.invokestatic 70, 3, 121, 0, 9, 0, 157)) (by rfl) (by rfl) hM1714 (by decide) ⟨Nat.le_of_ble_eq_true rfl, Nat.le_of_ble_eq_true rfl⟩ ?_
    refine mi_sem_steps mi_in117 (mi_calok_none _ _) 2 _ (8, [(0, .ref 0), (1, .int a1), (2, .int a2), (3, .int a3), (4, .int a4), (5, .int a5)], [.int a3], (0, 0), mi_G) (by rfl) ?_
    have hM1716 : mi_Met mi_N0 2 mi_h121 [.int a3] mi_G (some (.int 0)) mi_G := by
      refine mi_met_of (y := 121) (q := (mi_h121, mi_c121)) rfl (by decide) (Nat.le_of_ble_eq_true rfl) ?_
      refine mi_sem_steps mi_in121 (mi_calok_none _ _) 3 _ (3, [(0, .int a3)], [.int 5, .int 0, .int a3], (0, 0), mi_G) (by rfl) ?_
      have hM1715 : mi_Met mi_N0 1 mi_h120 [.int a3, .int 0, .int 5] mi_G (some (.int 0)) mi_G := by
        refine mi_met_of (y := 120) (q := (mi_h120, mi_c120)) rfl (by decide) (Nat.le_of_ble_eq_true rfl) ?_
        refine mi_sem_steps mi_in120 (mi_calok_none _ _) 2 _ (2, [(0, .int a3), (1, .int 0), (2, .int 5)], [.int 0, .int a3], (0, 0), mi_G) (by rfl) ?_
        refine mi_sem_b mi_in120 (decide (a3 < 0)) true (mi_ltT (0) (by decide) (by omega)) 14 5 ([(0, .int a3), (1, .int 0), (2, .int 5)], [], (0, 0), mi_G) (by rfl) ?_
        refine mi_sem_steps mi_in120 (mi_calok_none _ _) 1 _ (15, [(0, .int a3), (1, .int 0), (2, .int 5)], [.int 0], (0, 0), mi_G) (by rfl) ?_
        exact mi_sem_ret (cal := fun _ _ _ => none) mi_in120 (by rfl)
      refine mi_sem_call mi_in121 (i := (.invokestatic 74, 3, 120, 0, 9, 0, 152)) (by rfl) (by rfl) hM1715 (by decide) ⟨Nat.le_of_ble_eq_true rfl, Nat.le_of_ble_eq_true rfl⟩ ?_
      exact mi_sem_ret (cal := fun _ _ _ => none) mi_in121 (by rfl)
    refine mi_sem_call mi_in117 (i := (.invokestatic 70, 3, 121, 0, 9, 0, 157)) (by rfl) (by rfl) hM1716 (by decide) ⟨Nat.le_of_ble_eq_true rfl, Nat.le_of_ble_eq_true rfl⟩ ?_
    refine mi_sem_steps mi_in117 (mi_calok_none _ _) 2 _ (15, [(0, .ref 0), (1, .int a1), (2, .int a2), (3, .int a3), (4, .int a4), (5, .int a5)], [.int (-1)], (0, 0), mi_G) (by rfl) ?_
    exact mi_sem_ret (cal := fun _ _ _ => none) mi_in117 (by rfl)
  · refine mi_met_of (y := 223) (q := (mi_h223, mi_c223)) rfl (by decide) (Nat.le_of_ble_eq_true rfl) ?_
    refine mi_sem_steps mi_in223 (mi_calok_none _ _) 1 _ (1, [(0, .ref 116), (1, .int a1), (2, .int a2), (3, .int a3), (4, .int a4), (5, .int a5)], [.int a1], (0, 0), mi_G) (by rfl) ?_
    have hM1718 : mi_Met mi_N0 2 mi_h133 [.int a1] mi_G (some (.int 1)) mi_G := by
      refine mi_met_of (y := 133) (q := (mi_h133, mi_c133)) rfl (by decide) (Nat.le_of_ble_eq_true rfl) ?_
      refine mi_sem_steps mi_in133 (mi_calok_none _ _) 3 _ (3, [(0, .int a1)], [.int 5, .int 0, .int a1], (0, 0), mi_G) (by rfl) ?_
      have hM1717 : mi_Met mi_N0 1 mi_h131 [.int a1, .int 0, .int 5] mi_G (some (.int 1)) mi_G := by
        refine mi_met_of (y := 131) (q := (mi_h131, mi_c131)) rfl (by decide) (Nat.le_of_ble_eq_true rfl) ?_
        refine mi_sem_steps mi_in131 (mi_calok_none _ _) 2 _ (2, [(0, .int a1), (1, .int 0), (2, .int 5)], [.int 0, .int a1], (0, 0), mi_G) (by rfl) ?_
        refine mi_sem_b mi_in131 (decide (a1 < 0)) false (mi_ltF (0) (by decide) (by omega)) 14 5 ([(0, .int a1), (1, .int 0), (2, .int 5)], [], (0, 0), mi_G) (by rfl) ?_
        refine mi_sem_steps mi_in131 (mi_calok_none _ _) 2 _ (7, [(0, .int a1), (1, .int 0), (2, .int 5)], [.int 5, .int a1], (0, 0), mi_G) (by rfl) ?_
        refine mi_sem_b mi_in131 (decide (5 < a1)) false (mi_ltF2 (5) (by decide) (by omega)) 14 10 ([(0, .int a1), (1, .int 0), (2, .int 5)], [], (0, 0), mi_G) (by rfl) ?_
        refine mi_sem_steps mi_in131 (mi_calok_none _ _) 2 _ (15, [(0, .int a1), (1, .int 0), (2, .int 5)], [.int 1], (0, 0), mi_G) (by rfl) ?_
        exact mi_sem_ret (cal := fun _ _ _ => none) mi_in131 (by rfl)
      refine mi_sem_call mi_in133 (i := (.invokestatic 119, 3, 131, 0, 9, 0, 379)) (by rfl) (by rfl) hM1717 (by decide) ⟨Nat.le_of_ble_eq_true rfl, Nat.le_of_ble_eq_true rfl⟩ ?_
      exact mi_sem_ret (cal := fun _ _ _ => none) mi_in133 (by rfl)
    refine mi_sem_call mi_in223 (i := (.invokestatic 127, 3, 133, 0, 9, 0, 382)) (by rfl) (by rfl) hM1718 (by decide) ⟨Nat.le_of_ble_eq_true rfl, Nat.le_of_ble_eq_true rfl⟩ ?_
    refine mi_sem_steps mi_in223 (mi_calok_none _ _) 2 _ (8, [(0, .ref 116), (1, .int a1), (2, .int a2), (3, .int a3), (4, .int a4), (5, .int a5)], [.int a3], (0, 0), mi_G) (by rfl) ?_
    have hM1720 : mi_Met mi_N0 2 mi_h133 [.int a3] mi_G (some (.int 0)) mi_G := by
      refine mi_met_of (y := 133) (q := (mi_h133, mi_c133)) rfl (by decide) (Nat.le_of_ble_eq_true rfl) ?_
      refine mi_sem_steps mi_in133 (mi_calok_none _ _) 3 _ (3, [(0, .int a3)], [.int 5, .int 0, .int a3], (0, 0), mi_G) (by rfl) ?_
      have hM1719 : mi_Met mi_N0 1 mi_h131 [.int a3, .int 0, .int 5] mi_G (some (.int 0)) mi_G := by
        refine mi_met_of (y := 131) (q := (mi_h131, mi_c131)) rfl (by decide) (Nat.le_of_ble_eq_true rfl) ?_
        refine mi_sem_steps mi_in131 (mi_calok_none _ _) 2 _ (2, [(0, .int a3), (1, .int 0), (2, .int 5)], [.int 0, .int a3], (0, 0), mi_G) (by rfl) ?_
        refine mi_sem_b mi_in131 (decide (a3 < 0)) true (mi_ltT (0) (by decide) (by omega)) 14 5 ([(0, .int a3), (1, .int 0), (2, .int 5)], [], (0, 0), mi_G) (by rfl) ?_
        refine mi_sem_steps mi_in131 (mi_calok_none _ _) 1 _ (15, [(0, .int a3), (1, .int 0), (2, .int 5)], [.int 0], (0, 0), mi_G) (by rfl) ?_
        exact mi_sem_ret (cal := fun _ _ _ => none) mi_in131 (by rfl)
      refine mi_sem_call mi_in133 (i := (.invokestatic 119, 3, 131, 0, 9, 0, 379)) (by rfl) (by rfl) hM1719 (by decide) ⟨Nat.le_of_ble_eq_true rfl, Nat.le_of_ble_eq_true rfl⟩ ?_
      exact mi_sem_ret (cal := fun _ _ _ => none) mi_in133 (by rfl)
    refine mi_sem_call mi_in223 (i := (.invokestatic 127, 3, 133, 0, 9, 0, 382)) (by rfl) (by rfl) hM1720 (by decide) ⟨Nat.le_of_ble_eq_true rfl, Nat.le_of_ble_eq_true rfl⟩ ?_
    refine mi_sem_steps mi_in223 (mi_calok_none _ _) 2 _ (15, [(0, .ref 116), (1, .int a1), (2, .int a2), (3, .int a3), (4, .int a4), (5, .int a5)], [.int (-1)], (0, 0), mi_G) (by rfl) ?_
    exact mi_sem_ret (cal := fun _ _ _ => none) mi_in223 (by rfl)

set_option maxRecDepth 100000 in
set_option maxHeartbeats 4000000 in
theorem mp_shift_2 (a2 : Int32) (a4 : Int32) (a5 : Int32)  : mi_P 117 223 [.int 0, .int a2, .int 0, .int a4, .int a5] := by
  refine ⟨.int (-11), mi_G, mi_G, (mi_h117, mi_c117), (mi_h223, mi_c223), 3, 3, rfl, rfl, rfl, by decide, by decide, ?_, ?_⟩
  · refine mi_met_of (y := 117) (q := (mi_h117, mi_c117)) rfl (by decide) (Nat.le_of_ble_eq_true rfl) ?_
    refine mi_sem_steps mi_in117 (mi_calok_none _ _) 1 _ (1, [(0, .ref 0), (1, .int 0), (2, .int a2), (3, .int 0), (4, .int a4), (5, .int a5)], [.int 0], (0, 0), mi_G) (by rfl) ?_
    have hM1730 : mi_Met mi_N0 2 mi_h121 [.int 0] mi_G (some (.int 1)) mi_G := mi_fun_ok mi_N0 2 121 (mi_h121, mi_c121) _ _ _ _ rfl (mi_eR_ok (by decide +kernel))
    refine mi_sem_call mi_in117 (i := (.invokestatic 70, 3, 121, 0, 9, 0, 157)) (by rfl) (by rfl) hM1730 (by decide) ⟨Nat.le_of_ble_eq_true rfl, Nat.le_of_ble_eq_true rfl⟩ ?_
    refine mi_sem_steps mi_in117 (mi_calok_none _ _) 2 _ (8, [(0, .ref 0), (1, .int 0), (2, .int a2), (3, .int 0), (4, .int a4), (5, .int a5)], [.int 0], (0, 0), mi_G) (by rfl) ?_
    have hM1731 : mi_Met mi_N0 2 mi_h121 [.int 0] mi_G (some (.int 1)) mi_G := mi_fun_ok mi_N0 2 121 (mi_h121, mi_c121) _ _ _ _ rfl (mi_eR_ok (by decide +kernel))
    refine mi_sem_call mi_in117 (i := (.invokestatic 70, 3, 121, 0, 9, 0, 157)) (by rfl) (by rfl) hM1731 (by decide) ⟨Nat.le_of_ble_eq_true rfl, Nat.le_of_ble_eq_true rfl⟩ ?_
    refine mi_sem_steps mi_in117 (mi_calok_none _ _) 15 _ (50, [(7, .ref 104), (6, .ref 104), (0, .ref 0), (1, .int 0), (2, .int a2), (3, .int 0), (4, .int a4), (5, .int a5)], [.int (-11)], (0, 0), mi_G) (by rfl) ?_
    exact mi_sem_ret (cal := fun _ _ _ => none) mi_in117 (by rfl)
  · refine mi_met_of (y := 223) (q := (mi_h223, mi_c223)) rfl (by decide) (Nat.le_of_ble_eq_true rfl) ?_
    refine mi_sem_steps mi_in223 (mi_calok_none _ _) 1 _ (1, [(0, .ref 116), (1, .int 0), (2, .int a2), (3, .int 0), (4, .int a4), (5, .int a5)], [.int 0], (0, 0), mi_G) (by rfl) ?_
    have hM1732 : mi_Met mi_N0 2 mi_h133 [.int 0] mi_G (some (.int 1)) mi_G := mi_fun_ok mi_N0 2 133 (mi_h133, mi_c133) _ _ _ _ rfl (mi_eR_ok (by decide +kernel))
    refine mi_sem_call mi_in223 (i := (.invokestatic 127, 3, 133, 0, 9, 0, 382)) (by rfl) (by rfl) hM1732 (by decide) ⟨Nat.le_of_ble_eq_true rfl, Nat.le_of_ble_eq_true rfl⟩ ?_
    refine mi_sem_steps mi_in223 (mi_calok_none _ _) 2 _ (8, [(0, .ref 116), (1, .int 0), (2, .int a2), (3, .int 0), (4, .int a4), (5, .int a5)], [.int 0], (0, 0), mi_G) (by rfl) ?_
    have hM1733 : mi_Met mi_N0 2 mi_h133 [.int 0] mi_G (some (.int 1)) mi_G := mi_fun_ok mi_N0 2 133 (mi_h133, mi_c133) _ _ _ _ rfl (mi_eR_ok (by decide +kernel))
    refine mi_sem_call mi_in223 (i := (.invokestatic 127, 3, 133, 0, 9, 0, 382)) (by rfl) (by rfl) hM1733 (by decide) ⟨Nat.le_of_ble_eq_true rfl, Nat.le_of_ble_eq_true rfl⟩ ?_
    refine mi_sem_steps mi_in223 (mi_calok_none _ _) 8 _ (38, [(0, .ref 116), (1, .int 0), (2, .int a2), (3, .int 0), (4, .int a4), (5, .int a5)], [.int (-11)], (0, 0), mi_G) (by rfl) ?_
    exact mi_sem_ret (cal := fun _ _ _ => none) mi_in223 (by rfl)

set_option maxRecDepth 100000 in
set_option maxHeartbeats 4000000 in
theorem mp_shift_3 (a2 : Int32) (a4 : Int32) (a5 : Int32)  : mi_P 117 223 [.int 0, .int a2, .int 1, .int a4, .int a5] := by
  refine ⟨.int (-11), mi_G, mi_G, (mi_h117, mi_c117), (mi_h223, mi_c223), 3, 3, rfl, rfl, rfl, by decide, by decide, ?_, ?_⟩
  · refine mi_met_of (y := 117) (q := (mi_h117, mi_c117)) rfl (by decide) (Nat.le_of_ble_eq_true rfl) ?_
    refine mi_sem_steps mi_in117 (mi_calok_none _ _) 1 _ (1, [(0, .ref 0), (1, .int 0), (2, .int a2), (3, .int 1), (4, .int a4), (5, .int a5)], [.int 0], (0, 0), mi_G) (by rfl) ?_
    have hM1737 : mi_Met mi_N0 2 mi_h121 [.int 0] mi_G (some (.int 1)) mi_G := mi_fun_ok mi_N0 2 121 (mi_h121, mi_c121) _ _ _ _ rfl (mi_eR_ok (by decide +kernel))
    refine mi_sem_call mi_in117 (i := (.invokestatic 70, 3, 121, 0, 9, 0, 157)) (by rfl) (by rfl) hM1737 (by decide) ⟨Nat.le_of_ble_eq_true rfl, Nat.le_of_ble_eq_true rfl⟩ ?_
    refine mi_sem_steps mi_in117 (mi_calok_none _ _) 2 _ (8, [(0, .ref 0), (1, .int 0), (2, .int a2), (3, .int 1), (4, .int a4), (5, .int a5)], [.int 1], (0, 0), mi_G) (by rfl) ?_
    have hM1738 : mi_Met mi_N0 2 mi_h121 [.int 1] mi_G (some (.int 1)) mi_G := mi_fun_ok mi_N0 2 121 (mi_h121, mi_c121) _ _ _ _ rfl (mi_eR_ok (by decide +kernel))
    refine mi_sem_call mi_in117 (i := (.invokestatic 70, 3, 121, 0, 9, 0, 157)) (by rfl) (by rfl) hM1738 (by decide) ⟨Nat.le_of_ble_eq_true rfl, Nat.le_of_ble_eq_true rfl⟩ ?_
    refine mi_sem_steps mi_in117 (mi_calok_none _ _) 15 _ (50, [(7, .ref 106), (6, .ref 104), (0, .ref 0), (1, .int 0), (2, .int a2), (3, .int 1), (4, .int a4), (5, .int a5)], [.int (-11)], (0, 0), mi_G) (by rfl) ?_
    exact mi_sem_ret (cal := fun _ _ _ => none) mi_in117 (by rfl)
  · refine mi_met_of (y := 223) (q := (mi_h223, mi_c223)) rfl (by decide) (Nat.le_of_ble_eq_true rfl) ?_
    refine mi_sem_steps mi_in223 (mi_calok_none _ _) 1 _ (1, [(0, .ref 116), (1, .int 0), (2, .int a2), (3, .int 1), (4, .int a4), (5, .int a5)], [.int 0], (0, 0), mi_G) (by rfl) ?_
    have hM1739 : mi_Met mi_N0 2 mi_h133 [.int 0] mi_G (some (.int 1)) mi_G := mi_fun_ok mi_N0 2 133 (mi_h133, mi_c133) _ _ _ _ rfl (mi_eR_ok (by decide +kernel))
    refine mi_sem_call mi_in223 (i := (.invokestatic 127, 3, 133, 0, 9, 0, 382)) (by rfl) (by rfl) hM1739 (by decide) ⟨Nat.le_of_ble_eq_true rfl, Nat.le_of_ble_eq_true rfl⟩ ?_
    refine mi_sem_steps mi_in223 (mi_calok_none _ _) 2 _ (8, [(0, .ref 116), (1, .int 0), (2, .int a2), (3, .int 1), (4, .int a4), (5, .int a5)], [.int 1], (0, 0), mi_G) (by rfl) ?_
    have hM1740 : mi_Met mi_N0 2 mi_h133 [.int 1] mi_G (some (.int 1)) mi_G := mi_fun_ok mi_N0 2 133 (mi_h133, mi_c133) _ _ _ _ rfl (mi_eR_ok (by decide +kernel))
    refine mi_sem_call mi_in223 (i := (.invokestatic 127, 3, 133, 0, 9, 0, 382)) (by rfl) (by rfl) hM1740 (by decide) ⟨Nat.le_of_ble_eq_true rfl, Nat.le_of_ble_eq_true rfl⟩ ?_
    refine mi_sem_steps mi_in223 (mi_calok_none _ _) 8 _ (38, [(0, .ref 116), (1, .int 0), (2, .int a2), (3, .int 1), (4, .int a4), (5, .int a5)], [.int (-11)], (0, 0), mi_G) (by rfl) ?_
    exact mi_sem_ret (cal := fun _ _ _ => none) mi_in223 (by rfl)

set_option maxRecDepth 100000 in
set_option maxHeartbeats 4000000 in
theorem mp_shift_4 (a2 : Int32) (a4 : Int32) (a5 : Int32)  : mi_P 117 223 [.int 0, .int a2, .int 2, .int a4, .int a5] := by
  refine ⟨.int (-11), mi_G, mi_G, (mi_h117, mi_c117), (mi_h223, mi_c223), 3, 3, rfl, rfl, rfl, by decide, by decide, ?_, ?_⟩
  · refine mi_met_of (y := 117) (q := (mi_h117, mi_c117)) rfl (by decide) (Nat.le_of_ble_eq_true rfl) ?_
    refine mi_sem_steps mi_in117 (mi_calok_none _ _) 1 _ (1, [(0, .ref 0), (1, .int 0), (2, .int a2), (3, .int 2), (4, .int a4), (5, .int a5)], [.int 0], (0, 0), mi_G) (by rfl) ?_
    have hM1744 : mi_Met mi_N0 2 mi_h121 [.int 0] mi_G (some (.int 1)) mi_G := mi_fun_ok mi_N0 2 121 (mi_h121, mi_c121) _ _ _ _ rfl (mi_eR_ok (by decide +kernel))
    refine mi_sem_call mi_in117 (i := (.invokestatic 70, 3, 121, 0, 9, 0, 157)) (by rfl) (by rfl) hM1744 (by decide) ⟨Nat.le_of_ble_eq_true rfl, Nat.le_of_ble_eq_true rfl⟩ ?_
    refine mi_sem_steps mi_in117 (mi_calok_none _ _) 2 _ (8, [(0, .ref 0), (1, .int 0), (2, .int a2), (3, .int 2), (4, .int a4), (5, .int a5)], [.int 2], (0, 0), mi_G) (by rfl) ?_
    have hM1745 : mi_Met mi_N0 2 mi_h121 [.int 2] mi_G (some (.int 1)) mi_G := mi_fun_ok mi_N0 2 121 (mi_h121, mi_c121) _ _ _ _ rfl (mi_eR_ok (by decide +kernel))
    refine mi_sem_call mi_in117 (i := (.invokestatic 70, 3, 121, 0, 9, 0, 157)) (by rfl) (by rfl) hM1745 (by decide) ⟨Nat.le_of_ble_eq_true rfl, Nat.le_of_ble_eq_true rfl⟩ ?_
    refine mi_sem_steps mi_in117 (mi_calok_none _ _) 15 _ (50, [(7, .ref 108), (6, .ref 104), (0, .ref 0), (1, .int 0), (2, .int a2), (3, .int 2), (4, .int a4), (5, .int a5)], [.int (-11)], (0, 0), mi_G) (by rfl) ?_
    exact mi_sem_ret (cal := fun _ _ _ => none) mi_in117 (by rfl)
  · refine mi_met_of (y := 223) (q := (mi_h223, mi_c223)) rfl (by decide) (Nat.le_of_ble_eq_true rfl) ?_
    refine mi_sem_steps mi_in223 (mi_calok_none _ _) 1 _ (1, [(0, .ref 116), (1, .int 0), (2, .int a2), (3, .int 2), (4, .int a4), (5, .int a5)], [.int 0], (0, 0), mi_G) (by rfl) ?_
    have hM1746 : mi_Met mi_N0 2 mi_h133 [.int 0] mi_G (some (.int 1)) mi_G := mi_fun_ok mi_N0 2 133 (mi_h133, mi_c133) _ _ _ _ rfl (mi_eR_ok (by decide +kernel))
    refine mi_sem_call mi_in223 (i := (.invokestatic 127, 3, 133, 0, 9, 0, 382)) (by rfl) (by rfl) hM1746 (by decide) ⟨Nat.le_of_ble_eq_true rfl, Nat.le_of_ble_eq_true rfl⟩ ?_
    refine mi_sem_steps mi_in223 (mi_calok_none _ _) 2 _ (8, [(0, .ref 116), (1, .int 0), (2, .int a2), (3, .int 2), (4, .int a4), (5, .int a5)], [.int 2], (0, 0), mi_G) (by rfl) ?_
    have hM1747 : mi_Met mi_N0 2 mi_h133 [.int 2] mi_G (some (.int 1)) mi_G := mi_fun_ok mi_N0 2 133 (mi_h133, mi_c133) _ _ _ _ rfl (mi_eR_ok (by decide +kernel))
    refine mi_sem_call mi_in223 (i := (.invokestatic 127, 3, 133, 0, 9, 0, 382)) (by rfl) (by rfl) hM1747 (by decide) ⟨Nat.le_of_ble_eq_true rfl, Nat.le_of_ble_eq_true rfl⟩ ?_
    refine mi_sem_steps mi_in223 (mi_calok_none _ _) 8 _ (38, [(0, .ref 116), (1, .int 0), (2, .int a2), (3, .int 2), (4, .int a4), (5, .int a5)], [.int (-11)], (0, 0), mi_G) (by rfl) ?_
    exact mi_sem_ret (cal := fun _ _ _ => none) mi_in223 (by rfl)

set_option maxRecDepth 100000 in
set_option maxHeartbeats 4000000 in
theorem mp_shift_5 (a2 : Int32) (a4 : Int32) (a5 : Int32)  : mi_P 117 223 [.int 0, .int a2, .int 3, .int a4, .int a5] := by
  refine ⟨.int (-11), mi_G, mi_G, (mi_h117, mi_c117), (mi_h223, mi_c223), 3, 3, rfl, rfl, rfl, by decide, by decide, ?_, ?_⟩
  · refine mi_met_of (y := 117) (q := (mi_h117, mi_c117)) rfl (by decide) (Nat.le_of_ble_eq_true rfl) ?_
    refine mi_sem_steps mi_in117 (mi_calok_none _ _) 1 _ (1, [(0, .ref 0), (1, .int 0), (2, .int a2), (3, .int 3), (4, .int a4), (5, .int a5)], [.int 0], (0, 0), mi_G) (by rfl) ?_
    have hM1751 : mi_Met mi_N0 2 mi_h121 [.int 0] mi_G (some (.int 1)) mi_G := mi_fun_ok mi_N0 2 121 (mi_h121, mi_c121) _ _ _ _ rfl (mi_eR_ok (by decide +kernel))
    refine mi_sem_call mi_in117 (i := (.invokestatic 70, 3, 121, 0, 9, 0, 157)) (by rfl) (by rfl) hM1751 (by decide) ⟨Nat.le_of_ble_eq_true rfl, Nat.le_of_ble_eq_true rfl⟩ ?_
    refine mi_sem_steps mi_in117 (mi_calok_none _ _) 2 _ (8, [(0, .ref 0), (1, .int 0), (2, .int a2), (3, .int 3), (4, .int a4), (5, .int a5)], [.int 3], (0, 0), mi_G) (by rfl) ?_
    have hM1752 : mi_Met mi_N0 2 mi_h121 [.int 3] mi_G (some (.int 1)) mi_G := mi_fun_ok mi_N0 2 121 (mi_h121, mi_c121) _ _ _ _ rfl (mi_eR_ok (by decide +kernel))
    refine mi_sem_call mi_in117 (i := (.invokestatic 70, 3, 121, 0, 9, 0, 157)) (by rfl) (by rfl) hM1752 (by decide) ⟨Nat.le_of_ble_eq_true rfl, Nat.le_of_ble_eq_true rfl⟩ ?_
    refine mi_sem_steps mi_in117 (mi_calok_none _ _) 15 _ (50, [(7, .ref 110), (6, .ref 104), (0, .ref 0), (1, .int 0), (2, .int a2), (3, .int 3), (4, .int a4), (5, .int a5)], [.int (-11)], (0, 0), mi_G) (by rfl) ?_
    exact mi_sem_ret (cal := fun _ _ _ => none) mi_in117 (by rfl)
  · refine mi_met_of (y := 223) (q := (mi_h223, mi_c223)) rfl (by decide) (Nat.le_of_ble_eq_true rfl) ?_
    refine mi_sem_steps mi_in223 (mi_calok_none _ _) 1 _ (1, [(0, .ref 116), (1, .int 0), (2, .int a2), (3, .int 3), (4, .int a4), (5, .int a5)], [.int 0], (0, 0), mi_G) (by rfl) ?_
    have hM1753 : mi_Met mi_N0 2 mi_h133 [.int 0] mi_G (some (.int 1)) mi_G := mi_fun_ok mi_N0 2 133 (mi_h133, mi_c133) _ _ _ _ rfl (mi_eR_ok (by decide +kernel))
    refine mi_sem_call mi_in223 (i := (.invokestatic 127, 3, 133, 0, 9, 0, 382)) (by rfl) (by rfl) hM1753 (by decide) ⟨Nat.le_of_ble_eq_true rfl, Nat.le_of_ble_eq_true rfl⟩ ?_
    refine mi_sem_steps mi_in223 (mi_calok_none _ _) 2 _ (8, [(0, .ref 116), (1, .int 0), (2, .int a2), (3, .int 3), (4, .int a4), (5, .int a5)], [.int 3], (0, 0), mi_G) (by rfl) ?_
    have hM1754 : mi_Met mi_N0 2 mi_h133 [.int 3] mi_G (some (.int 1)) mi_G := mi_fun_ok mi_N0 2 133 (mi_h133, mi_c133) _ _ _ _ rfl (mi_eR_ok (by decide +kernel))
    refine mi_sem_call mi_in223 (i := (.invokestatic 127, 3, 133, 0, 9, 0, 382)) (by rfl) (by rfl) hM1754 (by decide) ⟨Nat.le_of_ble_eq_true rfl, Nat.le_of_ble_eq_true rfl⟩ ?_
    refine mi_sem_steps mi_in223 (mi_calok_none _ _) 8 _ (38, [(0, .ref 116), (1, .int 0), (2, .int a2), (3, .int 3), (4, .int a4), (5, .int a5)], [.int (-11)], (0, 0), mi_G) (by rfl) ?_
    exact mi_sem_ret (cal := fun _ _ _ => none) mi_in223 (by rfl)

set_option maxRecDepth 100000 in
set_option maxHeartbeats 4000000 in
theorem mp_shift_6 (a2 : Int32) (a4 : Int32) (a5 : Int32)  : mi_P 117 223 [.int 0, .int a2, .int 4, .int a4, .int a5] := by
  refine ⟨.int (-11), mi_G, mi_G, (mi_h117, mi_c117), (mi_h223, mi_c223), 3, 3, rfl, rfl, rfl, by decide, by decide, ?_, ?_⟩
  · refine mi_met_of (y := 117) (q := (mi_h117, mi_c117)) rfl (by decide) (Nat.le_of_ble_eq_true rfl) ?_
    refine mi_sem_steps mi_in117 (mi_calok_none _ _) 1 _ (1, [(0, .ref 0), (1, .int 0), (2, .int a2), (3, .int 4), (4, .int a4), (5, .int a5)], [.int 0], (0, 0), mi_G) (by rfl) ?_
    have hM1758 : mi_Met mi_N0 2 mi_h121 [.int 0] mi_G (some (.int 1)) mi_G := mi_fun_ok mi_N0 2 121 (mi_h121, mi_c121) _ _ _ _ rfl (mi_eR_ok (by decide +kernel))
    refine mi_sem_call mi_in117 (i := (.invokestatic 70, 3, 121, 0, 9, 0, 157)) (by rfl) (by rfl) hM1758 (by decide) ⟨Nat.le_of_ble_eq_true rfl, Nat.le_of_ble_eq_true rfl⟩ ?_
    refine mi_sem_steps mi_in117 (mi_calok_none _ _) 2 _ (8, [(0, .ref 0), (1, .int 0), (2, .int a2), (3, .int 4), (4, .int a4), (5, .int a5)], [.int 4], (0, 0), mi_G) (by rfl) ?_
    have hM1759 : mi_Met mi_N0 2 mi_h121 [.int 4] mi_G (some (.int 1)) mi_G := mi_fun_ok mi_N0 2 121 (mi_h121, mi_c121) _ _ _ _ rfl (mi_eR_ok (by decide +kernel))
    refine mi_sem_call mi_in117 (i := (.invokestatic 70, 3, 121, 0, 9, 0, 157)) (by rfl) (by rfl) hM1759 (by decide) ⟨Nat.le_of_ble_eq_true rfl, Nat.le_of_ble_eq_true rfl⟩ ?_
    refine mi_sem_steps mi_in117 (mi_calok_none _ _) 15 _ (50, [(7, .ref 112), (6, .ref 104), (0, .ref 0), (1, .int 0), (2, .int a2), (3, .int 4), (4, .int a4), (5, .int a5)], [.int (-11)], (0, 0), mi_G) (by rfl) ?_
    exact mi_sem_ret (cal := fun _ _ _ => none) mi_in117 (by rfl)
  · refine mi_met_of (y := 223) (q := (mi_h223, mi_c223)) rfl (by decide) (Nat.le_of_ble_eq_true rfl) ?_
    refine mi_sem_steps mi_in223 (mi_calok_none _ _) 1 _ (1, [(0, .ref 116), (1, .int 0), (2, .int a2), (3, .int 4), (4, .int a4), (5, .int a5)], [.int 0], (0, 0), mi_G) (by rfl) ?_
    have hM1760 : mi_Met mi_N0 2 mi_h133 [.int 0] mi_G (some (.int 1)) mi_G := mi_fun_ok mi_N0 2 133 (mi_h133, mi_c133) _ _ _ _ rfl (mi_eR_ok (by decide +kernel))
    refine mi_sem_call mi_in223 (i := (.invokestatic 127, 3, 133, 0, 9, 0, 382)) (by rfl) (by rfl) hM1760 (by decide) ⟨Nat.le_of_ble_eq_true rfl, Nat.le_of_ble_eq_true rfl⟩ ?_
    refine mi_sem_steps mi_in223 (mi_calok_none _ _) 2 _ (8, [(0, .ref 116), (1, .int 0), (2, .int a2), (3, .int 4), (4, .int a4), (5, .int a5)], [.int 4], (0, 0), mi_G) (by rfl) ?_
    have hM1761 : mi_Met mi_N0 2 mi_h133 [.int 4] mi_G (some (.int 1)) mi_G := mi_fun_ok mi_N0 2 133 (mi_h133, mi_c133) _ _ _ _ rfl (mi_eR_ok (by decide +kernel))
    refine mi_sem_call mi_in223 (i := (.invokestatic 127, 3, 133, 0, 9, 0, 382)) (by rfl) (by rfl) hM1761 (by decide) ⟨Nat.le_of_ble_eq_true rfl, Nat.le_of_ble_eq_true rfl⟩ ?_
    refine mi_sem_steps mi_in223 (mi_calok_none _ _) 8 _ (38, [(0, .ref 116), (1, .int 0), (2, .int a2), (3, .int 4), (4, .int a4), (5, .int a5)], [.int (-11)], (0, 0), mi_G) (by rfl) ?_
    exact mi_sem_ret (cal := fun _ _ _ => none) mi_in223 (by rfl)

set_option maxRecDepth 100000 in
set_option maxHeartbeats 4000000 in
theorem mp_shift_7 (a2 : Int32) (a4 : Int32) (a5 : Int32)  : mi_P 117 223 [.int 0, .int a2, .int 5, .int a4, .int a5] := by
  refine ⟨.int (-11), mi_G, mi_G, (mi_h117, mi_c117), (mi_h223, mi_c223), 3, 3, rfl, rfl, rfl, by decide, by decide, ?_, ?_⟩
  · refine mi_met_of (y := 117) (q := (mi_h117, mi_c117)) rfl (by decide) (Nat.le_of_ble_eq_true rfl) ?_
    refine mi_sem_steps mi_in117 (mi_calok_none _ _) 1 _ (1, [(0, .ref 0), (1, .int 0), (2, .int a2), (3, .int 5), (4, .int a4), (5, .int a5)], [.int 0], (0, 0), mi_G) (by rfl) ?_
    have hM1762 : mi_Met mi_N0 2 mi_h121 [.int 0] mi_G (some (.int 1)) mi_G := mi_fun_ok mi_N0 2 121 (mi_h121, mi_c121) _ _ _ _ rfl (mi_eR_ok (by decide +kernel))
    refine mi_sem_call mi_in117 (i := (.invokestatic 70, 3, 121, 0, 9, 0, 157)) (by rfl) (by rfl) hM1762 (by decide) ⟨Nat.le_of_ble_eq_true rfl, Nat.le_of_ble_eq_true rfl⟩ ?_
    refine mi_sem_steps mi_in117 (mi_calok_none _ _) 2 _ (8, [(0, .ref 0), (1, .int 0), (2, .int a2), (3, .int 5), (4, .int a4), (5, .int a5)], [.int 5], (0, 0), mi_G) (by rfl) ?_
    have hM1763 : mi_Met mi_N0 2 mi_h121 [.int 5] mi_G (some (.int 1)) mi_G := mi_fun_ok mi_N0 2 121 (mi_h121, mi_c121) _ _ _ _ rfl (mi_eR_ok (by decide +kernel))
    refine mi_sem_call mi_in117 (i := (.invokestatic 70, 3, 121, 0, 9, 0, 157)) (by rfl) (by rfl) hM1763 (by decide) ⟨Nat.le_of_ble_eq_true rfl, Nat.le_of_ble_eq_true rfl⟩ ?_
    refine mi_sem_steps mi_in117 (mi_calok_none _ _) 15 _ (50, [(7, .ref 114), (6, .ref 104), (0, .ref 0), (1, .int 0), (2, .int a2), (3, .int 5), (4, .int a4), (5, .int a5)], [.int (-11)], (0, 0), mi_G) (by rfl) ?_
    exact mi_sem_ret (cal := fun _ _ _ => none) mi_in117 (by rfl)
  · refine mi_met_of (y := 223) (q := (mi_h223, mi_c223)) rfl (by decide) (Nat.le_of_ble_eq_true rfl) ?_
    refine mi_sem_steps mi_in223 (mi_calok_none _ _) 1 _ (1, [(0, .ref 116), (1, .int 0), (2, .int a2), (3, .int 5), (4, .int a4), (5, .int a5)], [.int 0], (0, 0), mi_G) (by rfl) ?_
    have hM1764 : mi_Met mi_N0 2 mi_h133 [.int 0] mi_G (some (.int 1)) mi_G := mi_fun_ok mi_N0 2 133 (mi_h133, mi_c133) _ _ _ _ rfl (mi_eR_ok (by decide +kernel))
    refine mi_sem_call mi_in223 (i := (.invokestatic 127, 3, 133, 0, 9, 0, 382)) (by rfl) (by rfl) hM1764 (by decide) ⟨Nat.le_of_ble_eq_true rfl, Nat.le_of_ble_eq_true rfl⟩ ?_
    refine mi_sem_steps mi_in223 (mi_calok_none _ _) 2 _ (8, [(0, .ref 116), (1, .int 0), (2, .int a2), (3, .int 5), (4, .int a4), (5, .int a5)], [.int 5], (0, 0), mi_G) (by rfl) ?_
    have hM1765 : mi_Met mi_N0 2 mi_h133 [.int 5] mi_G (some (.int 1)) mi_G := mi_fun_ok mi_N0 2 133 (mi_h133, mi_c133) _ _ _ _ rfl (mi_eR_ok (by decide +kernel))
    refine mi_sem_call mi_in223 (i := (.invokestatic 127, 3, 133, 0, 9, 0, 382)) (by rfl) (by rfl) hM1765 (by decide) ⟨Nat.le_of_ble_eq_true rfl, Nat.le_of_ble_eq_true rfl⟩ ?_
    refine mi_sem_steps mi_in223 (mi_calok_none _ _) 8 _ (38, [(0, .ref 116), (1, .int 0), (2, .int a2), (3, .int 5), (4, .int a4), (5, .int a5)], [.int (-11)], (0, 0), mi_G) (by rfl) ?_
    exact mi_sem_ret (cal := fun _ _ _ => none) mi_in223 (by rfl)

set_option maxRecDepth 100000 in
set_option maxHeartbeats 4000000 in
theorem mp_shift_8 (a2 : Int32) (a4 : Int32) (a5 : Int32)  : mi_P 117 223 [.int 1, .int a2, .int 0, .int a4, .int a5] := by
  refine ⟨.int (-11), mi_G, mi_G, (mi_h117, mi_c117), (mi_h223, mi_c223), 3, 3, rfl, rfl, rfl, by decide, by decide, ?_, ?_⟩
  · refine mi_met_of (y := 117) (q := (mi_h117, mi_c117)) rfl (by decide) (Nat.le_of_ble_eq_true rfl) ?_
    refine mi_sem_steps mi_in117 (mi_calok_none _ _) 1 _ (1, [(0, .ref 0), (1, .int 1), (2, .int a2), (3, .int 0), (4, .int a4), (5, .int a5)], [.int 1], (0, 0), mi_G) (by rfl) ?_
    have hM1773 : mi_Met mi_N0 2 mi_h121 [.int 1] mi_G (some (.int 1)) mi_G := mi_fun_ok mi_N0 2 121 (mi_h121, mi_c121) _ _ _ _ rfl (mi_eR_ok (by decide +kernel))
    refine mi_sem_call mi_in117 (i := (.invokestatic 70, 3, 121, 0, 9, 0, 157)) (by rfl) (by rfl) hM1773 (by decide) ⟨Nat.le_of_ble_eq_true rfl, Nat.le_of_ble_eq_true rfl⟩ ?_
    refine mi_sem_steps mi_in117 (mi_calok_none _ _) 2 _ (8, [(0, .ref 0), (1, .int 1), (2, .int a2), (3, .int 0), (4, .int a4), (5, .int a5)], [.int 0], (0, 0), mi_G) (by rfl) ?_
    have hM1774 : mi_Met mi_N0 2 mi_h121 [.int 0] mi_G (some (.int 1)) mi_G := mi_fun_ok mi_N0 2 121 (mi_h121, mi_c121) _ _ _ _ rfl (mi_eR_ok (by decide +kernel))
    refine mi_sem_call mi_in117 (i := (.invokestatic 70, 3, 121, 0, 9, 0, 157)) (by rfl) (by rfl) hM1774 (by decide) ⟨Nat.le_of_ble_eq_true rfl, Nat.le_of_ble_eq_true rfl⟩ ?_
    refine mi_sem_steps mi_in117 (mi_calok_none _ _) 15 _ (50, [(7, .ref 104), (6, .ref 106), (0, .ref 0), (1, .int 1), (2, .int a2), (3, .int 0), (4, .int a4), (5, .int a5)], [.int (-11)], (0, 0), mi_G) (by rfl) ?_
    exact mi_sem_ret (cal := fun _ _ _ => none) mi_in117 (by rfl)
  · refine mi_met_of (y := 223) (q := (mi_h223, mi_c223)) rfl (by decide) (Nat.le_of_ble_eq_true rfl) ?_
    refine mi_sem_steps mi_in223 (mi_calok_none _ _) 1 _ (1, [(0, .ref 116), (1, .int 1), (2, .int a2), (3, .int 0), (4, .int a4), (5, .int a5)], [.int 1], (0, 0), mi_G) (by rfl) ?_
    have hM1775 : mi_Met mi_N0 2 mi_h133 [.int 1] mi_G (some (.int 1)) mi_G := mi_fun_ok mi_N0 2 133 (mi_h133, mi_c133) _ _ _ _ rfl (mi_eR_ok (by decide +kernel))
    refine mi_sem_call mi_in223 (i := (.invokestatic 127, 3, 133, 0, 9, 0, 382)) (by rfl) (by rfl) hM1775 (by decide) ⟨Nat.le_of_ble_eq_true rfl, Nat.le_of_ble_eq_true rfl⟩ ?_
    refine mi_sem_steps mi_in223 (mi_calok_none _ _) 2 _ (8, [(0, .ref 116), (1, .int 1), (2, .int a2), (3, .int 0), (4, .int a4), (5, .int a5)], [.int 0], (0, 0), mi_G) (by rfl) ?_
    have hM1776 : mi_Met mi_N0 2 mi_h133 [.int 0] mi_G (some (.int 1)) mi_G := mi_fun_ok mi_N0 2 133 (mi_h133, mi_c133) _ _ _ _ rfl (mi_eR_ok (by decide +kernel))
    refine mi_sem_call mi_in223 (i := (.invokestatic 127, 3, 133, 0, 9, 0, 382)) (by rfl) (by rfl) hM1776 (by decide) ⟨Nat.le_of_ble_eq_true rfl, Nat.le_of_ble_eq_true rfl⟩ ?_
    refine mi_sem_steps mi_in223 (mi_calok_none _ _) 8 _ (38, [(0, .ref 116), (1, .int 1), (2, .int a2), (3, .int 0), (4, .int a4), (5, .int a5)], [.int (-11)], (0, 0), mi_G) (by rfl) ?_
    exact mi_sem_ret (cal := fun _ _ _ => none) mi_in223 (by rfl)

set_option maxRecDepth 100000 in
set_option maxHeartbeats 4000000 in
theorem mp_shift_9 (a2 : Int32) (a4 : Int32) (a5 : Int32)  : mi_P 117 223 [.int 1, .int a2, .int 1, .int a4, .int a5] := by
  refine ⟨.int (-11), mi_G, mi_G, (mi_h117, mi_c117), (mi_h223, mi_c223), 3, 3, rfl, rfl, rfl, by decide, by decide, ?_, ?_⟩
  · refine mi_met_of (y := 117) (q := (mi_h117, mi_c117)) rfl (by decide) (Nat.le_of_ble_eq_true rfl) ?_
    refine mi_sem_steps mi_in117 (mi_calok_none _ _) 1 _ (1, [(0, .ref 0), (1, .int 1), (2, .int a2), (3, .int 1), (4, .int a4), (5, .int a5)], [.int 1], (0, 0), mi_G) (by rfl) ?_
    have hM1780 : mi_Met mi_N0 2 mi_h121 [.int 1] mi_G (some (.int 1)) mi_G := mi_fun_ok mi_N0 2 121 (mi_h121, mi_c121) _ _ _ _ rfl (mi_eR_ok (by decide +kernel))
    refine mi_sem_call mi_in117 (i := (.invokestatic 70, 3, 121, 0, 9, 0, 157)) (by rfl) (by rfl) hM1780 (by decide) ⟨Nat.le_of_ble_eq_true rfl, Nat.le_of_ble_eq_true rfl⟩ ?_
    refine mi_sem_steps mi_in117 (mi_calok_none _ _) 2 _ (8, [(0, .ref 0), (1, .int 1), (2, .int a2), (3, .int 1), (4, .int a4), (5, .int a5)], [.int 1], (0, 0), mi_G) (by rfl) ?_
    have hM1781 : mi_Met mi_N0 2 mi_h121 [.int 1] mi_G (some (.int 1)) mi_G := mi_fun_ok mi_N0 2 121 (mi_h121, mi_c121) _ _ _ _ rfl (mi_eR_ok (by decide +kernel))
    refine mi_sem_call mi_in117 (i := (.invokestatic 70, 3, 121, 0, 9, 0, 157)) (by rfl) (by rfl) hM1781 (by decide) ⟨Nat.le_of_ble_eq_true rfl, Nat.le_of_ble_eq_true rfl⟩ ?_
    refine mi_sem_steps mi_in117 (mi_calok_none _ _) 15 _ (50, [(7, .ref 106), (6, .ref 106), (0, .ref 0), (1, .int 1), (2, .int a2), (3, .int 1), (4, .int a4), (5, .int a5)], [.int (-11)], (0, 0), mi_G) (by rfl) ?_
    exact mi_sem_ret (cal := fun _ _ _ => none) mi_in117 (by rfl)
  · refine mi_met_of (y := 223) (q := (mi_h223, mi_c223)) rfl (by decide) (Nat.le_of_ble_eq_true rfl) ?_
    refine mi_sem_steps mi_in223 (mi_calok_none _ _) 1 _ (1, [(0, .ref 116), (1, .int 1), (2, .int a2), (3, .int 1), (4, .int a4), (5, .int a5)], [.int 1], (0, 0), mi_G) (by rfl) ?_
    have hM1782 : mi_Met mi_N0 2 mi_h133 [.int 1] mi_G (some (.int 1)) mi_G := mi_fun_ok mi_N0 2 133 (mi_h133, mi_c133) _ _ _ _ rfl (mi_eR_ok (by decide +kernel))
    refine mi_sem_call mi_in223 (i := (.invokestatic 127, 3, 133, 0, 9, 0, 382)) (by rfl) (by rfl) hM1782 (by decide) ⟨Nat.le_of_ble_eq_true rfl, Nat.le_of_ble_eq_true rfl⟩ ?_
    refine mi_sem_steps mi_in223 (mi_calok_none _ _) 2 _ (8, [(0, .ref 116), (1, .int 1), (2, .int a2), (3, .int 1), (4, .int a4), (5, .int a5)], [.int 1], (0, 0), mi_G) (by rfl) ?_
    have hM1783 : mi_Met mi_N0 2 mi_h133 [.int 1] mi_G (some (.int 1)) mi_G := mi_fun_ok mi_N0 2 133 (mi_h133, mi_c133) _ _ _ _ rfl (mi_eR_ok (by decide +kernel))
    refine mi_sem_call mi_in223 (i := (.invokestatic 127, 3, 133, 0, 9, 0, 382)) (by rfl) (by rfl) hM1783 (by decide) ⟨Nat.le_of_ble_eq_true rfl, Nat.le_of_ble_eq_true rfl⟩ ?_
    refine mi_sem_steps mi_in223 (mi_calok_none _ _) 8 _ (38, [(0, .ref 116), (1, .int 1), (2, .int a2), (3, .int 1), (4, .int a4), (5, .int a5)], [.int (-11)], (0, 0), mi_G) (by rfl) ?_
    exact mi_sem_ret (cal := fun _ _ _ => none) mi_in223 (by rfl)

set_option maxRecDepth 100000 in
set_option maxHeartbeats 4000000 in
theorem mp_shift_10 (a2 : Int32) (a4 : Int32) (a5 : Int32)  : mi_P 117 223 [.int 1, .int a2, .int 2, .int a4, .int a5] := by
  refine ⟨.int (-11), mi_G, mi_G, (mi_h117, mi_c117), (mi_h223, mi_c223), 3, 3, rfl, rfl, rfl, by decide, by decide, ?_, ?_⟩
  · refine mi_met_of (y := 117) (q := (mi_h117, mi_c117)) rfl (by decide) (Nat.le_of_ble_eq_true rfl) ?_
    refine mi_sem_steps mi_in117 (mi_calok_none _ _) 1 _ (1, [(0, .ref 0), (1, .int 1), (2, .int a2), (3, .int 2), (4, .int a4), (5, .int a5)], [.int 1], (0, 0), mi_G) (by rfl) ?_
    have hM1787 : mi_Met mi_N0 2 mi_h121 [.int 1] mi_G (some (.int 1)) mi_G := mi_fun_ok mi_N0 2 121 (mi_h121, mi_c121) _ _ _ _ rfl (mi_eR_ok (by decide +kernel))
    refine mi_sem_call mi_in117 (i := (.invokestatic 70, 3, 121, 0, 9, 0, 157)) (by rfl) (by rfl) hM1787 (by decide) ⟨Nat.le_of_ble_eq_true rfl, Nat.le_of_ble_eq_true rfl⟩ ?_
    refine mi_sem_steps mi_in117 (mi_calok_none _ _) 2 _ (8, [(0, .ref 0), (1, .int 1), (2, .int a2), (3, .int 2), (4, .int a4), (5, .int a5)], [.int 2], (0, 0), mi_G) (by rfl) ?_
    have hM1788 : mi_Met mi_N0 2 mi_h121 [.int 2] mi_G (some (.int 1)) mi_G := mi_fun_ok mi_N0 2 121 (mi_h121, mi_c121) _ _ _ _ rfl (mi_eR_ok (by decide +kernel))
    refine mi_sem_call mi_in117 (i := (.invokestatic 70, 3, 121, 0, 9, 0, 157)) (by rfl) (by rfl) hM1788 (by decide) ⟨Nat.le_of_ble_eq_true rfl, Nat.le_of_ble_eq_true rfl⟩ ?_
    refine mi_sem_steps mi_in117 (mi_calok_none _ _) 15 _ (50, [(7, .ref 108), (6, .ref 106), (0, .ref 0), (1, .int 1), (2, .int a2), (3, .int 2), (4, .int a4), (5, .int a5)], [.int (-11)], (0, 0), mi_G) (by rfl) ?_
    exact mi_sem_ret (cal := fun _ _ _ => none) mi_in117 (by rfl)
  · refine mi_met_of (y := 223) (q := (mi_h223, mi_c223)) rfl (by decide) (Nat.le_of_ble_eq_true rfl) ?_
    refine mi_sem_steps mi_in223 (mi_calok_none _ _) 1 _ (1, [(0, .ref 116), (1, .int 1), (2, .int a2), (3, .int 2), (4, .int a4), (5, .int a5)], [.int 1], (0, 0), mi_G) (by rfl) ?_
    have hM1789 : mi_Met mi_N0 2 mi_h133 [.int 1] mi_G (some (.int 1)) mi_G := mi_fun_ok mi_N0 2 133 (mi_h133, mi_c133) _ _ _ _ rfl (mi_eR_ok (by decide +kernel))
    refine mi_sem_call mi_in223 (i := (.invokestatic 127, 3, 133, 0, 9, 0, 382)) (by rfl) (by rfl) hM1789 (by decide) ⟨Nat.le_of_ble_eq_true rfl, Nat.le_of_ble_eq_true rfl⟩ ?_
    refine mi_sem_steps mi_in223 (mi_calok_none _ _) 2 _ (8, [(0, .ref 116), (1, .int 1), (2, .int a2), (3, .int 2), (4, .int a4), (5, .int a5)], [.int 2], (0, 0), mi_G) (by rfl) ?_
    have hM1790 : mi_Met mi_N0 2 mi_h133 [.int 2] mi_G (some (.int 1)) mi_G := mi_fun_ok mi_N0 2 133 (mi_h133, mi_c133) _ _ _ _ rfl (mi_eR_ok (by decide +kernel))
    refine mi_sem_call mi_in223 (i := (.invokestatic 127, 3, 133, 0, 9, 0, 382)) (by rfl) (by rfl) hM1790 (by decide) ⟨Nat.le_of_ble_eq_true rfl, Nat.le_of_ble_eq_true rfl⟩ ?_
    refine mi_sem_steps mi_in223 (mi_calok_none _ _) 8 _ (38, [(0, .ref 116), (1, .int 1), (2, .int a2), (3, .int 2), (4, .int a4), (5, .int a5)], [.int (-11)], (0, 0), mi_G) (by rfl) ?_
    exact mi_sem_ret (cal := fun _ _ _ => none) mi_in223 (by rfl)

set_option maxRecDepth 100000 in
set_option maxHeartbeats 4000000 in
theorem mp_shift_11 (a2 : Int32) (a4 : Int32) (a5 : Int32)  : mi_P 117 223 [.int 1, .int a2, .int 3, .int a4, .int a5] := by
  refine ⟨.int (-11), mi_G, mi_G, (mi_h117, mi_c117), (mi_h223, mi_c223), 3, 3, rfl, rfl, rfl, by decide, by decide, ?_, ?_⟩
  · refine mi_met_of (y := 117) (q := (mi_h117, mi_c117)) rfl (by decide) (Nat.le_of_ble_eq_true rfl) ?_
    refine mi_sem_steps mi_in117 (mi_calok_none _ _) 1 _ (1, [(0, .ref 0), (1, .int 1), (2, .int a2), (3, .int 3), (4, .int a4), (5, .int a5)], [.int 1], (0, 0), mi_G) (by rfl) ?_
    have hM1794 : mi_Met mi_N0 2 mi_h121 [.int 1] mi_G (some (.int 1)) mi_G := mi_fun_ok mi_N0 2 121 (mi_h121, mi_c121) _ _ _ _ rfl (mi_eR_ok (by decide +kernel))
    refine mi_sem_call mi_in117 (i := (.invokestatic 70, 3, 121, 0, 9, 0, 157)) (by rfl) (by rfl) hM1794 (by decide) ⟨Nat.le_of_ble_eq_true rfl, Nat.le_of_ble_eq_true rfl⟩ ?_
    refine mi_sem_steps mi_in117 (mi_calok_none _ _) 2 _ (8, [(0, .ref 0), (1, .int 1), (2, .int a2), (3, .int 3), (4, .int a4), (5, .int a5)], [.int 3], (0, 0), mi_G) (by rfl) ?_
    have hM1795 : mi_Met mi_N0 2 mi_h121 [.int 3] mi_G (some (.int 1)) mi_G := mi_fun_ok mi_N0 2 121 (mi_h121, mi_c121) _ _ _ _ rfl (mi_eR_ok (by decide +kernel))
    refine mi_sem_call mi_in117 (i := (.invokestatic 70, 3, 121, 0, 9, 0, 157)) (by rfl) (by rfl) hM1795 (by decide) ⟨Nat.le_of_ble_eq_true rfl, Nat.le_of_ble_eq_true rfl⟩ ?_
    refine mi_sem_steps mi_in117 (mi_calok_none _ _) 15 _ (50, [(7, .ref 110), (6, .ref 106), (0, .ref 0), (1, .int 1), (2, .int a2), (3, .int 3), (4, .int a4), (5, .int a5)], [.int (-11)], (0, 0), mi_G) (by rfl) ?_
    exact mi_sem_ret (cal := fun _ _ _ => none) mi_in117 (by rfl)
  · refine mi_met_of (y := 223) (q := (mi_h223, mi_c223)) rfl (by decide) (Nat.le_of_ble_eq_true rfl) ?_
    refine mi_sem_steps mi_in223 (mi_calok_none _ _) 1 _ (1, [(0, .ref 116), (1, .int 1), (2, .int a2), (3, .int 3), (4, .int a4), (5, .int a5)], [.int 1], (0, 0), mi_G) (by rfl) ?_
    have hM1796 : mi_Met mi_N0 2 mi_h133 [.int 1] mi_G (some (.int 1)) mi_G := mi_fun_ok mi_N0 2 133 (mi_h133, mi_c133) _ _ _ _ rfl (mi_eR_ok (by decide +kernel))
    refine mi_sem_call mi_in223 (i := (.invokestatic 127, 3, 133, 0, 9, 0, 382)) (by rfl) (by rfl) hM1796 (by decide) ⟨Nat.le_of_ble_eq_true rfl, Nat.le_of_ble_eq_true rfl⟩ ?_
    refine mi_sem_steps mi_in223 (mi_calok_none _ _) 2 _ (8, [(0, .ref 116), (1, .int 1), (2, .int a2), (3, .int 3), (4, .int a4), (5, .int a5)], [.int 3], (0, 0), mi_G) (by rfl) ?_
    have hM1797 : mi_Met mi_N0 2 mi_h133 [.int 3] mi_G (some (.int 1)) mi_G := mi_fun_ok mi_N0 2 133 (mi_h133, mi_c133) _ _ _ _ rfl (mi_eR_ok (by decide +kernel))
    refine mi_sem_call mi_in223 (i := (.invokestatic 127, 3, 133, 0, 9, 0, 382)) (by rfl) (by rfl) hM1797 (by decide) ⟨Nat.le_of_ble_eq_true rfl, Nat.le_of_ble_eq_true rfl⟩ ?_
    refine mi_sem_steps mi_in223 (mi_calok_none _ _) 8 _ (38, [(0, .ref 116), (1, .int 1), (2, .int a2), (3, .int 3), (4, .int a4), (5, .int a5)], [.int (-11)], (0, 0), mi_G) (by rfl) ?_
    exact mi_sem_ret (cal := fun _ _ _ => none) mi_in223 (by rfl)

set_option maxRecDepth 100000 in
set_option maxHeartbeats 4000000 in
theorem mp_shift_12 (a2 : Int32) (a4 : Int32) (a5 : Int32)  : mi_P 117 223 [.int 1, .int a2, .int 4, .int a4, .int a5] := by
  refine ⟨.int (-11), mi_G, mi_G, (mi_h117, mi_c117), (mi_h223, mi_c223), 3, 3, rfl, rfl, rfl, by decide, by decide, ?_, ?_⟩
  · refine mi_met_of (y := 117) (q := (mi_h117, mi_c117)) rfl (by decide) (Nat.le_of_ble_eq_true rfl) ?_
    refine mi_sem_steps mi_in117 (mi_calok_none _ _) 1 _ (1, [(0, .ref 0), (1, .int 1), (2, .int a2), (3, .int 4), (4, .int a4), (5, .int a5)], [.int 1], (0, 0), mi_G) (by rfl) ?_
    have hM1801 : mi_Met mi_N0 2 mi_h121 [.int 1] mi_G (some (.int 1)) mi_G := mi_fun_ok mi_N0 2 121 (mi_h121, mi_c121) _ _ _ _ rfl (mi_eR_ok (by decide +kernel))
    refine mi_sem_call mi_in117 (i := (.invokestatic 70, 3, 121, 0, 9, 0, 157)) (by rfl) (by rfl) hM1801 (by decide) ⟨Nat.le_of_ble_eq_true rfl, Nat.le_of_ble_eq_true rfl⟩ ?_
    refine mi_sem_steps mi_in117 (mi_calok_none _ _) 2 _ (8, [(0, .ref 0), (1, .int 1), (2, .int a2), (3, .int 4), (4, .int a4), (5, .int a5)], [.int 4], (0, 0), mi_G) (by rfl) ?_
    have hM1802 : mi_Met mi_N0 2 mi_h121 [.int 4] mi_G (some (.int 1)) mi_G := mi_fun_ok mi_N0 2 121 (mi_h121, mi_c121) _ _ _ _ rfl (mi_eR_ok (by decide +kernel))
    refine mi_sem_call mi_in117 (i := (.invokestatic 70, 3, 121, 0, 9, 0, 157)) (by rfl) (by rfl) hM1802 (by decide) ⟨Nat.le_of_ble_eq_true rfl, Nat.le_of_ble_eq_true rfl⟩ ?_
    refine mi_sem_steps mi_in117 (mi_calok_none _ _) 15 _ (50, [(7, .ref 112), (6, .ref 106), (0, .ref 0), (1, .int 1), (2, .int a2), (3, .int 4), (4, .int a4), (5, .int a5)], [.int (-11)], (0, 0), mi_G) (by rfl) ?_
    exact mi_sem_ret (cal := fun _ _ _ => none) mi_in117 (by rfl)
  · refine mi_met_of (y := 223) (q := (mi_h223, mi_c223)) rfl (by decide) (Nat.le_of_ble_eq_true rfl) ?_
    refine mi_sem_steps mi_in223 (mi_calok_none _ _) 1 _ (1, [(0, .ref 116), (1, .int 1), (2, .int a2), (3, .int 4), (4, .int a4), (5, .int a5)], [.int 1], (0, 0), mi_G) (by rfl) ?_
    have hM1803 : mi_Met mi_N0 2 mi_h133 [.int 1] mi_G (some (.int 1)) mi_G := mi_fun_ok mi_N0 2 133 (mi_h133, mi_c133) _ _ _ _ rfl (mi_eR_ok (by decide +kernel))
    refine mi_sem_call mi_in223 (i := (.invokestatic 127, 3, 133, 0, 9, 0, 382)) (by rfl) (by rfl) hM1803 (by decide) ⟨Nat.le_of_ble_eq_true rfl, Nat.le_of_ble_eq_true rfl⟩ ?_
    refine mi_sem_steps mi_in223 (mi_calok_none _ _) 2 _ (8, [(0, .ref 116), (1, .int 1), (2, .int a2), (3, .int 4), (4, .int a4), (5, .int a5)], [.int 4], (0, 0), mi_G) (by rfl) ?_
    have hM1804 : mi_Met mi_N0 2 mi_h133 [.int 4] mi_G (some (.int 1)) mi_G := mi_fun_ok mi_N0 2 133 (mi_h133, mi_c133) _ _ _ _ rfl (mi_eR_ok (by decide +kernel))
    refine mi_sem_call mi_in223 (i := (.invokestatic 127, 3, 133, 0, 9, 0, 382)) (by rfl) (by rfl) hM1804 (by decide) ⟨Nat.le_of_ble_eq_true rfl, Nat.le_of_ble_eq_true rfl⟩ ?_
    refine mi_sem_steps mi_in223 (mi_calok_none _ _) 8 _ (38, [(0, .ref 116), (1, .int 1), (2, .int a2), (3, .int 4), (4, .int a4), (5, .int a5)], [.int (-11)], (0, 0), mi_G) (by rfl) ?_
    exact mi_sem_ret (cal := fun _ _ _ => none) mi_in223 (by rfl)

set_option maxRecDepth 100000 in
set_option maxHeartbeats 4000000 in
theorem mp_shift_13 (a2 : Int32) (a4 : Int32) (a5 : Int32)  : mi_P 117 223 [.int 1, .int a2, .int 5, .int a4, .int a5] := by
  refine ⟨.int (-11), mi_G, mi_G, (mi_h117, mi_c117), (mi_h223, mi_c223), 3, 3, rfl, rfl, rfl, by decide, by decide, ?_, ?_⟩
  · refine mi_met_of (y := 117) (q := (mi_h117, mi_c117)) rfl (by decide) (Nat.le_of_ble_eq_true rfl) ?_
    refine mi_sem_steps mi_in117 (mi_calok_none _ _) 1 _ (1, [(0, .ref 0), (1, .int 1), (2, .int a2), (3, .int 5), (4, .int a4), (5, .int a5)], [.int 1], (0, 0), mi_G) (by rfl) ?_
    have hM1805 : mi_Met mi_N0 2 mi_h121 [.int 1] mi_G (some (.int 1)) mi_G := mi_fun_ok mi_N0 2 121 (mi_h121, mi_c121) _ _ _ _ rfl (mi_eR_ok (by decide +kernel))
    refine mi_sem_call mi_in117 (i := (.invokestatic 70, 3, 121, 0, 9, 0, 157)) (by rfl) (by rfl) hM1805 (by decide) ⟨Nat.le_of_ble_eq_true rfl, Nat.le_of_ble_eq_true rfl⟩ ?_
    refine mi_sem_steps mi_in117 (mi_calok_none _ _) 2 _ (8, [(0, .ref 0), (1, .int 1), (2, .int a2), (3, .int 5), (4, .int a4), (5, .int a5)], [.int 5], (0, 0), mi_G) (by rfl) ?_
    have hM1806 : mi_Met mi_N0 2 mi_h121 [.int 5] mi_G (some (.int 1)) mi_G := mi_fun_ok mi_N0 2 121 (mi_h121, mi_c121) _ _ _ _ rfl (mi_eR_ok (by decide +kernel))
    refine mi_sem_call mi_in117 (i := (.invokestatic 70, 3, 121, 0, 9, 0, 157)) (by rfl) (by rfl) hM1806 (by decide) ⟨Nat.le_of_ble_eq_true rfl, Nat.le_of_ble_eq_true rfl⟩ ?_
    refine mi_sem_steps mi_in117 (mi_calok_none _ _) 15 _ (50, [(7, .ref 114), (6, .ref 106), (0, .ref 0), (1, .int 1), (2, .int a2), (3, .int 5), (4, .int a4), (5, .int a5)], [.int (-11)], (0, 0), mi_G) (by rfl) ?_
    exact mi_sem_ret (cal := fun _ _ _ => none) mi_in117 (by rfl)
  · refine mi_met_of (y := 223) (q := (mi_h223, mi_c223)) rfl (by decide) (Nat.le_of_ble_eq_true rfl) ?_
    refine mi_sem_steps mi_in223 (mi_calok_none _ _) 1 _ (1, [(0, .ref 116), (1, .int 1), (2, .int a2), (3, .int 5), (4, .int a4), (5, .int a5)], [.int 1], (0, 0), mi_G) (by rfl) ?_
    have hM1807 : mi_Met mi_N0 2 mi_h133 [.int 1] mi_G (some (.int 1)) mi_G := mi_fun_ok mi_N0 2 133 (mi_h133, mi_c133) _ _ _ _ rfl (mi_eR_ok (by decide +kernel))
    refine mi_sem_call mi_in223 (i := (.invokestatic 127, 3, 133, 0, 9, 0, 382)) (by rfl) (by rfl) hM1807 (by decide) ⟨Nat.le_of_ble_eq_true rfl, Nat.le_of_ble_eq_true rfl⟩ ?_
    refine mi_sem_steps mi_in223 (mi_calok_none _ _) 2 _ (8, [(0, .ref 116), (1, .int 1), (2, .int a2), (3, .int 5), (4, .int a4), (5, .int a5)], [.int 5], (0, 0), mi_G) (by rfl) ?_
    have hM1808 : mi_Met mi_N0 2 mi_h133 [.int 5] mi_G (some (.int 1)) mi_G := mi_fun_ok mi_N0 2 133 (mi_h133, mi_c133) _ _ _ _ rfl (mi_eR_ok (by decide +kernel))
    refine mi_sem_call mi_in223 (i := (.invokestatic 127, 3, 133, 0, 9, 0, 382)) (by rfl) (by rfl) hM1808 (by decide) ⟨Nat.le_of_ble_eq_true rfl, Nat.le_of_ble_eq_true rfl⟩ ?_
    refine mi_sem_steps mi_in223 (mi_calok_none _ _) 8 _ (38, [(0, .ref 116), (1, .int 1), (2, .int a2), (3, .int 5), (4, .int a4), (5, .int a5)], [.int (-11)], (0, 0), mi_G) (by rfl) ?_
    exact mi_sem_ret (cal := fun _ _ _ => none) mi_in223 (by rfl)

set_option maxRecDepth 100000 in
set_option maxHeartbeats 4000000 in
theorem mp_shift_14 (a2 : Int32) (a4 : Int32) (a5 : Int32)  : mi_P 117 223 [.int 2, .int a2, .int 0, .int a4, .int a5] := by
  refine ⟨.int (-11), mi_G, mi_G, (mi_h117, mi_c117), (mi_h223, mi_c223), 3, 3, rfl, rfl, rfl, by decide, by decide, ?_, ?_⟩
  · refine mi_met_of (y := 117) (q := (mi_h117, mi_c117)) rfl (by decide) (Nat.le_of_ble_eq_true rfl) ?_
    refine mi_sem_steps mi_in117 (mi_calok_none _ _) 1 _ (1, [(0, .ref 0), (1, .int 2), (2, .int a2), (3, .int 0), (4, .int a4), (5, .int a5)], [.int 2], (0, 0), mi_G) (by rfl) ?_
    have hM1816 : mi_Met mi_N0 2 mi_h121 [.int 2] mi_G (some (.int 1)) mi_G := mi_fun_ok mi_N0 2 121 (mi_h121, mi_c121) _ _ _ _ rfl (mi_eR_ok (by decide +kernel))
    refine mi_sem_call mi_in117 (i := (.invokestatic 70, 3, 121, 0, 9, 0, 157)) (by rfl) (by rfl) hM1816 (by decide) ⟨Nat.le_of_ble_eq_true rfl, Nat.le_of_ble_eq_true rfl⟩ ?_
    refine mi_sem_steps mi_in117 (mi_calok_none _ _) 2 _ (8, [(0, .ref 0), (1, .int 2), (2, .int a2), (3, .int 0), (4, .int a4), (5, .int a5)], [.int 0], (0, 0), mi_G) (by rfl) ?_
    have hM1817 : mi_Met mi_N0 2 mi_h121 [.int 0] mi_G (some (.int 1)) mi_G := mi_fun_ok mi_N0 2 121 (mi_h121, mi_c121) _ _ _ _ rfl (mi_eR_ok (by decide +kernel))
    refine mi_sem_call mi_in117 (i := (.invokestatic 70, 3, 121, 0, 9, 0, 157)) (by rfl) (by rfl) hM1817 (by decide) ⟨Nat.le_of_ble_eq_true rfl, Nat.le_of_ble_eq_true rfl⟩ ?_
    refine mi_sem_steps mi_in117 (mi_calok_none _ _) 15 _ (50, [(7, .ref 104), (6, .ref 108), (0, .ref 0), (1, .int 2), (2, .int a2), (3, .int 0), (4, .int a4), (5, .int a5)], [.int (-11)], (0, 0), mi_G) (by rfl) ?_
    exact mi_sem_ret (cal := fun _ _ _ => none) mi_in117 (by rfl)
  · refine mi_met_of (y := 223) (q := (mi_h223, mi_c223)) rfl (by decide) (Nat.le_of_ble_eq_true rfl) ?_
    refine mi_sem_steps mi_in223 (mi_calok_none _ _) 1 _ (1, [(0, .ref 116), (1, .int 2), (2, .int a2), (3, .int 0), (4, .int a4), (5, .int a5)], [.int 2], (0, 0), mi_G) (by rfl) ?_
    have hM1818 : mi_Met mi_N0 2 mi_h133 [.int 2] mi_G (some (.int 1)) mi_G := mi_fun_ok mi_N0 2 133 (mi_h133, mi_c133) _ _ _ _ rfl (mi_eR_ok (by decide +kernel))
    refine mi_sem_call mi_in223 (i := (.invokestatic 127, 3, 133, 0, 9, 0, 382)) (by rfl) (by rfl) hM1818 (by decide) ⟨Nat.le_of_ble_eq_true rfl, Nat.le_of_ble_eq_true rfl⟩ ?_
    refine mi_sem_steps mi_in223 (mi_calok_none _ _) 2 _ (8, [(0, .ref 116), (1, .int 2), (2, .int a2), (3, .int 0), (4, .int a4), (5, .int a5)], [.int 0], (0, 0), mi_G) (by rfl) ?_
    have hM1819 : mi_Met mi_N0 2 mi_h133 [.int 0] mi_G (some (.int 1)) mi_G := mi_fun_ok mi_N0 2 133 (mi_h133, mi_c133) _ _ _ _ rfl (mi_eR_ok (by decide +kernel))
    refine mi_sem_call mi_in223 (i := (.invokestatic 127, 3, 133, 0, 9, 0, 382)) (by rfl) (by rfl) hM1819 (by decide) ⟨Nat.le_of_ble_eq_true rfl, Nat.le_of_ble_eq_true rfl⟩ ?_
    refine mi_sem_steps mi_in223 (mi_calok_none _ _) 8 _ (38, [(0, .ref 116), (1, .int 2), (2, .int a2), (3, .int 0), (4, .int a4), (5, .int a5)], [.int (-11)], (0, 0), mi_G) (by rfl) ?_
    exact mi_sem_ret (cal := fun _ _ _ => none) mi_in223 (by rfl)

set_option maxRecDepth 100000 in
set_option maxHeartbeats 4000000 in
theorem mp_shift_15 (a2 : Int32) (a4 : Int32) (a5 : Int32)  : mi_P 117 223 [.int 2, .int a2, .int 1, .int a4, .int a5] := by
  refine ⟨.int (-11), mi_G, mi_G, (mi_h117, mi_c117), (mi_h223, mi_c223), 3, 3, rfl, rfl, rfl, by decide, by decide, ?_, ?_⟩
  · refine mi_met_of (y := 117) (q := (mi_h117, mi_c117)) rfl (by decide) (Nat.le_of_ble_eq_true rfl) ?_
    refine mi_sem_steps mi_in117 (mi_calok_none _ _) 1 _ (1, [(0, .ref 0), (1, .int 2), (2, .int a2), (3, .int 1), (4, .int a4), (5, .int a5)], [.int 2], (0, 0), mi_G) (by rfl) ?_
    have hM1823 : mi_Met mi_N0 2 mi_h121 [.int 2] mi_G (some (.int 1)) mi_G := mi_fun_ok mi_N0 2 121 (mi_h121, mi_c121) _ _ _ _ rfl (mi_eR_ok (by decide +kernel))
    refine mi_sem_call mi_in117 (i := (.invokestatic 70, 3, 121, 0, 9, 0, 157)) (by rfl) (by rfl) hM1823 (by decide) ⟨Nat.le_of_ble_eq_true rfl, Nat.le_of_ble_eq_true rfl⟩ ?_
    refine mi_sem_steps mi_in117 (mi_calok_none _ _) 2 _ (8, [(0, .ref 0), (1, .int 2), (2, .int a2), (3, .int 1), (4, .int a4), (5, .int a5)], [.int 1], (0, 0), mi_G) (by rfl) ?_
    have hM1824 : mi_Met mi_N0 2 mi_h121 [.int 1] mi_G (some (.int 1)) mi_G := mi_fun_ok mi_N0 2 121 (mi_h121, mi_c121) _ _ _ _ rfl (mi_eR_ok (by decide +kernel))
    refine mi_sem_call mi_in117 (i := (.invokestatic 70, 3, 121, 0, 9, 0, 157)) (by rfl) (by rfl) hM1824 (by decide) ⟨Nat.le_of_ble_eq_true rfl, Nat.le_of_ble_eq_true rfl⟩ ?_
    refine mi_sem_steps mi_in117 (mi_calok_none _ _) 15 _ (50, [(7, .ref 106), (6, .ref 108), (0, .ref 0), (1, .int 2), (2, .int a2), (3, .int 1), (4, .int a4), (5, .int a5)], [.int (-11)], (0, 0), mi_G) (by rfl) ?_
    exact mi_sem_ret (cal := fun _ _ _ => none) mi_in117 (by rfl)
  · refine mi_met_of (y := 223) (q := (mi_h223, mi_c223)) rfl (by decide) (Nat.le_of_ble_eq_true rfl) ?_
    refine mi_sem_steps mi_in223 (mi_calok_none _ _) 1 _ (1, [(0, .ref 116), (1, .int 2), (2, .int a2), (3, .int 1), (4, .int a4), (5, .int a5)], [.int 2], (0, 0), mi_G) (by rfl) ?_
    have hM1825 : mi_Met mi_N0 2 mi_h133 [.int 2] mi_G (some (.int 1)) mi_G := mi_fun_ok mi_N0 2 133 (mi_h133, mi_c133) _ _ _ _ rfl (mi_eR_ok (by decide +kernel))
    refine mi_sem_call mi_in223 (i := (.invokestatic 127, 3, 133, 0, 9, 0, 382)) (by rfl) (by rfl) hM1825 (by decide) ⟨Nat.le_of_ble_eq_true rfl, Nat.le_of_ble_eq_true rfl⟩ ?_
    refine mi_sem_steps mi_in223 (mi_calok_none _ _) 2 _ (8, [(0, .ref 116), (1, .int 2), (2, .int a2), (3, .int 1), (4, .int a4), (5, .int a5)], [.int 1], (0, 0), mi_G) (by rfl) ?_
    have hM1826 : mi_Met mi_N0 2 mi_h133 [.int 1] mi_G (some (.int 1)) mi_G := mi_fun_ok mi_N0 2 133 (mi_h133, mi_c133) _ _ _ _ rfl (mi_eR_ok (by decide +kernel))
    refine mi_sem_call mi_in223 (i := (.invokestatic 127, 3, 133, 0, 9, 0, 382)) (by rfl) (by rfl) hM1826 (by decide) ⟨Nat.le_of_ble_eq_true rfl, Nat.le_of_ble_eq_true rfl⟩ ?_
    refine mi_sem_steps mi_in223 (mi_calok_none _ _) 8 _ (38, [(0, .ref 116), (1, .int 2), (2, .int a2), (3, .int 1), (4, .int a4), (5, .int a5)], [.int (-11)], (0, 0), mi_G) (by rfl) ?_
    exact mi_sem_ret (cal := fun _ _ _ => none) mi_in223 (by rfl)

set_option maxRecDepth 100000 in
set_option maxHeartbeats 4000000 in
theorem mp_shift_16 (a2 : Int32) (a4 : Int32) (a5 : Int32)  : mi_P 117 223 [.int 2, .int a2, .int 2, .int a4, .int a5] := by
  refine ⟨.int (-11), mi_G, mi_G, (mi_h117, mi_c117), (mi_h223, mi_c223), 3, 3, rfl, rfl, rfl, by decide, by decide, ?_, ?_⟩
  · refine mi_met_of (y := 117) (q := (mi_h117, mi_c117)) rfl (by decide) (Nat.le_of_ble_eq_true rfl) ?_
    refine mi_sem_steps mi_in117 (mi_calok_none _ _) 1 _ (1, [(0, .ref 0), (1, .int 2), (2, .int a2), (3, .int 2), (4, .int a4), (5, .int a5)], [.int 2], (0, 0), mi_G) (by rfl) ?_
    have hM1830 : mi_Met mi_N0 2 mi_h121 [.int 2] mi_G (some (.int 1)) mi_G := mi_fun_ok mi_N0 2 121 (mi_h121, mi_c121) _ _ _ _ rfl (mi_eR_ok (by decide +kernel))
    refine mi_sem_call mi_in117 (i := (.invokestatic 70, 3, 121, 0, 9, 0, 157)) (by rfl) (by rfl) hM1830 (by decide) ⟨Nat.le_of_ble_eq_true rfl, Nat.le_of_ble_eq_true rfl⟩ ?_
    refine mi_sem_steps mi_in117 (mi_calok_none _ _) 2 _ (8, [(0, .ref 0), (1, .int 2), (2, .int a2), (3, .int 2), (4, .int a4), (5, .int a5)], [.int 2], (0, 0), mi_G) (by rfl) ?_
    have hM1831 : mi_Met mi_N0 2 mi_h121 [.int 2] mi_G (some (.int 1)) mi_G := mi_fun_ok mi_N0 2 121 (mi_h121, mi_c121) _ _ _ _ rfl (mi_eR_ok (by decide +kernel))
    refine mi_sem_call mi_in117 (i := (.invokestatic 70, 3, 121, 0, 9, 0, 157)) (by rfl) (by rfl) hM1831 (by decide) ⟨Nat.le_of_ble_eq_true rfl, Nat.le_of_ble_eq_true rfl⟩ ?_
    refine mi_sem_steps mi_in117 (mi_calok_none _ _) 15 _ (50, [(7, .ref 108), (6, .ref 108), (0, .ref 0), (1, .int 2), (2, .int a2), (3, .int 2), (4, .int a4), (5, .int a5)], [.int (-11)], (0, 0), mi_G) (by rfl) ?_
    exact mi_sem_ret (cal := fun _ _ _ => none) mi_in117 (by rfl)
  · refine mi_met_of (y := 223) (q := (mi_h223, mi_c223)) rfl (by decide) (Nat.le_of_ble_eq_true rfl) ?_
    refine mi_sem_steps mi_in223 (mi_calok_none _ _) 1 _ (1, [(0, .ref 116), (1, .int 2), (2, .int a2), (3, .int 2), (4, .int a4), (5, .int a5)], [.int 2], (0, 0), mi_G) (by rfl) ?_
    have hM1832 : mi_Met mi_N0 2 mi_h133 [.int 2] mi_G (some (.int 1)) mi_G := mi_fun_ok mi_N0 2 133 (mi_h133, mi_c133) _ _ _ _ rfl (mi_eR_ok (by decide +kernel))
    refine mi_sem_call mi_in223 (i := (.invokestatic 127, 3, 133, 0, 9, 0, 382)) (by rfl) (by rfl) hM1832 (by decide) ⟨Nat.le_of_ble_eq_true rfl, Nat.le_of_ble_eq_true rfl⟩ ?_
    refine mi_sem_steps mi_in223 (mi_calok_none _ _) 2 _ (8, [(0, .ref 116), (1, .int 2), (2, .int a2), (3, .int 2), (4, .int a4), (5, .int a5)], [.int 2], (0, 0), mi_G) (by rfl) ?_
    have hM1833 : mi_Met mi_N0 2 mi_h133 [.int 2] mi_G (some (.int 1)) mi_G := mi_fun_ok mi_N0 2 133 (mi_h133, mi_c133) _ _ _ _ rfl (mi_eR_ok (by decide +kernel))
    refine mi_sem_call mi_in223 (i := (.invokestatic 127, 3, 133, 0, 9, 0, 382)) (by rfl) (by rfl) hM1833 (by decide) ⟨Nat.le_of_ble_eq_true rfl, Nat.le_of_ble_eq_true rfl⟩ ?_
    refine mi_sem_steps mi_in223 (mi_calok_none _ _) 8 _ (38, [(0, .ref 116), (1, .int 2), (2, .int a2), (3, .int 2), (4, .int a4), (5, .int a5)], [.int (-11)], (0, 0), mi_G) (by rfl) ?_
    exact mi_sem_ret (cal := fun _ _ _ => none) mi_in223 (by rfl)

set_option maxRecDepth 100000 in
set_option maxHeartbeats 4000000 in
theorem mp_shift_17 (a2 : Int32) (a4 : Int32) (a5 : Int32)  : mi_P 117 223 [.int 2, .int a2, .int 3, .int a4, .int a5] := by
  refine ⟨.int (-11), mi_G, mi_G, (mi_h117, mi_c117), (mi_h223, mi_c223), 3, 3, rfl, rfl, rfl, by decide, by decide, ?_, ?_⟩
  · refine mi_met_of (y := 117) (q := (mi_h117, mi_c117)) rfl (by decide) (Nat.le_of_ble_eq_true rfl) ?_
    refine mi_sem_steps mi_in117 (mi_calok_none _ _) 1 _ (1, [(0, .ref 0), (1, .int 2), (2, .int a2), (3, .int 3), (4, .int a4), (5, .int a5)], [.int 2], (0, 0), mi_G) (by rfl) ?_
    have hM1837 : mi_Met mi_N0 2 mi_h121 [.int 2] mi_G (some (.int 1)) mi_G := mi_fun_ok mi_N0 2 121 (mi_h121, mi_c121) _ _ _ _ rfl (mi_eR_ok (by decide +kernel))
    refine mi_sem_call mi_in117 (i := (.invokestatic 70, 3, 121, 0, 9, 0, 157)) (by rfl) (by rfl) hM1837 (by decide) ⟨Nat.le_of_ble_eq_true rfl, Nat.le_of_ble_eq_true rfl⟩ ?_
    refine mi_sem_steps mi_in117 (mi_calok_none _ _) 2 _ (8, [(0, .ref 0), (1, .int 2), (2, .int a2), (3, .int 3), (4, .int a4), (5, .int a5)], [.int 3], (0, 0), mi_G) (by rfl) ?_
    have hM1838 : mi_Met mi_N0 2 mi_h121 [.int 3] mi_G (some (.int 1)) mi_G := mi_fun_ok mi_N0 2 121 (mi_h121, mi_c121) _ _ _ _ rfl (mi_eR_ok (by decide +kernel))
    refine mi_sem_call mi_in117 (i := (.invokestatic 70, 3, 121, 0, 9, 0, 157)) (by rfl) (by rfl) hM1838 (by decide) ⟨Nat.le_of_ble_eq_true rfl, Nat.le_of_ble_eq_true rfl⟩ ?_
    refine mi_sem_steps mi_in117 (mi_calok_none _ _) 15 _ (50, [(7, .ref 110), (6, .ref 108), (0, .ref 0), (1, .int 2), (2, .int a2), (3, .int 3), (4, .int a4), (5, .int a5)], [.int (-11)], (0, 0), mi_G) (by rfl) ?_
    exact mi_sem_ret (cal := fun _ _ _ => none) mi_in117 (by rfl)
  · refine mi_met_of (y := 223) (q := (mi_h223, mi_c223)) rfl (by decide) (Nat.le_of_ble_eq_true rfl) ?_
    refine mi_sem_steps mi_in223 (mi_calok_none _ _) 1 _ (1, [(0, .ref 116), (1, .int 2), (2, .int a2), (3, .int 3), (4, .int a4), (5, .int a5)], [.int 2], (0, 0), mi_G) (by rfl) ?_
    have hM1839 : mi_Met mi_N0 2 mi_h133 [.int 2] mi_G (some (.int 1)) mi_G := mi_fun_ok mi_N0 2 133 (mi_h133, mi_c133) _ _ _ _ rfl (mi_eR_ok (by decide +kernel))
    refine mi_sem_call mi_in223 (i := (.invokestatic 127, 3, 133, 0, 9, 0, 382)) (by rfl) (by rfl) hM1839 (by decide) ⟨Nat.le_of_ble_eq_true rfl, Nat.le_of_ble_eq_true rfl⟩ ?_
    refine mi_sem_steps mi_in223 (mi_calok_none _ _) 2 _ (8, [(0, .ref 116), (1, .int 2), (2, .int a2), (3, .int 3), (4, .int a4), (5, .int a5)], [.int 3], (0, 0), mi_G) (by rfl) ?_
    have hM1840 : mi_Met mi_N0 2 mi_h133 [.int 3] mi_G (some (.int 1)) mi_G := mi_fun_ok mi_N0 2 133 (mi_h133, mi_c133) _ _ _ _ rfl (mi_eR_ok (by decide +kernel))
    refine mi_sem_call mi_in223 (i := (.invokestatic 127, 3, 133, 0, 9, 0, 382)) (by rfl) (by rfl) hM1840 (by decide) ⟨Nat.le_of_ble_eq_true rfl, Nat.le_of_ble_eq_true rfl⟩ ?_
    refine mi_sem_steps mi_in223 (mi_calok_none _ _) 8 _ (38, [(0, .ref 116), (1, .int 2), (2, .int a2), (3, .int 3), (4, .int a4), (5, .int a5)], [.int (-11)], (0, 0), mi_G) (by rfl) ?_
    exact mi_sem_ret (cal := fun _ _ _ => none) mi_in223 (by rfl)

set_option maxRecDepth 100000 in
set_option maxHeartbeats 4000000 in
theorem mp_shift_18 (a2 : Int32) (a4 : Int32) (a5 : Int32)  : mi_P 117 223 [.int 2, .int a2, .int 4, .int a4, .int a5] := by
  refine ⟨.int (-11), mi_G, mi_G, (mi_h117, mi_c117), (mi_h223, mi_c223), 3, 3, rfl, rfl, rfl, by decide, by decide, ?_, ?_⟩
  · refine mi_met_of (y := 117) (q := (mi_h117, mi_c117)) rfl (by decide) (Nat.le_of_ble_eq_true rfl) ?_
    refine mi_sem_steps mi_in117 (mi_calok_none _ _) 1 _ (1, [(0, .ref 0), (1, .int 2), (2, .int a2), (3, .int 4), (4, .int a4), (5, .int a5)], [.int 2], (0, 0), mi_G) (by rfl) ?_
    have hM1844 : mi_Met mi_N0 2 mi_h121 [.int 2] mi_G (some (.int 1)) mi_G := mi_fun_ok mi_N0 2 121 (mi_h121, mi_c121) _ _ _ _ rfl (mi_eR_ok (by decide +kernel))
    refine mi_sem_call mi_in117 (i := (.invokestatic 70, 3, 121, 0, 9, 0, 157)) (by rfl) (by rfl) hM1844 (by decide) ⟨Nat.le_of_ble_eq_true rfl, Nat.le_of_ble_eq_true rfl⟩ ?_
    refine mi_sem_steps mi_in117 (mi_calok_none _ _) 2 _ (8, [(0, .ref 0), (1, .int 2), (2, .int a2), (3, .int 4), (4, .int a4), (5, .int a5)], [.int 4], (0, 0), mi_G) (by rfl) ?_
    have hM1845 : mi_Met mi_N0 2 mi_h121 [.int 4] mi_G (some (.int 1)) mi_G := mi_fun_ok mi_N0 2 121 (mi_h121, mi_c121) _ _ _ _ rfl (mi_eR_ok (by decide +kernel))
    refine mi_sem_call mi_in117 (i := (.invokestatic 70, 3, 121, 0, 9, 0, 157)) (by rfl) (by rfl) hM1845 (by decide) ⟨Nat.le_of_ble_eq_true rfl, Nat.le_of_ble_eq_true rfl⟩ ?_
    refine mi_sem_steps mi_in117 (mi_calok_none _ _) 15 _ (50, [(7, .ref 112), (6, .ref 108), (0, .ref 0), (1, .int 2), (2, .int a2), (3, .int 4), (4, .int a4), (5, .int a5)], [.int (-11)], (0, 0), mi_G) (by rfl) ?_
    exact mi_sem_ret (cal := fun _ _ _ => none) mi_in117 (by rfl)
  · refine mi_met_of (y := 223) (q := (mi_h223, mi_c223)) rfl (by decide) (Nat.le_of_ble_eq_true rfl) ?_
    refine mi_sem_steps mi_in223 (mi_calok_none _ _) 1 _ (1, [(0, .ref 116), (1, .int 2), (2, .int a2), (3, .int 4), (4, .int a4), (5, .int a5)], [.int 2], (0, 0), mi_G) (by rfl) ?_
    have hM1846 : mi_Met mi_N0 2 mi_h133 [.int 2] mi_G (some (.int 1)) mi_G := mi_fun_ok mi_N0 2 133 (mi_h133, mi_c133) _ _ _ _ rfl (mi_eR_ok (by decide +kernel))
    refine mi_sem_call mi_in223 (i := (.invokestatic 127, 3, 133, 0, 9, 0, 382)) (by rfl) (by rfl) hM1846 (by decide) ⟨Nat.le_of_ble_eq_true rfl, Nat.le_of_ble_eq_true rfl⟩ ?_
    refine mi_sem_steps mi_in223 (mi_calok_none _ _) 2 _ (8, [(0, .ref 116), (1, .int 2), (2, .int a2), (3, .int 4), (4, .int a4), (5, .int a5)], [.int 4], (0, 0), mi_G) (by rfl) ?_
    have hM1847 : mi_Met mi_N0 2 mi_h133 [.int 4] mi_G (some (.int 1)) mi_G := mi_fun_ok mi_N0 2 133 (mi_h133, mi_c133) _ _ _ _ rfl (mi_eR_ok (by decide +kernel))
    refine mi_sem_call mi_in223 (i := (.invokestatic 127, 3, 133, 0, 9, 0, 382)) (by rfl) (by rfl) hM1847 (by decide) ⟨Nat.le_of_ble_eq_true rfl, Nat.le_of_ble_eq_true rfl⟩ ?_
    refine mi_sem_steps mi_in223 (mi_calok_none _ _) 8 _ (38, [(0, .ref 116), (1, .int 2), (2, .int a2), (3, .int 4), (4, .int a4), (5, .int a5)], [.int (-11)], (0, 0), mi_G) (by rfl) ?_
    exact mi_sem_ret (cal := fun _ _ _ => none) mi_in223 (by rfl)

set_option maxRecDepth 100000 in
set_option maxHeartbeats 4000000 in
theorem mp_shift_19 (a2 : Int32) (a4 : Int32) (a5 : Int32)  : mi_P 117 223 [.int 2, .int a2, .int 5, .int a4, .int a5] := by
  refine ⟨.int (-11), mi_G, mi_G, (mi_h117, mi_c117), (mi_h223, mi_c223), 3, 3, rfl, rfl, rfl, by decide, by decide, ?_, ?_⟩
  · refine mi_met_of (y := 117) (q := (mi_h117, mi_c117)) rfl (by decide) (Nat.le_of_ble_eq_true rfl) ?_
    refine mi_sem_steps mi_in117 (mi_calok_none _ _) 1 _ (1, [(0, .ref 0), (1, .int 2), (2, .int a2), (3, .int 5), (4, .int a4), (5, .int a5)], [.int 2], (0, 0), mi_G) (by rfl) ?_
    have hM1848 : mi_Met mi_N0 2 mi_h121 [.int 2] mi_G (some (.int 1)) mi_G := mi_fun_ok mi_N0 2 121 (mi_h121, mi_c121) _ _ _ _ rfl (mi_eR_ok (by decide +kernel))
    refine mi_sem_call mi_in117 (i := (.invokestatic 70, 3, 121, 0, 9, 0, 157)) (by rfl) (by rfl) hM1848 (by decide) ⟨Nat.le_of_ble_eq_true rfl, Nat.le_of_ble_eq_true rfl⟩ ?_
    refine mi_sem_steps mi_in117 (mi_calok_none _ _) 2 _ (8, [(0, .ref 0), (1, .int 2), (2, .int a2), (3, .int 5), (4, .int a4), (5, .int a5)], [.int 5], (0, 0), mi_G) (by rfl) ?_
    have hM1849 : mi_Met mi_N0 2 mi_h121 [.int 5] mi_G (some (.int 1)) mi_G := mi_fun_ok mi_N0 2 121 (mi_h121, mi_c121) _ _ _ _ rfl (mi_eR_ok (by decide +kernel))
    refine mi_sem_call mi_in117 (i := (.invokestatic 70, 3, 121, 0, 9, 0, 157)) (by rfl) (by rfl) hM1849 (by decide) ⟨Nat.le_of_ble_eq_true rfl, Nat.le_of_ble_eq_true rfl⟩ ?_
    refine mi_sem_steps mi_in117 (mi_calok_none _ _) 15 _ (50, [(7, .ref 114), (6, .ref 108), (0, .ref 0), (1, .int 2), (2, .int a2), (3, .int 5), (4, .int a4), (5, .int a5)], [.int (-11)], (0, 0), mi_G) (by rfl) ?_
    exact mi_sem_ret (cal := fun _ _ _ => none) mi_in117 (by rfl)
  · refine mi_met_of (y := 223) (q := (mi_h223, mi_c223)) rfl (by decide) (Nat.le_of_ble_eq_true rfl) ?_
    refine mi_sem_steps mi_in223 (mi_calok_none _ _) 1 _ (1, [(0, .ref 116), (1, .int 2), (2, .int a2), (3, .int 5), (4, .int a4), (5, .int a5)], [.int 2], (0, 0), mi_G) (by rfl) ?_
    have hM1850 : mi_Met mi_N0 2 mi_h133 [.int 2] mi_G (some (.int 1)) mi_G := mi_fun_ok mi_N0 2 133 (mi_h133, mi_c133) _ _ _ _ rfl (mi_eR_ok (by decide +kernel))
    refine mi_sem_call mi_in223 (i := (.invokestatic 127, 3, 133, 0, 9, 0, 382)) (by rfl) (by rfl) hM1850 (by decide) ⟨Nat.le_of_ble_eq_true rfl, Nat.le_of_ble_eq_true rfl⟩ ?_
    refine mi_sem_steps mi_in223 (mi_calok_none _ _) 2 _ (8, [(0, .ref 116), (1, .int 2), (2, .int a2), (3, .int 5), (4, .int a4), (5, .int a5)], [.int 5], (0, 0), mi_G) (by rfl) ?_
    have hM1851 : mi_Met mi_N0 2 mi_h133 [.int 5] mi_G (some (.int 1)) mi_G := mi_fun_ok mi_N0 2 133 (mi_h133, mi_c133) _ _ _ _ rfl (mi_eR_ok (by decide +kernel))
    refine mi_sem_call mi_in223 (i := (.invokestatic 127, 3, 133, 0, 9, 0, 382)) (by rfl) (by rfl) hM1851 (by decide) ⟨Nat.le_of_ble_eq_true rfl, Nat.le_of_ble_eq_true rfl⟩ ?_
    refine mi_sem_steps mi_in223 (mi_calok_none _ _) 8 _ (38, [(0, .ref 116), (1, .int 2), (2, .int a2), (3, .int 5), (4, .int a4), (5, .int a5)], [.int (-11)], (0, 0), mi_G) (by rfl) ?_
    exact mi_sem_ret (cal := fun _ _ _ => none) mi_in223 (by rfl)

set_option maxRecDepth 100000 in
set_option maxHeartbeats 4000000 in
theorem mp_shift_20 (a2 : Int32) (a4 : Int32) (a5 : Int32)  : mi_P 117 223 [.int 3, .int a2, .int 0, .int a4, .int a5] := by
  refine ⟨.int (-11), mi_G, mi_G, (mi_h117, mi_c117), (mi_h223, mi_c223), 3, 3, rfl, rfl, rfl, by decide, by decide, ?_, ?_⟩
  · refine mi_met_of (y := 117) (q := (mi_h117, mi_c117)) rfl (by decide) (Nat.le_of_ble_eq_true rfl) ?_
    refine mi_sem_steps mi_in117 (mi_calok_none _ _) 1 _ (1, [(0, .ref 0), (1, .int 3), (2, .int a2), (3, .int 0), (4, .int a4), (5, .int a5)], [.int 3], (0, 0), mi_G) (by rfl) ?_
    have hM1859 : mi_Met mi_N0 2 mi_h121 [.int 3] mi_G (some (.int 1)) mi_G := mi_fun_ok mi_N0 2 121 (mi_h121, mi_c121) _ _ _ _ rfl (mi_eR_ok (by decide +kernel))
    refine mi_sem_call mi_in117 (i := (.invokestatic 70, 3, 121, 0, 9, 0, 157)) (by rfl) (by rfl) hM1859 (by decide) ⟨Nat.le_of_ble_eq_true rfl, Nat.le_of_ble_eq_true rfl⟩ ?_
    refine mi_sem_steps mi_in117 (mi_calok_none _ _) 2 _ (8, [(0, .ref 0), (1, .int 3), (2, .int a2), (3, .int 0), (4, .int a4), (5, .int a5)], [.int 0], (0, 0), mi_G) (by rfl) ?_
    have hM1860 : mi_Met mi_N0 2 mi_h121 [.int 0] mi_G (some (.int 1)) mi_G := mi_fun_ok mi_N0 2 121 (mi_h121, mi_c121) _ _ _ _ rfl (mi_eR_ok (by decide +kernel))
    refine mi_sem_call mi_in117 (i := (.invokestatic 70, 3, 121, 0, 9, 0, 157)) (by rfl) (by rfl) hM1860 (by decide) ⟨Nat.le_of_ble_eq_true rfl, Nat.le_of_ble_eq_true rfl⟩ ?_
    refine mi_sem_steps mi_in117 (mi_calok_none _ _) 15 _ (50, [(7, .ref 104), (6, .ref 110), (0, .ref 0), (1, .int 3), (2, .int a2), (3, .int 0), (4, .int a4), (5, .int a5)], [.int (-11)], (0, 0), mi_G) (by rfl) ?_
    exact mi_sem_ret (cal := fun _ _ _ => none) mi_in117 (by rfl)
  · refine mi_met_of (y := 223) (q := (mi_h223, mi_c223)) rfl (by decide) (Nat.le_of_ble_eq_true rfl) ?_
    refine mi_sem_steps mi_in223 (mi_calok_none _ _) 1 _ (1, [(0, .ref 116), (1, .int 3), (2, .int a2), (3, .int 0), (4, .int a4), (5, .int a5)], [.int 3], (0, 0), mi_G) (by rfl) ?_
    have hM1861 : mi_Met mi_N0 2 mi_h133 [.int 3] mi_G (some (.int 1)) mi_G := mi_fun_ok mi_N0 2 133 (mi_h133, mi_c133) _ _ _ _ rfl (mi_eR_ok (by decide +kernel))
    refine mi_sem_call mi_in223 (i := (.invokestatic 127, 3, 133, 0, 9, 0, 382)) (by rfl) (by rfl) hM1861 (by decide) ⟨Nat.le_of_ble_eq_true rfl, Nat.le_of_ble_eq_true rfl⟩ ?_
    refine mi_sem_steps mi_in223 (mi_calok_none _ _) 2 _ (8, [(0, .ref 116), (1, .int 3), (2, .int a2), (3, .int 0), (4, .int a4), (5, .int a5)], [.int 0], (0, 0), mi_G) (by rfl) ?_
    have hM1862 : mi_Met mi_N0 2 mi_h133 [.int 0] mi_G (some (.int 1)) mi_G := mi_fun_ok mi_N0 2 133 (mi_h133, mi_c133) _ _ _ _ rfl (mi_eR_ok (by decide +kernel))
    refine mi_sem_call mi_in223 (i := (.invokestatic 127, 3, 133, 0, 9, 0, 382)) (by rfl) (by rfl) hM1862 (by decide) ⟨Nat.le_of_ble_eq_true rfl, Nat.le_of_ble_eq_true rfl⟩ ?_
    refine mi_sem_steps mi_in223 (mi_calok_none _ _) 8 _ (38, [(0, .ref 116), (1, .int 3), (2, .int a2), (3, .int 0), (4, .int a4), (5, .int a5)], [.int (-11)], (0, 0), mi_G) (by rfl) ?_
    exact mi_sem_ret (cal := fun _ _ _ => none) mi_in223 (by rfl)

set_option maxRecDepth 100000 in
set_option maxHeartbeats 4000000 in
theorem mp_shift_21 (a2 : Int32) (a4 : Int32) (a5 : Int32)  : mi_P 117 223 [.int 3, .int a2, .int 1, .int a4, .int a5] := by
  refine ⟨.int (-11), mi_G, mi_G, (mi_h117, mi_c117), (mi_h223, mi_c223), 3, 3, rfl, rfl, rfl, by decide, by decide, ?_, ?_⟩
  · refine mi_met_of (y := 117) (q := (mi_h117, mi_c117)) rfl (by decide) (Nat.le_of_ble_eq_true rfl) ?_
    refine mi_sem_steps mi_in117 (mi_calok_none _ _) 1 _ (1, [(0, .ref 0), (1, .int 3), (2, .int a2), (3, .int 1), (4, .int a4), (5, .int a5)], [.int 3], (0, 0), mi_G) (by rfl) ?_
    have hM1866 : mi_Met mi_N0 2 mi_h121 [.int 3] mi_G (some (.int 1)) mi_G := mi_fun_ok mi_N0 2 121 (mi_h121, mi_c121) _ _ _ _ rfl (mi_eR_ok (by decide +kernel))
    refine mi_sem_call mi_in117 (i := (.invokestatic 70, 3, 121, 0, 9, 0, 157)) (by rfl) (by rfl) hM1866 (by decide) ⟨Nat.le_of_ble_eq_true rfl, Nat.le_of_ble_eq_true rfl⟩ ?_
    refine mi_sem_steps mi_in117 (mi_calok_none _ _) 2 _ (8, [(0, .ref 0), (1, .int 3), (2, .int a2), (3, .int 1), (4, .int a4), (5, .int a5)], [.int 1], (0, 0), mi_G) (by rfl) ?_
    have hM1867 : mi_Met mi_N0 2 mi_h121 [.int 1] mi_G (some (.int 1)) mi_G := mi_fun_ok mi_N0 2 121 (mi_h121, mi_c121) _ _ _ _ rfl (mi_eR_ok (by decide +kernel))
    refine mi_sem_call mi_in117 (i := (.invokestatic 70, 3, 121, 0, 9, 0, 157)) (by rfl) (by rfl) hM1867 (by decide) ⟨Nat.le_of_ble_eq_true rfl, Nat.le_of_ble_eq_true rfl⟩ ?_
    refine mi_sem_steps mi_in117 (mi_calok_none _ _) 15 _ (50, [(7, .ref 106), (6, .ref 110), (0, .ref 0), (1, .int 3), (2, .int a2), (3, .int 1), (4, .int a4), (5, .int a5)], [.int (-11)], (0, 0), mi_G) (by rfl) ?_
    exact mi_sem_ret (cal := fun _ _ _ => none) mi_in117 (by rfl)
  · refine mi_met_of (y := 223) (q := (mi_h223, mi_c223)) rfl (by decide) (Nat.le_of_ble_eq_true rfl) ?_
    refine mi_sem_steps mi_in223 (mi_calok_none _ _) 1 _ (1, [(0, .ref 116), (1, .int 3), (2, .int a2), (3, .int 1), (4, .int a4), (5, .int a5)], [.int 3], (0, 0), mi_G) (by rfl) ?_
    have hM1868 : mi_Met mi_N0 2 mi_h133 [.int 3] mi_G (some (.int 1)) mi_G := mi_fun_ok mi_N0 2 133 (mi_h133, mi_c133) _ _ _ _ rfl (mi_eR_ok (by decide +kernel))
    refine mi_sem_call mi_in223 (i := (.invokestatic 127, 3, 133, 0, 9, 0, 382)) (by rfl) (by rfl) hM1868 (by decide) ⟨Nat.le_of_ble_eq_true rfl, Nat.le_of_ble_eq_true rfl⟩ ?_
    refine mi_sem_steps mi_in223 (mi_calok_none _ _) 2 _ (8, [(0, .ref 116), (1, .int 3), (2, .int a2), (3, .int 1), (4, .int a4), (5, .int a5)], [.int 1], (0, 0), mi_G) (by rfl) ?_
    have hM1869 : mi_Met mi_N0 2 mi_h133 [.int 1] mi_G (some (.int 1)) mi_G := mi_fun_ok mi_N0 2 133 (mi_h133, mi_c133) _ _ _ _ rfl (mi_eR_ok (by decide +kernel))
    refine mi_sem_call mi_in223 (i := (.invokestatic 127, 3, 133, 0, 9, 0, 382)) (by rfl) (by rfl) hM1869 (by decide) ⟨Nat.le_of_ble_eq_true rfl, Nat.le_of_ble_eq_true rfl⟩ ?_
    refine mi_sem_steps mi_in223 (mi_calok_none _ _) 8 _ (38, [(0, .ref 116), (1, .int 3), (2, .int a2), (3, .int 1), (4, .int a4), (5, .int a5)], [.int (-11)], (0, 0), mi_G) (by rfl) ?_
    exact mi_sem_ret (cal := fun _ _ _ => none) mi_in223 (by rfl)

set_option maxRecDepth 100000 in
set_option maxHeartbeats 4000000 in
theorem mp_shift_22 (a2 : Int32) (a4 : Int32) (a5 : Int32)  : mi_P 117 223 [.int 3, .int a2, .int 2, .int a4, .int a5] := by
  refine ⟨.int (-11), mi_G, mi_G, (mi_h117, mi_c117), (mi_h223, mi_c223), 3, 3, rfl, rfl, rfl, by decide, by decide, ?_, ?_⟩
  · refine mi_met_of (y := 117) (q := (mi_h117, mi_c117)) rfl (by decide) (Nat.le_of_ble_eq_true rfl) ?_
    refine mi_sem_steps mi_in117 (mi_calok_none _ _) 1 _ (1, [(0, .ref 0), (1, .int 3), (2, .int a2), (3, .int 2), (4, .int a4), (5, .int a5)], [.int 3], (0, 0), mi_G) (by rfl) ?_
    have hM1873 : mi_Met mi_N0 2 mi_h121 [.int 3] mi_G (some (.int 1)) mi_G := mi_fun_ok mi_N0 2 121 (mi_h121, mi_c121) _ _ _ _ rfl (mi_eR_ok (by decide +kernel))
    refine mi_sem_call mi_in117 (i := (.invokestatic 70, 3, 121, 0, 9, 0, 157)) (by rfl) (by rfl) hM1873 (by decide) ⟨Nat.le_of_ble_eq_true rfl, Nat.le_of_ble_eq_true rfl⟩ ?_
    refine mi_sem_steps mi_in117 (mi_calok_none _ _) 2 _ (8, [(0, .ref 0), (1, .int 3), (2, .int a2), (3, .int 2), (4, .int a4), (5, .int a5)], [.int 2], (0, 0), mi_G) (by rfl) ?_
    have hM1874 : mi_Met mi_N0 2 mi_h121 [.int 2] mi_G (some (.int 1)) mi_G := mi_fun_ok mi_N0 2 121 (mi_h121, mi_c121) _ _ _ _ rfl (mi_eR_ok (by decide +kernel))
    refine mi_sem_call mi_in117 (i := (.invokestatic 70, 3, 121, 0, 9, 0, 157)) (by rfl) (by rfl) hM1874 (by decide) ⟨Nat.le_of_ble_eq_true rfl, Nat.le_of_ble_eq_true rfl⟩ ?_
    refine mi_sem_steps mi_in117 (mi_calok_none _ _) 15 _ (50, [(7, .ref 108), (6, .ref 110), (0, .ref 0), (1, .int 3), (2, .int a2), (3, .int 2), (4, .int a4), (5, .int a5)], [.int (-11)], (0, 0), mi_G) (by rfl) ?_
    exact mi_sem_ret (cal := fun _ _ _ => none) mi_in117 (by rfl)
  · refine mi_met_of (y := 223) (q := (mi_h223, mi_c223)) rfl (by decide) (Nat.le_of_ble_eq_true rfl) ?_
    refine mi_sem_steps mi_in223 (mi_calok_none _ _) 1 _ (1, [(0, .ref 116), (1, .int 3), (2, .int a2), (3, .int 2), (4, .int a4), (5, .int a5)], [.int 3], (0, 0), mi_G) (by rfl) ?_
    have hM1875 : mi_Met mi_N0 2 mi_h133 [.int 3] mi_G (some (.int 1)) mi_G := mi_fun_ok mi_N0 2 133 (mi_h133, mi_c133) _ _ _ _ rfl (mi_eR_ok (by decide +kernel))
    refine mi_sem_call mi_in223 (i := (.invokestatic 127, 3, 133, 0, 9, 0, 382)) (by rfl) (by rfl) hM1875 (by decide) ⟨Nat.le_of_ble_eq_true rfl, Nat.le_of_ble_eq_true rfl⟩ ?_
    refine mi_sem_steps mi_in223 (mi_calok_none _ _) 2 _ (8, [(0, .ref 116), (1, .int 3), (2, .int a2), (3, .int 2), (4, .int a4), (5, .int a5)], [.int 2], (0, 0), mi_G) (by rfl) ?_
    have hM1876 : mi_Met mi_N0 2 mi_h133 [.int 2] mi_G (some (.int 1)) mi_G := mi_fun_ok mi_N0 2 133 (mi_h133, mi_c133) _ _ _ _ rfl (mi_eR_ok (by decide +kernel))
    refine mi_sem_call mi_in223 (i := (.invokestatic 127, 3, 133, 0, 9, 0, 382)) (by rfl) (by rfl) hM1876 (by decide) ⟨Nat.le_of_ble_eq_true rfl, Nat.le_of_ble_eq_true rfl⟩ ?_
    refine mi_sem_steps mi_in223 (mi_calok_none _ _) 8 _ (38, [(0, .ref 116), (1, .int 3), (2, .int a2), (3, .int 2), (4, .int a4), (5, .int a5)], [.int (-11)], (0, 0), mi_G) (by rfl) ?_
    exact mi_sem_ret (cal := fun _ _ _ => none) mi_in223 (by rfl)

set_option maxRecDepth 100000 in
set_option maxHeartbeats 4000000 in
theorem mp_shift_23 (a2 : Int32) (a4 : Int32) (a5 : Int32)  : mi_P 117 223 [.int 3, .int a2, .int 3, .int a4, .int a5] := by
  refine ⟨.int (-11), mi_G, mi_G, (mi_h117, mi_c117), (mi_h223, mi_c223), 3, 3, rfl, rfl, rfl, by decide, by decide, ?_, ?_⟩
  · refine mi_met_of (y := 117) (q := (mi_h117, mi_c117)) rfl (by decide) (Nat.le_of_ble_eq_true rfl) ?_
    refine mi_sem_steps mi_in117 (mi_calok_none _ _) 1 _ (1, [(0, .ref 0), (1, .int 3), (2, .int a2), (3, .int 3), (4, .int a4), (5, .int a5)], [.int 3], (0, 0), mi_G) (by rfl) ?_
    have hM1880 : mi_Met mi_N0 2 mi_h121 [.int 3] mi_G (some (.int 1)) mi_G := mi_fun_ok mi_N0 2 121 (mi_h121, mi_c121) _ _ _ _ rfl (mi_eR_ok (by decide +kernel))
    refine mi_sem_call mi_in117 (i := (.invokestatic 70, 3, 121, 0, 9, 0, 157)) (by rfl) (by rfl) hM1880 (by decide) ⟨Nat.le_of_ble_eq_true rfl, Nat.le_of_ble_eq_true rfl⟩ ?_
    refine mi_sem_steps mi_in117 (mi_calok_none _ _) 2 _ (8, [(0, .ref 0), (1, .int 3), (2, .int a2), (3, .int 3), (4, .int a4), (5, .int a5)], [.int 3], (0, 0), mi_G) (by rfl) ?_
    have hM1881 : mi_Met mi_N0 2 mi_h121 [.int 3] mi_G (some (.int 1)) mi_G := mi_fun_ok mi_N0 2 121 (mi_h121, mi_c121) _ _ _ _ rfl (mi_eR_ok (by decide +kernel))
    refine mi_sem_call mi_in117 (i := (.invokestatic 70, 3, 121, 0, 9, 0, 157)) (by rfl) (by rfl) hM1881 (by decide) ⟨Nat.le_of_ble_eq_true rfl, Nat.le_of_ble_eq_true rfl⟩ ?_
    refine mi_sem_steps mi_in117 (mi_calok_none _ _) 15 _ (50, [(7, .ref 110), (6, .ref 110), (0, .ref 0), (1, .int 3), (2, .int a2), (3, .int 3), (4, .int a4), (5, .int a5)], [.int (-11)], (0, 0), mi_G) (by rfl) ?_
    exact mi_sem_ret (cal := fun _ _ _ => none) mi_in117 (by rfl)
  · refine mi_met_of (y := 223) (q := (mi_h223, mi_c223)) rfl (by decide) (Nat.le_of_ble_eq_true rfl) ?_
    refine mi_sem_steps mi_in223 (mi_calok_none _ _) 1 _ (1, [(0, .ref 116), (1, .int 3), (2, .int a2), (3, .int 3), (4, .int a4), (5, .int a5)], [.int 3], (0, 0), mi_G) (by rfl) ?_
    have hM1882 : mi_Met mi_N0 2 mi_h133 [.int 3] mi_G (some (.int 1)) mi_G := mi_fun_ok mi_N0 2 133 (mi_h133, mi_c133) _ _ _ _ rfl (mi_eR_ok (by decide +kernel))
    refine mi_sem_call mi_in223 (i := (.invokestatic 127, 3, 133, 0, 9, 0, 382)) (by rfl) (by rfl) hM1882 (by decide) ⟨Nat.le_of_ble_eq_true rfl, Nat.le_of_ble_eq_true rfl⟩ ?_
    refine mi_sem_steps mi_in223 (mi_calok_none _ _) 2 _ (8, [(0, .ref 116), (1, .int 3), (2, .int a2), (3, .int 3), (4, .int a4), (5, .int a5)], [.int 3], (0, 0), mi_G) (by rfl) ?_
    have hM1883 : mi_Met mi_N0 2 mi_h133 [.int 3] mi_G (some (.int 1)) mi_G := mi_fun_ok mi_N0 2 133 (mi_h133, mi_c133) _ _ _ _ rfl (mi_eR_ok (by decide +kernel))
    refine mi_sem_call mi_in223 (i := (.invokestatic 127, 3, 133, 0, 9, 0, 382)) (by rfl) (by rfl) hM1883 (by decide) ⟨Nat.le_of_ble_eq_true rfl, Nat.le_of_ble_eq_true rfl⟩ ?_
    refine mi_sem_steps mi_in223 (mi_calok_none _ _) 8 _ (38, [(0, .ref 116), (1, .int 3), (2, .int a2), (3, .int 3), (4, .int a4), (5, .int a5)], [.int (-11)], (0, 0), mi_G) (by rfl) ?_
    exact mi_sem_ret (cal := fun _ _ _ => none) mi_in223 (by rfl)

set_option maxRecDepth 100000 in
set_option maxHeartbeats 4000000 in
theorem mp_shift_24 (a2 : Int32) (a4 : Int32) (a5 : Int32)  : mi_P 117 223 [.int 3, .int a2, .int 4, .int a4, .int a5] := by
  refine ⟨.int (-11), mi_G, mi_G, (mi_h117, mi_c117), (mi_h223, mi_c223), 3, 3, rfl, rfl, rfl, by decide, by decide, ?_, ?_⟩
  · refine mi_met_of (y := 117) (q := (mi_h117, mi_c117)) rfl (by decide) (Nat.le_of_ble_eq_true rfl) ?_
    refine mi_sem_steps mi_in117 (mi_calok_none _ _) 1 _ (1, [(0, .ref 0), (1, .int 3), (2, .int a2), (3, .int 4), (4, .int a4), (5, .int a5)], [.int 3], (0, 0), mi_G) (by rfl) ?_
    have hM1887 : mi_Met mi_N0 2 mi_h121 [.int 3] mi_G (some (.int 1)) mi_G := mi_fun_ok mi_N0 2 121 (mi_h121, mi_c121) _ _ _ _ rfl (mi_eR_ok (by decide +kernel))
    refine mi_sem_call mi_in117 (i := (.invokestatic 70, 3, 121, 0, 9, 0, 157)) (by rfl) (by rfl) hM1887 (by decide) ⟨Nat.le_of_ble_eq_true rfl, Nat.le_of_ble_eq_true rfl⟩ ?_
    refine mi_sem_steps mi_in117 (mi_calok_none _ _) 2 _ (8, [(0, .ref 0), (1, .int 3), (2, .int a2), (3, .int 4), (4, .int a4), (5, .int a5)], [.int 4], (0, 0), mi_G) (by rfl) ?_
    have hM1888 : mi_Met mi_N0 2 mi_h121 [.int 4] mi_G (some (.int 1)) mi_G := mi_fun_ok mi_N0 2 121 (mi_h121, mi_c121) _ _ _ _ rfl (mi_eR_ok (by decide +kernel))
    refine mi_sem_call mi_in117 (i := (.invokestatic 70, 3, 121, 0, 9, 0, 157)) (by rfl) (by rfl) hM1888 (by decide) ⟨Nat.le_of_ble_eq_true rfl, Nat.le_of_ble_eq_true rfl⟩ ?_
    refine mi_sem_steps mi_in117 (mi_calok_none _ _) 15 _ (50, [(7, .ref 112), (6, .ref 110), (0, .ref 0), (1, .int 3), (2, .int a2), (3, .int 4), (4, .int a4), (5, .int a5)], [.int (-11)], (0, 0), mi_G) (by rfl) ?_
    exact mi_sem_ret (cal := fun _ _ _ => none) mi_in117 (by rfl)
  · refine mi_met_of (y := 223) (q := (mi_h223, mi_c223)) rfl (by decide) (Nat.le_of_ble_eq_true rfl) ?_
    refine mi_sem_steps mi_in223 (mi_calok_none _ _) 1 _ (1, [(0, .ref 116), (1, .int 3), (2, .int a2), (3, .int 4), (4, .int a4), (5, .int a5)], [.int 3], (0, 0), mi_G) (by rfl) ?_
    have hM1889 : mi_Met mi_N0 2 mi_h133 [.int 3] mi_G (some (.int 1)) mi_G := mi_fun_ok mi_N0 2 133 (mi_h133, mi_c133) _ _ _ _ rfl (mi_eR_ok (by decide +kernel))
    refine mi_sem_call mi_in223 (i := (.invokestatic 127, 3, 133, 0, 9, 0, 382)) (by rfl) (by rfl) hM1889 (by decide) ⟨Nat.le_of_ble_eq_true rfl, Nat.le_of_ble_eq_true rfl⟩ ?_
    refine mi_sem_steps mi_in223 (mi_calok_none _ _) 2 _ (8, [(0, .ref 116), (1, .int 3), (2, .int a2), (3, .int 4), (4, .int a4), (5, .int a5)], [.int 4], (0, 0), mi_G) (by rfl) ?_
    have hM1890 : mi_Met mi_N0 2 mi_h133 [.int 4] mi_G (some (.int 1)) mi_G := mi_fun_ok mi_N0 2 133 (mi_h133, mi_c133) _ _ _ _ rfl (mi_eR_ok (by decide +kernel))
    refine mi_sem_call mi_in223 (i := (.invokestatic 127, 3, 133, 0, 9, 0, 382)) (by rfl) (by rfl) hM1890 (by decide) ⟨Nat.le_of_ble_eq_true rfl, Nat.le_of_ble_eq_true rfl⟩ ?_
    refine mi_sem_steps mi_in223 (mi_calok_none _ _) 8 _ (38, [(0, .ref 116), (1, .int 3), (2, .int a2), (3, .int 4), (4, .int a4), (5, .int a5)], [.int (-11)], (0, 0), mi_G) (by rfl) ?_
    exact mi_sem_ret (cal := fun _ _ _ => none) mi_in223 (by rfl)

set_option maxRecDepth 100000 in
set_option maxHeartbeats 4000000 in
theorem mp_shift_25 (a2 : Int32) (a4 : Int32) (a5 : Int32)  : mi_P 117 223 [.int 3, .int a2, .int 5, .int a4, .int a5] := by
  refine ⟨.int (-11), mi_G, mi_G, (mi_h117, mi_c117), (mi_h223, mi_c223), 3, 3, rfl, rfl, rfl, by decide, by decide, ?_, ?_⟩
  · refine mi_met_of (y := 117) (q := (mi_h117, mi_c117)) rfl (by decide) (Nat.le_of_ble_eq_true rfl) ?_
    refine mi_sem_steps mi_in117 (mi_calok_none _ _) 1 _ (1, [(0, .ref 0), (1, .int 3), (2, .int a2), (3, .int 5), (4, .int a4), (5, .int a5)], [.int 3], (0, 0), mi_G) (by rfl) ?_
    have hM1891 : mi_Met mi_N0 2 mi_h121 [.int 3] mi_G (some (.int 1)) mi_G := mi_fun_ok mi_N0 2 121 (mi_h121, mi_c121) _ _ _ _ rfl (mi_eR_ok (by decide +kernel))
    refine mi_sem_call mi_in117 (i := (.invokestatic 70, 3, 121, 0, 9, 0, 157)) (by rfl) (by rfl) hM1891 (by decide) ⟨Nat.le_of_ble_eq_true rfl, Nat.le_of_ble_eq_true rfl⟩ ?_
    refine mi_sem_steps mi_in117 (mi_calok_none _ _) 2 _ (8, [(0, .ref 0), (1, .int 3), (2, .int a2), (3, .int 5), (4, .int a4), (5, .int a5)], [.int 5], (0, 0), mi_G) (by rfl) ?_
    have hM1892 : mi_Met mi_N0 2 mi_h121 [.int 5] mi_G (some (.int 1)) mi_G := mi_fun_ok mi_N0 2 121 (mi_h121, mi_c121) _ _ _ _ rfl (mi_eR_ok (by decide +kernel))
    refine mi_sem_call mi_in117 (i := (.invokestatic 70, 3, 121, 0, 9, 0, 157)) (by rfl) (by rfl) hM1892 (by decide) ⟨Nat.le_of_ble_eq_true rfl, Nat.le_of_ble_eq_true rfl⟩ ?_
    refine mi_sem_steps mi_in117 (mi_calok_none _ _) 15 _ (50, [(7, .ref 114), (6, .ref 110), (0, .ref 0), (1, .int 3), (2, .int a2), (3, .int 5), (4, .int a4), (5, .int a5)], [.int (-11)], (0, 0), mi_G) (by rfl) ?_
    exact mi_sem_ret (cal := fun _ _ _ => none) mi_in117 (by rfl)
  · refine mi_met_of (y := 223) (q := (mi_h223, mi_c223)) rfl (by decide) (Nat.le_of_ble_eq_true rfl) ?_
    refine mi_sem_steps mi_in223 (mi_calok_none _ _) 1 _ (1, [(0, .ref 116), (1, .int 3), (2, .int a2), (3, .int 5), (4, .int a4), (5, .int a5)], [.int 3], (0, 0), mi_G) (by rfl) ?_
    have hM1893 : mi_Met mi_N0 2 mi_h133 [.int 3] mi_G (some (.int 1)) mi_G := mi_fun_ok mi_N0 2 133 (mi_h133, mi_c133) _ _ _ _ rfl (mi_eR_ok (by decide +kernel))
    refine mi_sem_call mi_in223 (i := (.invokestatic 127, 3, 133, 0, 9, 0, 382)) (by rfl) (by rfl) hM1893 (by decide) ⟨Nat.le_of_ble_eq_true rfl, Nat.le_of_ble_eq_true rfl⟩ ?_
    refine mi_sem_steps mi_in223 (mi_calok_none _ _) 2 _ (8, [(0, .ref 116), (1, .int 3), (2, .int a2), (3, .int 5), (4, .int a4), (5, .int a5)], [.int 5], (0, 0), mi_G) (by rfl) ?_
    have hM1894 : mi_Met mi_N0 2 mi_h133 [.int 5] mi_G (some (.int 1)) mi_G := mi_fun_ok mi_N0 2 133 (mi_h133, mi_c133) _ _ _ _ rfl (mi_eR_ok (by decide +kernel))
    refine mi_sem_call mi_in223 (i := (.invokestatic 127, 3, 133, 0, 9, 0, 382)) (by rfl) (by rfl) hM1894 (by decide) ⟨Nat.le_of_ble_eq_true rfl, Nat.le_of_ble_eq_true rfl⟩ ?_
    refine mi_sem_steps mi_in223 (mi_calok_none _ _) 8 _ (38, [(0, .ref 116), (1, .int 3), (2, .int a2), (3, .int 5), (4, .int a4), (5, .int a5)], [.int (-11)], (0, 0), mi_G) (by rfl) ?_
    exact mi_sem_ret (cal := fun _ _ _ => none) mi_in223 (by rfl)

set_option maxRecDepth 100000 in
set_option maxHeartbeats 4000000 in
theorem mp_shift_26 (a2 : Int32) (a4 : Int32) (a5 : Int32)  : mi_P 117 223 [.int 4, .int a2, .int 0, .int a4, .int a5] := by
  refine ⟨.int (-11), mi_G, mi_G, (mi_h117, mi_c117), (mi_h223, mi_c223), 3, 3, rfl, rfl, rfl, by decide, by decide, ?_, ?_⟩
  · refine mi_met_of (y := 117) (q := (mi_h117, mi_c117)) rfl (by decide) (Nat.le_of_ble_eq_true rfl) ?_
    refine mi_sem_steps mi_in117 (mi_calok_none _ _) 1 _ (1, [(0, .ref 0), (1, .int 4), (2, .int a2), (3, .int 0), (4, .int a4), (5, .int a5)], [.int 4], (0, 0), mi_G) (by rfl) ?_
    have hM1902 : mi_Met mi_N0 2 mi_h121 [.int 4] mi_G (some (.int 1)) mi_G := mi_fun_ok mi_N0 2 121 (mi_h121, mi_c121) _ _ _ _ rfl (mi_eR_ok (by decide +kernel))
    refine mi_sem_call mi_in117 (i := (.invokestatic 70, 3, 121, 0, 9, 0, 157)) (by rfl) (by rfl) hM1902 (by decide) ⟨Nat.le_of_ble_eq_true rfl, Nat.le_of_ble_eq_true rfl⟩ ?_
    refine mi_sem_steps mi_in117 (mi_calok_none _ _) 2 _ (8, [(0, .ref 0), (1, .int 4), (2, .int a2), (3, .int 0), (4, .int a4), (5, .int a5)], [.int 0], (0, 0), mi_G) (by rfl) ?_
    have hM1903 : mi_Met mi_N0 2 mi_h121 [.int 0] mi_G (some (.int 1)) mi_G := mi_fun_ok mi_N0 2 121 (mi_h121, mi_c121) _ _ _ _ rfl (mi_eR_ok (by decide +kernel))
    refine mi_sem_call mi_in117 (i := (.invokestatic 70, 3, 121, 0, 9, 0, 157)) (by rfl) (by rfl) hM1903 (by decide) ⟨Nat.le_of_ble_eq_true rfl, Nat.le_of_ble_eq_true rfl⟩ ?_
    refine mi_sem_steps mi_in117 (mi_calok_none _ _) 15 _ (50, [(7, .ref 104), (6, .ref 112), (0, .ref 0), (1, .int 4), (2, .int a2), (3, .int 0), (4, .int a4), (5, .int a5)], [.int (-11)], (0, 0), mi_G) (by rfl) ?_
    exact mi_sem_ret (cal := fun _ _ _ => none) mi_in117 (by rfl)
  · refine mi_met_of (y := 223) (q := (mi_h223, mi_c223)) rfl (by decide) (Nat.le_of_ble_eq_true rfl) ?_
    refine mi_sem_steps mi_in223 (mi_calok_none _ _) 1 _ (1, [(0, .ref 116), (1, .int 4), (2, .int a2), (3, .int 0), (4, .int a4), (5, .int a5)], [.int 4], (0, 0), mi_G) (by rfl) ?_
    have hM1904 : mi_Met mi_N0 2 mi_h133 [.int 4] mi_G (some (.int 1)) mi_G := mi_fun_ok mi_N0 2 133 (mi_h133, mi_c133) _ _ _ _ rfl (mi_eR_ok (by decide +kernel))
    refine mi_sem_call mi_in223 (i := (.invokestatic 127, 3, 133, 0, 9, 0, 382)) (by rfl) (by rfl) hM1904 (by decide) ⟨Nat.le_of_ble_eq_true rfl, Nat.le_of_ble_eq_true rfl⟩ ?_
    refine mi_sem_steps mi_in223 (mi_calok_none _ _) 2 _ (8, [(0, .ref 116), (1, .int 4), (2, .int a2), (3, .int 0), (4, .int a4), (5, .int a5)], [.int 0], (0, 0), mi_G) (by rfl) ?_
    have hM1905 : mi_Met mi_N0 2 mi_h133 [.int 0] mi_G (some (.int 1)) mi_G := mi_fun_ok mi_N0 2 133 (mi_h133, mi_c133) _ _ _ _ rfl (mi_eR_ok (by decide +kernel))
    refine mi_sem_call mi_in223 (i := (.invokestatic 127, 3, 133, 0, 9, 0, 382)) (by rfl) (by rfl) hM1905 (by decide) ⟨Nat.le_of_ble_eq_true rfl, Nat.le_of_ble_eq_true rfl⟩ ?_
    refine mi_sem_steps mi_in223 (mi_calok_none _ _) 8 _ (38, [(0, .ref 116), (1, .int 4), (2, .int a2), (3, .int 0), (4, .int a4), (5, .int a5)], [.int (-11)], (0, 0), mi_G) (by rfl) ?_
    exact mi_sem_ret (cal := fun _ _ _ => none) mi_in223 (by rfl)

set_option maxRecDepth 100000 in
set_option maxHeartbeats 4000000 in
theorem mp_shift_27 (a2 : Int32) (a4 : Int32) (a5 : Int32)  : mi_P 117 223 [.int 4, .int a2, .int 1, .int a4, .int a5] := by
  refine ⟨.int (-11), mi_G, mi_G, (mi_h117, mi_c117), (mi_h223, mi_c223), 3, 3, rfl, rfl, rfl, by decide, by decide, ?_, ?_⟩
  · refine mi_met_of (y := 117) (q := (mi_h117, mi_c117)) rfl (by decide) (Nat.le_of_ble_eq_true rfl) ?_
    refine mi_sem_steps mi_in117 (mi_calok_none _ _) 1 _ (1, [(0, .ref 0), (1, .int 4), (2, .int a2), (3, .int 1), (4, .int a4), (5, .int a5)], [.int 4], (0, 0), mi_G) (by rfl) ?_
    have hM1909 : mi_Met mi_N0 2 mi_h121 [.int 4] mi_G (some (.int 1)) mi_G := mi_fun_ok mi_N0 2 121 (mi_h121, mi_c121) _ _ _ _ rfl (mi_eR_ok (by decide +kernel))
    refine mi_sem_call mi_in117 (i := (.invokestatic 70, 3, 121, 0, 9, 0, 157)) (by rfl) (by rfl) hM1909 (by decide) ⟨Nat.le_of_ble_eq_true rfl, Nat.le_of_ble_eq_true rfl⟩ ?_
    refine mi_sem_steps mi_in117 (mi_calok_none _ _) 2 _ (8, [(0, .ref 0), (1, .int 4), (2, .int a2), (3, .int 1), (4, .int a4), (5, .int a5)], [.int 1], (0, 0), mi_G) (by rfl) ?_
    have hM1910 : mi_Met mi_N0 2 mi_h121 [.int 1] mi_G (some (.int 1)) mi_G := mi_fun_ok mi_N0 2 121 (mi_h121, mi_c121) _ _ _ _ rfl (mi_eR_ok (by decide +kernel))
    refine mi_sem_call mi_in117 (i := (.invokestatic 70, 3, 121, 0, 9, 0, 157)) (by rfl) (by rfl) hM1910 (by decide) ⟨Nat.le_of_ble_eq_true rfl, Nat.le_of_ble_eq_true rfl⟩ ?_
    refine mi_sem_steps mi_in117 (mi_calok_none _ _) 15 _ (50, [(7, .ref 106), (6, .ref 112), (0, .ref 0), (1, .int 4), (2, .int a2), (3, .int 1), (4, .int a4), (5, .int a5)], [.int (-11)], (0, 0), mi_G) (by rfl) ?_
    exact mi_sem_ret (cal := fun _ _ _ => none) mi_in117 (by rfl)
  · refine mi_met_of (y := 223) (q := (mi_h223, mi_c223)) rfl (by decide) (Nat.le_of_ble_eq_true rfl) ?_
    refine mi_sem_steps mi_in223 (mi_calok_none _ _) 1 _ (1, [(0, .ref 116), (1, .int 4), (2, .int a2), (3, .int 1), (4, .int a4), (5, .int a5)], [.int 4], (0, 0), mi_G) (by rfl) ?_
    have hM1911 : mi_Met mi_N0 2 mi_h133 [.int 4] mi_G (some (.int 1)) mi_G := mi_fun_ok mi_N0 2 133 (mi_h133, mi_c133) _ _ _ _ rfl (mi_eR_ok (by decide +kernel))
    refine mi_sem_call mi_in223 (i := (.invokestatic 127, 3, 133, 0, 9, 0, 382)) (by rfl) (by rfl) hM1911 (by decide) ⟨Nat.le_of_ble_eq_true rfl, Nat.le_of_ble_eq_true rfl⟩ ?_
    refine mi_sem_steps mi_in223 (mi_calok_none _ _) 2 _ (8, [(0, .ref 116), (1, .int 4), (2, .int a2), (3, .int 1), (4, .int a4), (5, .int a5)], [.int 1], (0, 0), mi_G) (by rfl) ?_
    have hM1912 : mi_Met mi_N0 2 mi_h133 [.int 1] mi_G (some (.int 1)) mi_G := mi_fun_ok mi_N0 2 133 (mi_h133, mi_c133) _ _ _ _ rfl (mi_eR_ok (by decide +kernel))
    refine mi_sem_call mi_in223 (i := (.invokestatic 127, 3, 133, 0, 9, 0, 382)) (by rfl) (by rfl) hM1912 (by decide) ⟨Nat.le_of_ble_eq_true rfl, Nat.le_of_ble_eq_true rfl⟩ ?_
    refine mi_sem_steps mi_in223 (mi_calok_none _ _) 8 _ (38, [(0, .ref 116), (1, .int 4), (2, .int a2), (3, .int 1), (4, .int a4), (5, .int a5)], [.int (-11)], (0, 0), mi_G) (by rfl) ?_
    exact mi_sem_ret (cal := fun _ _ _ => none) mi_in223 (by rfl)

set_option maxRecDepth 100000 in
set_option maxHeartbeats 4000000 in
theorem mp_shift_28 (a2 : Int32) (a4 : Int32) (a5 : Int32)  : mi_P 117 223 [.int 4, .int a2, .int 2, .int a4, .int a5] := by
  refine ⟨.int (-11), mi_G, mi_G, (mi_h117, mi_c117), (mi_h223, mi_c223), 3, 3, rfl, rfl, rfl, by decide, by decide, ?_, ?_⟩
  · refine mi_met_of (y := 117) (q := (mi_h117, mi_c117)) rfl (by decide) (Nat.le_of_ble_eq_true rfl) ?_
    refine mi_sem_steps mi_in117 (mi_calok_none _ _) 1 _ (1, [(0, .ref 0), (1, .int 4), (2, .int a2), (3, .int 2), (4, .int a4), (5, .int a5)], [.int 4], (0, 0), mi_G) (by rfl) ?_
    have hM1916 : mi_Met mi_N0 2 mi_h121 [.int 4] mi_G (some (.int 1)) mi_G := mi_fun_ok mi_N0 2 121 (mi_h121, mi_c121) _ _ _ _ rfl (mi_eR_ok (by decide +kernel))
    refine mi_sem_call mi_in117 (i := (.invokestatic 70, 3, 121, 0, 9, 0, 157)) (by rfl) (by rfl) hM1916 (by decide) ⟨Nat.le_of_ble_eq_true rfl, Nat.le_of_ble_eq_true rfl⟩ ?_
    refine mi_sem_steps mi_in117 (mi_calok_none _ _) 2 _ (8, [(0, .ref 0), (1, .int 4), (2, .int a2), (3, .int 2), (4, .int a4), (5, .int a5)], [.int 2], (0, 0), mi_G) (by rfl) ?_
    have hM1917 : mi_Met mi_N0 2 mi_h121 [.int 2] mi_G (some (.int 1)) mi_G := mi_fun_ok mi_N0 2 121 (mi_h121, mi_c121) _ _ _ _ rfl (mi_eR_ok (by decide +kernel))
    refine mi_sem_call mi_in117 (i := (.invokestatic 70, 3, 121, 0, 9, 0, 157)) (by rfl) (by rfl) hM1917 (by decide) ⟨Nat.le_of_ble_eq_true rfl, Nat.le_of_ble_eq_true rfl⟩ ?_
    refine mi_sem_steps mi_in117 (mi_calok_none _ _) 15 _ (50, [(7, .ref 108), (6, .ref 112), (0, .ref 0), (1, .int 4), (2, .int a2), (3, .int 2), (4, .int a4), (5, .int a5)], [.int (-11)], (0, 0), mi_G) (by rfl) ?_
    exact mi_sem_ret (cal := fun _ _ _ => none) mi_in117 (by rfl)
  · refine mi_met_of (y := 223) (q := (mi_h223, mi_c223)) rfl (by decide) (Nat.le_of_ble_eq_true rfl) ?_
    refine mi_sem_steps mi_in223 (mi_calok_none _ _) 1 _ (1, [(0, .ref 116), (1, .int 4), (2, .int a2), (3, .int 2), (4, .int a4), (5, .int a5)], [.int 4], (0, 0), mi_G) (by rfl) ?_
    have hM1918 : mi_Met mi_N0 2 mi_h133 [.int 4] mi_G (some (.int 1)) mi_G := mi_fun_ok mi_N0 2 133 (mi_h133, mi_c133) _ _ _ _ rfl (mi_eR_ok (by decide +kernel))
    refine mi_sem_call mi_in223 (i := (.invokestatic 127, 3, 133, 0, 9, 0, 382)) (by rfl) (by rfl) hM1918 (by decide) ⟨Nat.le_of_ble_eq_true rfl, Nat.le_of_ble_eq_true rfl⟩ ?_
    refine mi_sem_steps mi_in223 (mi_calok_none _ _) 2 _ (8, [(0, .ref 116), (1, .int 4), (2, .int a2), (3, .int 2), (4, .int a4), (5, .int a5)], [.int 2], (0, 0), mi_G) (by rfl) ?_
    have hM1919 : mi_Met mi_N0 2 mi_h133 [.int 2] mi_G (some (.int 1)) mi_G := mi_fun_ok mi_N0 2 133 (mi_h133, mi_c133) _ _ _ _ rfl (mi_eR_ok (by decide +kernel))
    refine mi_sem_call mi_in223 (i := (.invokestatic 127, 3, 133, 0, 9, 0, 382)) (by rfl) (by rfl) hM1919 (by decide) ⟨Nat.le_of_ble_eq_true rfl, Nat.le_of_ble_eq_true rfl⟩ ?_
    refine mi_sem_steps mi_in223 (mi_calok_none _ _) 8 _ (38, [(0, .ref 116), (1, .int 4), (2, .int a2), (3, .int 2), (4, .int a4), (5, .int a5)], [.int (-11)], (0, 0), mi_G) (by rfl) ?_
    exact mi_sem_ret (cal := fun _ _ _ => none) mi_in223 (by rfl)

set_option maxRecDepth 100000 in
set_option maxHeartbeats 4000000 in
theorem mp_shift_29 (a2 : Int32) (a4 : Int32) (a5 : Int32)  : mi_P 117 223 [.int 4, .int a2, .int 3, .int a4, .int a5] := by
  refine ⟨.int (-11), mi_G, mi_G, (mi_h117, mi_c117), (mi_h223, mi_c223), 3, 3, rfl, rfl, rfl, by decide, by decide, ?_, ?_⟩
  · refine mi_met_of (y := 117) (q := (mi_h117, mi_c117)) rfl (by decide) (Nat.le_of_ble_eq_true rfl) ?_
    refine mi_sem_steps mi_in117 (mi_calok_none _ _) 1 _ (1, [(0, .ref 0), (1, .int 4), (2, .int a2), (3, .int 3), (4, .int a4), (5, .int a5)], [.int 4], (0, 0), mi_G) (by rfl) ?_
    have hM1923 : mi_Met mi_N0 2 mi_h121 [.int 4] mi_G (some (.int 1)) mi_G := mi_fun_ok mi_N0 2 121 (mi_h121, mi_c121) _ _ _ _ rfl (mi_eR_ok (by decide +kernel))
    refine mi_sem_call mi_in117 (i := (.invokestatic 70, 3, 121, 0, 9, 0, 157)) (by rfl) (by rfl) hM1923 (by decide) ⟨Nat.le_of_ble_eq_true rfl, Nat.le_of_ble_eq_true rfl⟩ ?_
    refine mi_sem_steps mi_in117 (mi_calok_none _ _) 2 _ (8, [(0, .ref 0), (1, .int 4), (2, .int a2), (3, .int 3), (4, .int a4), (5, .int a5)], [.int 3], (0, 0), mi_G) (by rfl) ?_
    have hM1924 : mi_Met mi_N0 2 mi_h121 [.int 3] mi_G (some (.int 1)) mi_G := mi_fun_ok mi_N0 2 121 (mi_h121, mi_c121) _ _ _ _ rfl (mi_eR_ok (by decide +kernel))
    refine mi_sem_call mi_in117 (i := (.invokestatic 70, 3, 121, 0, 9, 0, 157)) (by rfl) (by rfl) hM1924 (by decide) ⟨Nat.le_of_ble_eq_true rfl, Nat.le_of_ble_eq_true rfl⟩ ?_
    refine mi_sem_steps mi_in117 (mi_calok_none _ _) 15 _ (50, [(7, .ref 110), (6, .ref 112), (0, .ref 0), (1, .int 4), (2, .int a2), (3, .int 3), (4, .int a4), (5, .int a5)], [.int (-11)], (0, 0), mi_G) (by rfl) ?_
    exact mi_sem_ret (cal := fun _ _ _ => none) mi_in117 (by rfl)
  · refine mi_met_of (y := 223) (q := (mi_h223, mi_c223)) rfl (by decide) (Nat.le_of_ble_eq_true rfl) ?_
    refine mi_sem_steps mi_in223 (mi_calok_none _ _) 1 _ (1, [(0, .ref 116), (1, .int 4), (2, .int a2), (3, .int 3), (4, .int a4), (5, .int a5)], [.int 4], (0, 0), mi_G) (by rfl) ?_
    have hM1925 : mi_Met mi_N0 2 mi_h133 [.int 4] mi_G (some (.int 1)) mi_G := mi_fun_ok mi_N0 2 133 (mi_h133, mi_c133) _ _ _ _ rfl (mi_eR_ok (by decide +kernel))
    refine mi_sem_call mi_in223 (i := (.invokestatic 127, 3, 133, 0, 9, 0, 382)) (by rfl) (by rfl) hM1925 (by decide) ⟨Nat.le_of_ble_eq_true rfl, Nat.le_of_ble_eq_true rfl⟩ ?_
    refine mi_sem_steps mi_in223 (mi_calok_none _ _) 2 _ (8, [(0, .ref 116), (1, .int 4), (2, .int a2), (3, .int 3), (4, .int a4), (5, .int a5)], [.int 3], (0, 0), mi_G) (by rfl) ?_
    have hM1926 : mi_Met mi_N0 2 mi_h133 [.int 3] mi_G (some (.int 1)) mi_G := mi_fun_ok mi_N0 2 133 (mi_h133, mi_c133) _ _ _ _ rfl (mi_eR_ok (by decide +kernel))
    refine mi_sem_call mi_in223 (i := (.invokestatic 127, 3, 133, 0, 9, 0, 382)) (by rfl) (by rfl) hM1926 (by decide) ⟨Nat.le_of_ble_eq_true rfl, Nat.le_of_ble_eq_true rfl⟩ ?_
    refine mi_sem_steps mi_in223 (mi_calok_none _ _) 8 _ (38, [(0, .ref 116), (1, .int 4), (2, .int a2), (3, .int 3), (4, .int a4), (5, .int a5)], [.int (-11)], (0, 0), mi_G) (by rfl) ?_
    exact mi_sem_ret (cal := fun _ _ _ => none) mi_in223 (by rfl)

set_option maxRecDepth 100000 in
set_option maxHeartbeats 4000000 in
theorem mp_shift_30 (a2 : Int32) (a4 : Int32) (a5 : Int32)  : mi_P 117 223 [.int 4, .int a2, .int 4, .int a4, .int a5] := by
  refine ⟨.int (-11), mi_G, mi_G, (mi_h117, mi_c117), (mi_h223, mi_c223), 3, 3, rfl, rfl, rfl, by decide, by decide, ?_, ?_⟩
  · refine mi_met_of (y := 117) (q := (mi_h117, mi_c117)) rfl (by decide) (Nat.le_of_ble_eq_true rfl) ?_
    refine mi_sem_steps mi_in117 (mi_calok_none _ _) 1 _ (1, [(0, .ref 0), (1, .int 4), (2, .int a2), (3, .int 4), (4, .int a4), (5, .int a5)], [.int 4], (0, 0), mi_G) (by rfl) ?_
    have hM1930 : mi_Met mi_N0 2 mi_h121 [.int 4] mi_G (some (.int 1)) mi_G := mi_fun_ok mi_N0 2 121 (mi_h121, mi_c121) _ _ _ _ rfl (mi_eR_ok (by decide +kernel))
    refine mi_sem_call mi_in117 (i := (.invokestatic 70, 3, 121, 0, 9, 0, 157)) (by rfl) (by rfl) hM1930 (by decide) ⟨Nat.le_of_ble_eq_true rfl, Nat.le_of_ble_eq_true rfl⟩ ?_
    refine mi_sem_steps mi_in117 (mi_calok_none _ _) 2 _ (8, [(0, .ref 0), (1, .int 4), (2, .int a2), (3, .int 4), (4, .int a4), (5, .int a5)], [.int 4], (0, 0), mi_G) (by rfl) ?_
    have hM1931 : mi_Met mi_N0 2 mi_h121 [.int 4] mi_G (some (.int 1)) mi_G := mi_fun_ok mi_N0 2 121 (mi_h121, mi_c121) _ _ _ _ rfl (mi_eR_ok (by decide +kernel))
    refine mi_sem_call mi_in117 (i := (.invokestatic 70, 3, 121, 0, 9, 0, 157)) (by rfl) (by rfl) hM1931 (by decide) ⟨Nat.le_of_ble_eq_true rfl, Nat.le_of_ble_eq_true rfl⟩ ?_
    refine mi_sem_steps mi_in117 (mi_calok_none _ _) 15 _ (50, [(7, .ref 112), (6, .ref 112), (0, .ref 0), (1, .int 4), (2, .int a2), (3, .int 4), (4, .int a4), (5, .int a5)], [.int (-11)], (0, 0), mi_G) (by rfl) ?_
    exact mi_sem_ret (cal := fun _ _ _ => none) mi_in117 (by rfl)
  · refine mi_met_of (y := 223) (q := (mi_h223, mi_c223)) rfl (by decide) (Nat.le_of_ble_eq_true rfl) ?_
    refine mi_sem_steps mi_in223 (mi_calok_none _ _) 1 _ (1, [(0, .ref 116), (1, .int 4), (2, .int a2), (3, .int 4), (4, .int a4), (5, .int a5)], [.int 4], (0, 0), mi_G) (by rfl) ?_
    have hM1932 : mi_Met mi_N0 2 mi_h133 [.int 4] mi_G (some (.int 1)) mi_G := mi_fun_ok mi_N0 2 133 (mi_h133, mi_c133) _ _ _ _ rfl (mi_eR_ok (by decide +kernel))
    refine mi_sem_call mi_in223 (i := (.invokestatic 127, 3, 133, 0, 9, 0, 382)) (by rfl) (by rfl) hM1932 (by decide) ⟨Nat.le_of_ble_eq_true rfl, Nat.le_of_ble_eq_true rfl⟩ ?_
    refine mi_sem_steps mi_in223 (mi_calok_none _ _) 2 _ (8, [(0, .ref 116), (1, .int 4), (2, .int a2), (3, .int 4), (4, .int a4), (5, .int a5)], [.int 4], (0, 0), mi_G) (by rfl) ?_
    have hM1933 : mi_Met mi_N0 2 mi_h133 [.int 4] mi_G (some (.int 1)) mi_G := mi_fun_ok mi_N0 2 133 (mi_h133, mi_c133) _ _ _ _ rfl (mi_eR_ok (by decide +kernel))
    refine mi_sem_call mi_in223 (i := (.invokestatic 127, 3, 133, 0, 9, 0, 382)) (by rfl) (by rfl) hM1933 (by decide) ⟨Nat.le_of_ble_eq_true rfl, Nat.le_of_ble_eq_true rfl⟩ ?_
    refine mi_sem_steps mi_in223 (mi_calok_none _ _) 8 _ (38, [(0, .ref 116), (1, .int 4), (2, .int a2), (3, .int 4), (4, .int a4), (5, .int a5)], [.int (-11)], (0, 0), mi_G) (by rfl) ?_
    exact mi_sem_ret (cal := fun _ _ _ => none) mi_in223 (by rfl)

set_option maxRecDepth 100000 in
set_option maxHeartbeats 4000000 in
theorem mp_shift_31 (a2 : Int32) (a4 : Int32) (a5 : Int32)  : mi_P 117 223 [.int 4, .int a2, .int 5, .int a4, .int a5] := by
  refine ⟨.int (-11), mi_G, mi_G, (mi_h117, mi_c117), (mi_h223, mi_c223), 3, 3, rfl, rfl, rfl, by decide, by decide, ?_, ?_⟩
  · refine mi_met_of (y := 117) (q := (mi_h117, mi_c117)) rfl (by decide) (Nat.le_of_ble_eq_true rfl) ?_
    refine mi_sem_steps mi_in117 (mi_calok_none _ _) 1 _ (1, [(0, .ref 0), (1, .int 4), (2, .int a2), (3, .int 5), (4, .int a4), (5, .int a5)], [.int 4], (0, 0), mi_G) (by rfl) ?_
    have hM1934 : mi_Met mi_N0 2 mi_h121 [.int 4] mi_G (some (.int 1)) mi_G := mi_fun_ok mi_N0 2 121 (mi_h121, mi_c121) _ _ _ _ rfl (mi_eR_ok (by decide +kernel))
    refine mi_sem_call mi_in117 (i := (.invokestatic 70, 3, 121, 0, 9, 0, 157)) (by rfl) (by rfl) hM1934 (by decide) ⟨Nat.le_of_ble_eq_true rfl, Nat.le_of_ble_eq_true rfl⟩ ?_
    refine mi_sem_steps mi_in117 (mi_calok_none _ _) 2 _ (8, [(0, .ref 0), (1, .int 4), (2, .int a2), (3, .int 5), (4, .int a4), (5, .int a5)], [.int 5], (0, 0), mi_G) (by rfl) ?_
    have hM1935 : mi_Met mi_N0 2 mi_h121 [.int 5] mi_G (some (.int 1)) mi_G := mi_fun_ok mi_N0 2 121 (mi_h121, mi_c121) _ _ _ _ rfl (mi_eR_ok (by decide +kernel))
    refine mi_sem_call mi_in117 (i := (.invokestatic 70, 3, 121, 0, 9, 0, 157)) (by rfl) (by rfl) hM1935 (by decide) ⟨Nat.le_of_ble_eq_true rfl, Nat.le_of_ble_eq_true rfl⟩ ?_
    refine mi_sem_steps mi_in117 (mi_calok_none _ _) 15 _ (50, [(7, .ref 114), (6, .ref 112), (0, .ref 0), (1, .int 4), (2, .int a2), (3, .int 5), (4, .int a4), (5, .int a5)], [.int (-11)], (0, 0), mi_G) (by rfl) ?_
    exact mi_sem_ret (cal := fun _ _ _ => none) mi_in117 (by rfl)
  · refine mi_met_of (y := 223) (q := (mi_h223, mi_c223)) rfl (by decide) (Nat.le_of_ble_eq_true rfl) ?_
    refine mi_sem_steps mi_in223 (mi_calok_none _ _) 1 _ (1, [(0, .ref 116), (1, .int 4), (2, .int a2), (3, .int 5), (4, .int a4), (5, .int a5)], [.int 4], (0, 0), mi_G) (by rfl) ?_
    have hM1936 : mi_Met mi_N0 2 mi_h133 [.int 4] mi_G (some (.int 1)) mi_G := mi_fun_ok mi_N0 2 133 (mi_h133, mi_c133) _ _ _ _ rfl (mi_eR_ok (by decide +kernel))
    refine mi_sem_call mi_in223 (i := (.invokestatic 127, 3, 133, 0, 9, 0, 382)) (by rfl) (by rfl) hM1936 (by decide) ⟨Nat.le_of_ble_eq_true rfl, Nat.le_of_ble_eq_true rfl⟩ ?_
    refine mi_sem_steps mi_in223 (mi_calok_none _ _) 2 _ (8, [(0, .ref 116), (1, .int 4), (2, .int a2), (3, .int 5), (4, .int a4), (5, .int a5)], [.int 5], (0, 0), mi_G) (by rfl) ?_
    have hM1937 : mi_Met mi_N0 2 mi_h133 [.int 5] mi_G (some (.int 1)) mi_G := mi_fun_ok mi_N0 2 133 (mi_h133, mi_c133) _ _ _ _ rfl (mi_eR_ok (by decide +kernel))
    refine mi_sem_call mi_in223 (i := (.invokestatic 127, 3, 133, 0, 9, 0, 382)) (by rfl) (by rfl) hM1937 (by decide) ⟨Nat.le_of_ble_eq_true rfl, Nat.le_of_ble_eq_true rfl⟩ ?_
    refine mi_sem_steps mi_in223 (mi_calok_none _ _) 8 _ (38, [(0, .ref 116), (1, .int 4), (2, .int a2), (3, .int 5), (4, .int a4), (5, .int a5)], [.int (-11)], (0, 0), mi_G) (by rfl) ?_
    exact mi_sem_ret (cal := fun _ _ _ => none) mi_in223 (by rfl)

set_option maxRecDepth 100000 in
set_option maxHeartbeats 4000000 in
theorem mp_shift_32 (a2 : Int32) (a4 : Int32) (a5 : Int32)  : mi_P 117 223 [.int 5, .int a2, .int 0, .int a4, .int a5] := by
  refine ⟨.int (-11), mi_G, mi_G, (mi_h117, mi_c117), (mi_h223, mi_c223), 3, 3, rfl, rfl, rfl, by decide, by decide, ?_, ?_⟩
  · refine mi_met_of (y := 117) (q := (mi_h117, mi_c117)) rfl (by decide) (Nat.le_of_ble_eq_true rfl) ?_
    refine mi_sem_steps mi_in117 (mi_calok_none _ _) 1 _ (1, [(0, .ref 0), (1, .int 5), (2, .int a2), (3, .int 0), (4, .int a4), (5, .int a5)], [.int 5], (0, 0), mi_G) (by rfl) ?_
    have hM1941 : mi_Met mi_N0 2 mi_h121 [.int 5] mi_G (some (.int 1)) mi_G := mi_fun_ok mi_N0 2 121 (mi_h121, mi_c121) _ _ _ _ rfl (mi_eR_ok (by decide +kernel))
    refine mi_sem_call mi_in117 (i := (.invokestatic 70, 3, 121, 0, 9, 0, 157)) (by rfl) (by rfl) hM1941 (by decide) ⟨Nat.le_of_ble_eq_true rfl, Nat.le_of_ble_eq_true rfl⟩ ?_
    refine mi_sem_steps mi_in117 (mi_calok_none _ _) 2 _ (8, [(0, .ref 0), (1, .int 5), (2, .int a2), (3, .int 0), (4, .int a4), (5, .int a5)], [.int 0], (0, 0), mi_G) (by rfl) ?_
    have hM1942 : mi_Met mi_N0 2 mi_h121 [.int 0] mi_G (some (.int 1)) mi_G := mi_fun_ok mi_N0 2 121 (mi_h121, mi_c121) _ _ _ _ rfl (mi_eR_ok (by decide +kernel))
    refine mi_sem_call mi_in117 (i := (.invokestatic 70, 3, 121, 0, 9, 0, 157)) (by rfl) (by rfl) hM1942 (by decide) ⟨Nat.le_of_ble_eq_true rfl, Nat.le_of_ble_eq_true rfl⟩ ?_
    refine mi_sem_steps mi_in117 (mi_calok_none _ _) 15 _ (50, [(7, .ref 104), (6, .ref 114), (0, .ref 0), (1, .int 5), (2, .int a2), (3, .int 0), (4, .int a4), (5, .int a5)], [.int (-11)], (0, 0), mi_G) (by rfl) ?_
    exact mi_sem_ret (cal := fun _ _ _ => none) mi_in117 (by rfl)
  · refine mi_met_of (y := 223) (q := (mi_h223, mi_c223)) rfl (by decide) (Nat.le_of_ble_eq_true rfl) ?_
    refine mi_sem_steps mi_in223 (mi_calok_none _ _) 1 _ (1, [(0, .ref 116), (1, .int 5), (2, .int a2), (3, .int 0), (4, .int a4), (5, .int a5)], [.int 5], (0, 0), mi_G) (by rfl) ?_
    have hM1943 : mi_Met mi_N0 2 mi_h133 [.int 5] mi_G (some (.int 1)) mi_G := mi_fun_ok mi_N0 2 133 (mi_h133, mi_c133) _ _ _ _ rfl (mi_eR_ok (by decide +kernel))
    refine mi_sem_call mi_in223 (i := (.invokestatic 127, 3, 133, 0, 9, 0, 382)) (by rfl) (by rfl) hM1943 (by decide) ⟨Nat.le_of_ble_eq_true rfl, Nat.le_of_ble_eq_true rfl⟩ ?_
    refine mi_sem_steps mi_in223 (mi_calok_none _ _) 2 _ (8, [(0, .ref 116), (1, .int 5), (2, .int a2), (3, .int 0), (4, .int a4), (5, .int a5)], [.int 0], (0, 0), mi_G) (by rfl) ?_
    have hM1944 : mi_Met mi_N0 2 mi_h133 [.int 0] mi_G (some (.int 1)) mi_G := mi_fun_ok mi_N0 2 133 (mi_h133, mi_c133) _ _ _ _ rfl (mi_eR_ok (by decide +kernel))
    refine mi_sem_call mi_in223 (i := (.invokestatic 127, 3, 133, 0, 9, 0, 382)) (by rfl) (by rfl) hM1944 (by decide) ⟨Nat.le_of_ble_eq_true rfl, Nat.le_of_ble_eq_true rfl⟩ ?_
    refine mi_sem_steps mi_in223 (mi_calok_none _ _) 8 _ (38, [(0, .ref 116), (1, .int 5), (2, .int a2), (3, .int 0), (4, .int a4), (5, .int a5)], [.int (-11)], (0, 0), mi_G) (by rfl) ?_
    exact mi_sem_ret (cal := fun _ _ _ => none) mi_in223 (by rfl)

set_option maxRecDepth 100000 in
set_option maxHeartbeats 4000000 in
theorem mp_shift_33 (a2 : Int32) (a4 : Int32) (a5 : Int32)  : mi_P 117 223 [.int 5, .int a2, .int 1, .int a4, .int a5] := by
  refine ⟨.int (-11), mi_G, mi_G, (mi_h117, mi_c117), (mi_h223, mi_c223), 3, 3, rfl, rfl, rfl, by decide, by decide, ?_, ?_⟩
  · refine mi_met_of (y := 117) (q := (mi_h117, mi_c117)) rfl (by decide) (Nat.le_of_ble_eq_true rfl) ?_
    refine mi_sem_steps mi_in117 (mi_calok_none _ _) 1 _ (1, [(0, .ref 0), (1, .int 5), (2, .int a2), (3, .int 1), (4, .int a4), (5, .int a5)], [.int 5], (0, 0), mi_G) (by rfl) ?_
    have hM1948 : mi_Met mi_N0 2 mi_h121 [.int 5] mi_G (some (.int 1)) mi_G := mi_fun_ok mi_N0 2 121 (mi_h121, mi_c121) _ _ _ _ rfl (mi_eR_ok (by decide +kernel))
    refine mi_sem_call mi_in117 (i := (.invokestatic 70, 3, 121, 0, 9, 0, 157)) (by rfl) (by rfl) hM1948 (by decide) ⟨Nat.le_of_ble_eq_true rfl, Nat.le_of_ble_eq_true rfl⟩ ?_
    refine mi_sem_steps mi_in117 (mi_calok_none _ _) 2 _ (8, [(0, .ref 0), (1, .int 5), (2, .int a2), (3, .int 1), (4, .int a4), (5, .int a5)], [.int 1], (0, 0), mi_G) (by rfl) ?_
    have hM1949 : mi_Met mi_N0 2 mi_h121 [.int 1] mi_G (some (.int 1)) mi_G := mi_fun_ok mi_N0 2 121 (mi_h121, mi_c121) _ _ _ _ rfl (mi_eR_ok (by decide +kernel))
    refine mi_sem_call mi_in117 (i := (.invokestatic 70, 3, 121, 0, 9, 0, 157)) (by rfl) (by rfl) hM1949 (by decide) ⟨Nat.le_of_ble_eq_true rfl, Nat.le_of_ble_eq_true rfl⟩ ?_
    refine mi_sem_steps mi_in117 (mi_calok_none _ _) 15 _ (50, [(7, .ref 106), (6, .ref 114), (0, .ref 0), (1, .int 5), (2, .int a2), (3, .int 1), (4, .int a4), (5, .int a5)], [.int (-11)], (0, 0), mi_G) (by rfl) ?_
    exact mi_sem_ret (cal := fun _ _ _ => none) mi_in117 (by rfl)
  · refine mi_met_of (y := 223) (q := (mi_h223, mi_c223)) rfl (by decide) (Nat.le_of_ble_eq_true rfl) ?_
    refine mi_sem_steps mi_in223 (mi_calok_none _ _) 1 _ (1, [(0, .ref 116), (1, .int 5), (2, .int a2), (3, .int 1), (4, .int a4), (5, .int a5)], [.int 5], (0, 0), mi_G) (by rfl) ?_
    have hM1950 : mi_Met mi_N0 2 mi_h133 [.int 5] mi_G (some (.int 1)) mi_G := mi_fun_ok mi_N0 2 133 (mi_h133, mi_c133) _ _ _ _ rfl (mi_eR_ok (by decide +kernel))
    refine mi_sem_call mi_in223 (i := (.invokestatic 127, 3, 133, 0, 9, 0, 382)) (by rfl) (by rfl) hM1950 (by decide) ⟨Nat.le_of_ble_eq_true rfl, Nat.le_of_ble_eq_true rfl⟩ ?_
    refine mi_sem_steps mi_in223 (mi_calok_none _ _) 2 _ (8, [(0, .ref 116), (1, .int 5), (2, .int a2), (3, .int 1), (4, .int a4), (5, .int a5)], [.int 1], (0, 0), mi_G) (by rfl) ?_
    have hM1951 : mi_Met mi_N0 2 mi_h133 [.int 1] mi_G (some (.int 1)) mi_G := mi_fun_ok mi_N0 2 133 (mi_h133, mi_c133) _ _ _ _ rfl (mi_eR_ok (by decide +kernel))
    refine mi_sem_call mi_in223 (i := (.invokestatic 127, 3, 133, 0, 9, 0, 382)) (by rfl) (by rfl) hM1951 (by decide) ⟨Nat.le_of_ble_eq_true rfl, Nat.le_of_ble_eq_true rfl⟩ ?_
    refine mi_sem_steps mi_in223 (mi_calok_none _ _) 8 _ (38, [(0, .ref 116), (1, .int 5), (2, .int a2), (3, .int 1), (4, .int a4), (5, .int a5)], [.int (-11)], (0, 0), mi_G) (by rfl) ?_
    exact mi_sem_ret (cal := fun _ _ _ => none) mi_in223 (by rfl)

set_option maxRecDepth 100000 in
set_option maxHeartbeats 4000000 in
theorem mp_shift_34 (a2 : Int32) (a4 : Int32) (a5 : Int32)  : mi_P 117 223 [.int 5, .int a2, .int 2, .int a4, .int a5] := by
  refine ⟨.int (-11), mi_G, mi_G, (mi_h117, mi_c117), (mi_h223, mi_c223), 3, 3, rfl, rfl, rfl, by decide, by decide, ?_, ?_⟩
  · refine mi_met_of (y := 117) (q := (mi_h117, mi_c117)) rfl (by decide) (Nat.le_of_ble_eq_true rfl) ?_
    refine mi_sem_steps mi_in117 (mi_calok_none _ _) 1 _ (1, [(0, .ref 0), (1, .int 5), (2, .int a2), (3, .int 2), (4, .int a4), (5, .int a5)], [.int 5], (0, 0), mi_G) (by rfl) ?_
    have hM1955 : mi_Met mi_N0 2 mi_h121 [.int 5] mi_G (some (.int 1)) mi_G := mi_fun_ok mi_N0 2 121 (mi_h121, mi_c121) _ _ _ _ rfl (mi_eR_ok (by decide +kernel))
    refine mi_sem_call mi_in117 (i := (.invokestatic 70, 3, 121, 0, 9, 0, 157)) (by rfl) (by rfl) hM1955 (by decide) ⟨Nat.le_of_ble_eq_true rfl, Nat.le_of_ble_eq_true rfl⟩ ?_
    refine mi_sem_steps mi_in117 (mi_calok_none _ _) 2 _ (8, [(0, .ref 0), (1, .int 5), (2, .int a2), (3, .int 2), (4, .int a4), (5, .int a5)], [.int 2], (0, 0), mi_G) (by rfl) ?_
    have hM1956 : mi_Met mi_N0 2 mi_h121 [.int 2] mi_G (some (.int 1)) mi_G := mi_fun_ok mi_N0 2 121 (mi_h121, mi_c121) _ _ _ _ rfl (mi_eR_ok (by decide +kernel))
    refine mi_sem_call mi_in117 (i := (.invokestatic 70, 3, 121, 0, 9, 0, 157)) (by rfl) (by rfl) hM1956 (by decide) ⟨Nat.le_of_ble_eq_true rfl, Nat.le_of_ble_eq_true rfl⟩ ?_
    refine mi_sem_steps mi_in117 (mi_calok_none _ _) 15 _ (50, [(7, .ref 108), (6, .ref 114), (0, .ref 0), (1, .int 5), (2, .int a2), (3, .int 2), (4, .int a4), (5, .int a5)], [.int (-11)], (0, 0), mi_G) (by rfl) ?_
    exact mi_sem_ret (cal := fun _ _ _ => none) mi_in117 (by rfl)
  · refine mi_met_of (y := 223) (q := (mi_h223, mi_c223)) rfl (by decide) (Nat.le_of_ble_eq_true rfl) ?_
    refine mi_sem_steps mi_in223 (mi_calok_none _ _) 1 _ (1, [(0, .ref 116), (1, .int 5), (2, .int a2), (3, .int 2), (4, .int a4), (5, .int a5)], [.int 5], (0, 0), mi_G) (by rfl) ?_
    have hM1957 : mi_Met mi_N0 2 mi_h133 [.int 5] mi_G (some (.int 1)) mi_G := mi_fun_ok mi_N0 2 133 (mi_h133, mi_c133) _ _ _ _ rfl (mi_eR_ok (by decide +kernel))
    refine mi_sem_call mi_in223 (i := (.invokestatic 127, 3, 133, 0, 9, 0, 382)) (by rfl) (by rfl) hM1957 (by decide) ⟨Nat.le_of_ble_eq_true rfl, Nat.le_of_ble_eq_true rfl⟩ ?_
    refine mi_sem_steps mi_in223 (mi_calok_none _ _) 2 _ (8, [(0, .ref 116), (1, .int 5), (2, .int a2), (3, .int 2), (4, .int a4), (5, .int a5)], [.int 2], (0, 0), mi_G) (by rfl) ?_
    have hM1958 : mi_Met mi_N0 2 mi_h133 [.int 2] mi_G (some (.int 1)) mi_G := mi_fun_ok mi_N0 2 133 (mi_h133, mi_c133) _ _ _ _ rfl (mi_eR_ok (by decide +kernel))
    refine mi_sem_call mi_in223 (i := (.invokestatic 127, 3, 133, 0, 9, 0, 382)) (by rfl) (by rfl) hM1958 (by decide) ⟨Nat.le_of_ble_eq_true rfl, Nat.le_of_ble_eq_true rfl⟩ ?_
    refine mi_sem_steps mi_in223 (mi_calok_none _ _) 8 _ (38, [(0, .ref 116), (1, .int 5), (2, .int a2), (3, .int 2), (4, .int a4), (5, .int a5)], [.int (-11)], (0, 0), mi_G) (by rfl) ?_
    exact mi_sem_ret (cal := fun _ _ _ => none) mi_in223 (by rfl)

set_option maxRecDepth 100000 in
set_option maxHeartbeats 4000000 in
theorem mp_shift_35 (a2 : Int32) (a4 : Int32) (a5 : Int32)  : mi_P 117 223 [.int 5, .int a2, .int 3, .int a4, .int a5] := by
  refine ⟨.int (-11), mi_G, mi_G, (mi_h117, mi_c117), (mi_h223, mi_c223), 3, 3, rfl, rfl, rfl, by decide, by decide, ?_, ?_⟩
  · refine mi_met_of (y := 117) (q := (mi_h117, mi_c117)) rfl (by decide) (Nat.le_of_ble_eq_true rfl) ?_
    refine mi_sem_steps mi_in117 (mi_calok_none _ _) 1 _ (1, [(0, .ref 0), (1, .int 5), (2, .int a2), (3, .int 3), (4, .int a4), (5, .int a5)], [.int 5], (0, 0), mi_G) (by rfl) ?_
    have hM1962 : mi_Met mi_N0 2 mi_h121 [.int 5] mi_G (some (.int 1)) mi_G := mi_fun_ok mi_N0 2 121 (mi_h121, mi_c121) _ _ _ _ rfl (mi_eR_ok (by decide +kernel))
    refine mi_sem_call mi_in117 (i := (.invokestatic 70, 3, 121, 0, 9, 0, 157)) (by rfl) (by rfl) hM1962 (by decide) ⟨Nat.le_of_ble_eq_true rfl, Nat.le_of_ble_eq_true rfl⟩ ?_
    refine mi_sem_steps mi_in117 (mi_calok_none _ _) 2 _ (8, [(0, .ref 0), (1, .int 5), (2, .int a2), (3, .int 3), (4, .int a4), (5, .int a5)], [.int 3], (0, 0), mi_G) (by rfl) ?_
    have hM1963 : mi_Met mi_N0 2 mi_h121 [.int 3] mi_G (some (.int 1)) mi_G := mi_fun_ok mi_N0 2 121 (mi_h121, mi_c121) _ _ _ _ rfl (mi_eR_ok (by decide +kernel))
    refine mi_sem_call mi_in117 (i := (.invokestatic 70, 3, 121, 0, 9, 0, 157)) (by rfl) (by rfl) hM1963 (by decide) ⟨Nat.le_of_ble_eq_true rfl, Nat.le_of_ble_eq_true rfl⟩ ?_
    refine mi_sem_steps mi_in117 (mi_calok_none _ _) 15 _ (50, [(7, .ref 110), (6, .ref 114), (0, .ref 0), (1, .int 5), (2, .int a2), (3, .int 3), (4, .int a4), (5, .int a5)], [.int (-11)], (0, 0), mi_G) (by rfl) ?_
    exact mi_sem_ret (cal := fun _ _ _ => none) mi_in117 (by rfl)
  · refine mi_met_of (y := 223) (q := (mi_h223, mi_c223)) rfl (by decide) (Nat.le_of_ble_eq_true rfl) ?_
    refine mi_sem_steps mi_in223 (mi_calok_none _ _) 1 _ (1, [(0, .ref 116), (1, .int 5), (2, .int a2), (3, .int 3), (4, .int a4), (5, .int a5)], [.int 5], (0, 0), mi_G) (by rfl) ?_
    have hM1964 : mi_Met mi_N0 2 mi_h133 [.int 5] mi_G (some (.int 1)) mi_G := mi_fun_ok mi_N0 2 133 (mi_h133, mi_c133) _ _ _ _ rfl (mi_eR_ok (by decide +kernel))
    refine mi_sem_call mi_in223 (i := (.invokestatic 127, 3, 133, 0, 9, 0, 382)) (by rfl) (by rfl) hM1964 (by decide) ⟨Nat.le_of_ble_eq_true rfl, Nat.le_of_ble_eq_true rfl⟩ ?_
    refine mi_sem_steps mi_in223 (mi_calok_none _ _) 2 _ (8, [(0, .ref 116), (1, .int 5), (2, .int a2), (3, .int 3), (4, .int a4), (5, .int a5)], [.int 3], (0, 0), mi_G) (by rfl) ?_
    have hM1965 : mi_Met mi_N0 2 mi_h133 [.int 3] mi_G (some (.int 1)) mi_G := mi_fun_ok mi_N0 2 133 (mi_h133, mi_c133) _ _ _ _ rfl (mi_eR_ok (by decide +kernel))
    refine mi_sem_call mi_in223 (i := (.invokestatic 127, 3, 133, 0, 9, 0, 382)) (by rfl) (by rfl) hM1965 (by decide) ⟨Nat.le_of_ble_eq_true rfl, Nat.le_of_ble_eq_true rfl⟩ ?_
    refine mi_sem_steps mi_in223 (mi_calok_none _ _) 8 _ (38, [(0, .ref 116), (1, .int 5), (2, .int a2), (3, .int 3), (4, .int a4), (5, .int a5)], [.int (-11)], (0, 0), mi_G) (by rfl) ?_
    exact mi_sem_ret (cal := fun _ _ _ => none) mi_in223 (by rfl)

set_option maxRecDepth 100000 in
set_option maxHeartbeats 4000000 in
theorem mp_shift_36 (a2 : Int32) (a4 : Int32) (a5 : Int32)  : mi_P 117 223 [.int 5, .int a2, .int 4, .int a4, .int a5] := by
  refine ⟨.int (-11), mi_G, mi_G, (mi_h117, mi_c117), (mi_h223, mi_c223), 3, 3, rfl, rfl, rfl, by decide, by decide, ?_, ?_⟩
  · refine mi_met_of (y := 117) (q := (mi_h117, mi_c117)) rfl (by decide) (Nat.le_of_ble_eq_true rfl) ?_
    refine mi_sem_steps mi_in117 (mi_calok_none _ _) 1 _ (1, [(0, .ref 0), (1, .int 5), (2, .int a2), (3, .int 4), (4, .int a4), (5, .int a5)], [.int 5], (0, 0), mi_G) (by rfl) ?_
    have hM1969 : mi_Met mi_N0 2 mi_h121 [.int 5] mi_G (some (.int 1)) mi_G := mi_fun_ok mi_N0 2 121 (mi_h121, mi_c121) _ _ _ _ rfl (mi_eR_ok (by decide +kernel))
    refine mi_sem_call mi_in117 (i := (.invokestatic 70, 3, 121, 0, 9, 0, 157)) (by rfl) (by rfl) hM1969 (by decide) ⟨Nat.le_of_ble_eq_true rfl, Nat.le_of_ble_eq_true rfl⟩ ?_
    refine mi_sem_steps mi_in117 (mi_calok_none _ _) 2 _ (8, [(0, .ref 0), (1, .int 5), (2, .int a2), (3, .int 4), (4, .int a4), (5, .int a5)], [.int 4], (0, 0), mi_G) (by rfl) ?_
    have hM1970 : mi_Met mi_N0 2 mi_h121 [.int 4] mi_G (some (.int 1)) mi_G := mi_fun_ok mi_N0 2 121 (mi_h121, mi_c121) _ _ _ _ rfl (mi_eR_ok (by decide +kernel))
    refine mi_sem_call mi_in117 (i := (.invokestatic 70, 3, 121, 0, 9, 0, 157)) (by rfl) (by rfl) hM1970 (by decide) ⟨Nat.le_of_ble_eq_true rfl, Nat.le_of_ble_eq_true rfl⟩ ?_
    refine mi_sem_steps mi_in117 (mi_calok_none _ _) 15 _ (50, [(7, .ref 112), (6, .ref 114), (0, .ref 0), (1, .int 5), (2, .int a2), (3, .int 4), (4, .int a4), (5, .int a5)], [.int (-11)], (0, 0), mi_G) (by rfl) ?_
    exact mi_sem_ret (cal := fun _ _ _ => none) mi_in117 (by rfl)
  · refine mi_met_of (y := 223) (q := (mi_h223, mi_c223)) rfl (by decide) (Nat.le_of_ble_eq_true rfl) ?_
    refine mi_sem_steps mi_in223 (mi_calok_none _ _) 1 _ (1, [(0, .ref 116), (1, .int 5), (2, .int a2), (3, .int 4), (4, .int a4), (5, .int a5)], [.int 5], (0, 0), mi_G) (by rfl) ?_
    have hM1971 : mi_Met mi_N0 2 mi_h133 [.int 5] mi_G (some (.int 1)) mi_G := mi_fun_ok mi_N0 2 133 (mi_h133, mi_c133) _ _ _ _ rfl (mi_eR_ok (by decide +kernel))
    refine mi_sem_call mi_in223 (i := (.invokestatic 127, 3, 133, 0, 9, 0, 382)) (by rfl) (by rfl) hM1971 (by decide) ⟨Nat.le_of_ble_eq_true rfl, Nat.le_of_ble_eq_true rfl⟩ ?_
    refine mi_sem_steps mi_in223 (mi_calok_none _ _) 2 _ (8, [(0, .ref 116), (1, .int 5), (2, .int a2), (3, .int 4), (4, .int a4), (5, .int a5)], [.int 4], (0, 0), mi_G) (by rfl) ?_
    have hM1972 : mi_Met mi_N0 2 mi_h133 [.int 4] mi_G (some (.int 1)) mi_G := mi_fun_ok mi_N0 2 133 (mi_h133, mi_c133) _ _ _ _ rfl (mi_eR_ok (by decide +kernel))
    refine mi_sem_call mi_in223 (i := (.invokestatic 127, 3, 133, 0, 9, 0, 382)) (by rfl) (by rfl) hM1972 (by decide) ⟨Nat.le_of_ble_eq_true rfl, Nat.le_of_ble_eq_true rfl⟩ ?_
    refine mi_sem_steps mi_in223 (mi_calok_none _ _) 8 _ (38, [(0, .ref 116), (1, .int 5), (2, .int a2), (3, .int 4), (4, .int a4), (5, .int a5)], [.int (-11)], (0, 0), mi_G) (by rfl) ?_
    exact mi_sem_ret (cal := fun _ _ _ => none) mi_in223 (by rfl)

set_option maxRecDepth 100000 in
set_option maxHeartbeats 4000000 in
theorem mp_shift_37 (a2 : Int32) (a4 : Int32) (a5 : Int32)  : mi_P 117 223 [.int 5, .int a2, .int 5, .int a4, .int a5] := by
  refine ⟨.int (-11), mi_G, mi_G, (mi_h117, mi_c117), (mi_h223, mi_c223), 3, 3, rfl, rfl, rfl, by decide, by decide, ?_, ?_⟩
  · refine mi_met_of (y := 117) (q := (mi_h117, mi_c117)) rfl (by decide) (Nat.le_of_ble_eq_true rfl) ?_
    refine mi_sem_steps mi_in117 (mi_calok_none _ _) 1 _ (1, [(0, .ref 0), (1, .int 5), (2, .int a2), (3, .int 5), (4, .int a4), (5, .int a5)], [.int 5], (0, 0), mi_G) (by rfl) ?_
    have hM1973 : mi_Met mi_N0 2 mi_h121 [.int 5] mi_G (some (.int 1)) mi_G := mi_fun_ok mi_N0 2 121 (mi_h121, mi_c121) _ _ _ _ rfl (mi_eR_ok (by decide +kernel))
    refine mi_sem_call mi_in117 (i := (.invokestatic 70, 3, 121, 0, 9, 0, 157)) (by rfl) (by rfl) hM1973 (by decide) ⟨Nat.le_of_ble_eq_true rfl, Nat.le_of_ble_eq_true rfl⟩ ?_
    refine mi_sem_steps mi_in117 (mi_calok_none _ _) 2 _ (8, [(0, .ref 0), (1, .int 5), (2, .int a2), (3, .int 5), (4, .int a4), (5, .int a5)], [.int 5], (0, 0), mi_G) (by rfl) ?_
    have hM1974 : mi_Met mi_N0 2 mi_h121 [.int 5] mi_G (some (.int 1)) mi_G := mi_fun_ok mi_N0 2 121 (mi_h121, mi_c121) _ _ _ _ rfl (mi_eR_ok (by decide +kernel))
    refine mi_sem_call mi_in117 (i := (.invokestatic 70, 3, 121, 0, 9, 0, 157)) (by rfl) (by rfl) hM1974 (by decide) ⟨Nat.le_of_ble_eq_true rfl, Nat.le_of_ble_eq_true rfl⟩ ?_
    refine mi_sem_steps mi_in117 (mi_calok_none _ _) 15 _ (50, [(7, .ref 114), (6, .ref 114), (0, .ref 0), (1, .int 5), (2, .int a2), (3, .int 5), (4, .int a4), (5, .int a5)], [.int (-11)], (0, 0), mi_G) (by rfl) ?_
    exact mi_sem_ret (cal := fun _ _ _ => none) mi_in117 (by rfl)
  · refine mi_met_of (y := 223) (q := (mi_h223, mi_c223)) rfl (by decide) (Nat.le_of_ble_eq_true rfl) ?_
    refine mi_sem_steps mi_in223 (mi_calok_none _ _) 1 _ (1, [(0, .ref 116), (1, .int 5), (2, .int a2), (3, .int 5), (4, .int a4), (5, .int a5)], [.int 5], (0, 0), mi_G) (by rfl) ?_
    have hM1975 : mi_Met mi_N0 2 mi_h133 [.int 5] mi_G (some (.int 1)) mi_G := mi_fun_ok mi_N0 2 133 (mi_h133, mi_c133) _ _ _ _ rfl (mi_eR_ok (by decide +kernel))
    refine mi_sem_call mi_in223 (i := (.invokestatic 127, 3, 133, 0, 9, 0, 382)) (by rfl) (by rfl) hM1975 (by decide) ⟨Nat.le_of_ble_eq_true rfl, Nat.le_of_ble_eq_true rfl⟩ ?_
    refine mi_sem_steps mi_in223 (mi_calok_none _ _) 2 _ (8, [(0, .ref 116), (1, .int 5), (2, .int a2), (3, .int 5), (4, .int a4), (5, .int a5)], [.int 5], (0, 0), mi_G) (by rfl) ?_
    have hM1976 : mi_Met mi_N0 2 mi_h133 [.int 5] mi_G (some (.int 1)) mi_G := mi_fun_ok mi_N0 2 133 (mi_h133, mi_c133) _ _ _ _ rfl (mi_eR_ok (by decide +kernel))
    refine mi_sem_call mi_in223 (i := (.invokestatic 127, 3, 133, 0, 9, 0, 382)) (by rfl) (by rfl) hM1976 (by decide) ⟨Nat.le_of_ble_eq_true rfl, Nat.le_of_ble_eq_true rfl⟩ ?_
    refine mi_sem_steps mi_in223 (mi_calok_none _ _) 8 _ (38, [(0, .ref 116), (1, .int 5), (2, .int a2), (3, .int 5), (4, .int a4), (5, .int a5)], [.int (-11)], (0, 0), mi_G) (by rfl) ?_
    exact mi_sem_ret (cal := fun _ _ _ => none) mi_in223 (by rfl)

set_option maxRecDepth 100000 in
set_option maxHeartbeats 4000000 in
theorem mp_shift_38 (a1 : Int32) (a2 : Int32) (a3 : Int32) (a4 : Int32) (a5 : Int32) (r0 : 0 ≤ (a1).toInt ∧ (a1).toInt ≤ 5) (r1 : 6 ≤ (a3).toInt ∧ (a3).toInt ≤ 2147483647) : mi_P 117 223 [.int a1, .int a2, .int a3, .int a4, .int a5] := by
  refine ⟨.int (-1), mi_G, mi_G, (mi_h117, mi_c117), (mi_h223, mi_c223), 3, 3, rfl, rfl, rfl, by decide, by decide, ?_, ?_⟩
  · refine mi_met_of (y := 117) (q := (mi_h117, mi_c117)) rfl (by decide) (Nat.le_of_ble_eq_true rfl) ?_
    refine mi_sem_steps mi_in117 (mi_calok_none _ _) 1 _ (1, [(0, .ref 0), (1, .int a1), (2, .int a2), (3, .int a3), (4, .int a4), (5, .int a5)], [.int a1], (0, 0), mi_G) (by rfl) ?_
    have hM1978 : mi_Met mi_N0 2 mi_h121 [.int a1] mi_G (some (.int 1)) mi_G := by
      refine mi_met_of (y := 121) (q := (mi_h121, mi_c121)) rfl (by decide) (Nat.le_of_ble_eq_true rfl) ?_
      refine mi_sem_steps mi_in121 (mi_calok_none _ _) 3 _ (3, [(0, .int a1)], [.int 5, .int 0, .int a1], (0, 0), mi_G) (by rfl) ?_
      have hM1977 : mi_Met mi_N0 1 mi_h120 [.int a1, .int 0, .int 5] mi_G (some (.int 1)) mi_G := by
        refine mi_met_of (y := 120) (q := (mi_h120, mi_c120)) rfl (by decide) (Nat.le_of_ble_eq_true rfl) ?_
        refine mi_sem_steps mi_in120 (mi_calok_none _ _) 2 _ (2, [(0, .int a1), (1, .int 0), (2, .int 5)], [.int 0, .int a1], (0, 0), mi_G) (by rfl) ?_
        refine mi_sem_b mi_in120 (decide (a1 < 0)) false (mi_ltF (0) (by decide) (by omega)) 14 5 ([(0, .int a1), (1, .int 0), (2, .int 5)], [], (0, 0), mi_G) (by rfl) ?_
        refine mi_sem_steps mi_in120 (mi_calok_none _ _) 2 _ (7, [(0, .int a1), (1, .int 0), (2, .int 5)], [.int 5, .int a1], (0, 0), mi_G) (by rfl) ?_
        refine mi_sem_b mi_in120 (decide (5 < a1)) false (mi_ltF2 (5) (by decide) (by omega)) 14 10 ([(0, .int a1), (1, .int 0), (2, .int 5)], [], (0, 0), mi_G) (by rfl) ?_
        refine mi_sem_steps mi_in120 (mi_calok_none _ _) 2 _ (15, [(0, .int a1), (1, .int 0), (2, .int 5)], [.int 1], (0, 0), mi_G) (by rfl) ?_
        exact mi_sem_ret (cal := fun _ _ _ => none) mi_in120 (by rfl)
      refine mi_sem_call mi_in121 (i := (.invokestatic 74, 3, 120, 0, 9, 0, 152)) (by rfl) (by rfl) hM1977 (by decide) ⟨Nat.le_of_ble_eq_true rfl, Nat.le_of_ble_eq_true rfl⟩ ?_
      exact mi_sem_ret (cal := fun _ _ _ => none) mi_in121 (by rfl)
    refine mi_sem_call mi_in117 (i := (.invokestatic 70, 3, 121, 0, 9, 0, 157)) (by rfl) (by rfl) hM1978 (by decide) ⟨Nat.le_of_ble_eq_true rfl, Nat.le_of_ble_eq_true rfl⟩ ?_
    refine mi_sem_steps mi_in117 (mi_calok_none _ _) 2 _ (8, [(0, .ref 0), (1, .int a1), (2, .int a2), (3, .int a3), (4, .int a4), (5, .int a5)], [.int a3], (0, 0), mi_G) (by rfl) ?_
    have hM1980 : mi_Met mi_N0 2 mi_h121 [.int a3] mi_G (some (.int 0)) mi_G := by
      refine mi_met_of (y := 121) (q := (mi_h121, mi_c121)) rfl (by decide) (Nat.le_of_ble_eq_true rfl) ?_
      refine mi_sem_steps mi_in121 (mi_calok_none _ _) 3 _ (3, [(0, .int a3)], [.int 5, .int 0, .int a3], (0, 0), mi_G) (by rfl) ?_
      have hM1979 : mi_Met mi_N0 1 mi_h120 [.int a3, .int 0, .int 5] mi_G (some (.int 0)) mi_G := by
        refine mi_met_of (y := 120) (q := (mi_h120, mi_c120)) rfl (by decide) (Nat.le_of_ble_eq_true rfl) ?_
        refine mi_sem_steps mi_in120 (mi_calok_none _ _) 2 _ (2, [(0, .int a3), (1, .int 0), (2, .int 5)], [.int 0, .int a3], (0, 0), mi_G) (by rfl) ?_
        refine mi_sem_b mi_in120 (decide (a3 < 0)) false (mi_ltF (0) (by decide) (by omega)) 14 5 ([(0, .int a3), (1, .int 0), (2, .int 5)], [], (0, 0), mi_G) (by rfl) ?_
        refine mi_sem_steps mi_in120 (mi_calok_none _ _) 2 _ (7, [(0, .int a3), (1, .int 0), (2, .int 5)], [.int 5, .int a3], (0, 0), mi_G) (by rfl) ?_
        refine mi_sem_b mi_in120 (decide (5 < a3)) true (mi_ltT2 (5) (by decide) (by omega)) 14 10 ([(0, .int a3), (1, .int 0), (2, .int 5)], [], (0, 0), mi_G) (by rfl) ?_
        refine mi_sem_steps mi_in120 (mi_calok_none _ _) 1 _ (15, [(0, .int a3), (1, .int 0), (2, .int 5)], [.int 0], (0, 0), mi_G) (by rfl) ?_
        exact mi_sem_ret (cal := fun _ _ _ => none) mi_in120 (by rfl)
      refine mi_sem_call mi_in121 (i := (.invokestatic 74, 3, 120, 0, 9, 0, 152)) (by rfl) (by rfl) hM1979 (by decide) ⟨Nat.le_of_ble_eq_true rfl, Nat.le_of_ble_eq_true rfl⟩ ?_
      exact mi_sem_ret (cal := fun _ _ _ => none) mi_in121 (by rfl)
    refine mi_sem_call mi_in117 (i := (.invokestatic 70, 3, 121, 0, 9, 0, 157)) (by rfl) (by rfl) hM1980 (by decide) ⟨Nat.le_of_ble_eq_true rfl, Nat.le_of_ble_eq_true rfl⟩ ?_
    refine mi_sem_steps mi_in117 (mi_calok_none _ _) 2 _ (15, [(0, .ref 0), (1, .int a1), (2, .int a2), (3, .int a3), (4, .int a4), (5, .int a5)], [.int (-1)], (0, 0), mi_G) (by rfl) ?_
    exact mi_sem_ret (cal := fun _ _ _ => none) mi_in117 (by rfl)
  · refine mi_met_of (y := 223) (q := (mi_h223, mi_c223)) rfl (by decide) (Nat.le_of_ble_eq_true rfl) ?_
    refine mi_sem_steps mi_in223 (mi_calok_none _ _) 1 _ (1, [(0, .ref 116), (1, .int a1), (2, .int a2), (3, .int a3), (4, .int a4), (5, .int a5)], [.int a1], (0, 0), mi_G) (by rfl) ?_
    have hM1982 : mi_Met mi_N0 2 mi_h133 [.int a1] mi_G (some (.int 1)) mi_G := by
      refine mi_met_of (y := 133) (q := (mi_h133, mi_c133)) rfl (by decide) (Nat.le_of_ble_eq_true rfl) ?_
      refine mi_sem_steps mi_in133 (mi_calok_none _ _) 3 _ (3, [(0, .int a1)], [.int 5, .int 0, .int a1], (0, 0), mi_G) (by rfl) ?_
      have hM1981 : mi_Met mi_N0 1 mi_h131 [.int a1, .int 0, .int 5] mi_G (some (.int 1)) mi_G := by
        refine mi_met_of (y := 131) (q := (mi_h131, mi_c131)) rfl (by decide) (Nat.le_of_ble_eq_true rfl) ?_
        refine mi_sem_steps mi_in131 (mi_calok_none _ _) 2 _ (2, [(0, .int a1), (1, .int 0), (2, .int 5)], [.int 0, .int a1], (0, 0), mi_G) (by rfl) ?_
        refine mi_sem_b mi_in131 (decide (a1 < 0)) false (mi_ltF (0) (by decide) (by omega)) 14 5 ([(0, .int a1), (1, .int 0), (2, .int 5)], [], (0, 0), mi_G) (by rfl) ?_
        refine mi_sem_steps mi_in131 (mi_calok_none _ _) 2 _ (7, [(0, .int a1), (1, .int 0), (2, .int 5)], [.int 5, .int a1], (0, 0), mi_G) (by rfl) ?_
        refine mi_sem_b mi_in131 (decide (5 < a1)) false (mi_ltF2 (5) (by decide) (by omega)) 14 10 ([(0, .int a1), (1, .int 0), (2, .int 5)], [], (0, 0), mi_G) (by rfl) ?_
        refine mi_sem_steps mi_in131 (mi_calok_none _ _) 2 _ (15, [(0, .int a1), (1, .int 0), (2, .int 5)], [.int 1], (0, 0), mi_G) (by rfl) ?_
        exact mi_sem_ret (cal := fun _ _ _ => none) mi_in131 (by rfl)
      refine mi_sem_call mi_in133 (i := (.invokestatic 119, 3, 131, 0, 9, 0, 379)) (by rfl) (by rfl) hM1981 (by decide) ⟨Nat.le_of_ble_eq_true rfl, Nat.le_of_ble_eq_true rfl⟩ ?_
      exact mi_sem_ret (cal := fun _ _ _ => none) mi_in133 (by rfl)
    refine mi_sem_call mi_in223 (i := (.invokestatic 127, 3, 133, 0, 9, 0, 382)) (by rfl) (by rfl) hM1982 (by decide) ⟨Nat.le_of_ble_eq_true rfl, Nat.le_of_ble_eq_true rfl⟩ ?_
    refine mi_sem_steps mi_in223 (mi_calok_none _ _) 2 _ (8, [(0, .ref 116), (1, .int a1), (2, .int a2), (3, .int a3), (4, .int a4), (5, .int a5)], [.int a3], (0, 0), mi_G) (by rfl) ?_
    have hM1984 : mi_Met mi_N0 2 mi_h133 [.int a3] mi_G (some (.int 0)) mi_G := by
      refine mi_met_of (y := 133) (q := (mi_h133, mi_c133)) rfl (by decide) (Nat.le_of_ble_eq_true rfl) ?_
      refine mi_sem_steps mi_in133 (mi_calok_none _ _) 3 _ (3, [(0, .int a3)], [.int 5, .int 0, .int a3], (0, 0), mi_G) (by rfl) ?_
      have hM1983 : mi_Met mi_N0 1 mi_h131 [.int a3, .int 0, .int 5] mi_G (some (.int 0)) mi_G := by
        refine mi_met_of (y := 131) (q := (mi_h131, mi_c131)) rfl (by decide) (Nat.le_of_ble_eq_true rfl) ?_
        refine mi_sem_steps mi_in131 (mi_calok_none _ _) 2 _ (2, [(0, .int a3), (1, .int 0), (2, .int 5)], [.int 0, .int a3], (0, 0), mi_G) (by rfl) ?_
        refine mi_sem_b mi_in131 (decide (a3 < 0)) false (mi_ltF (0) (by decide) (by omega)) 14 5 ([(0, .int a3), (1, .int 0), (2, .int 5)], [], (0, 0), mi_G) (by rfl) ?_
        refine mi_sem_steps mi_in131 (mi_calok_none _ _) 2 _ (7, [(0, .int a3), (1, .int 0), (2, .int 5)], [.int 5, .int a3], (0, 0), mi_G) (by rfl) ?_
        refine mi_sem_b mi_in131 (decide (5 < a3)) true (mi_ltT2 (5) (by decide) (by omega)) 14 10 ([(0, .int a3), (1, .int 0), (2, .int 5)], [], (0, 0), mi_G) (by rfl) ?_
        refine mi_sem_steps mi_in131 (mi_calok_none _ _) 1 _ (15, [(0, .int a3), (1, .int 0), (2, .int 5)], [.int 0], (0, 0), mi_G) (by rfl) ?_
        exact mi_sem_ret (cal := fun _ _ _ => none) mi_in131 (by rfl)
      refine mi_sem_call mi_in133 (i := (.invokestatic 119, 3, 131, 0, 9, 0, 379)) (by rfl) (by rfl) hM1983 (by decide) ⟨Nat.le_of_ble_eq_true rfl, Nat.le_of_ble_eq_true rfl⟩ ?_
      exact mi_sem_ret (cal := fun _ _ _ => none) mi_in133 (by rfl)
    refine mi_sem_call mi_in223 (i := (.invokestatic 127, 3, 133, 0, 9, 0, 382)) (by rfl) (by rfl) hM1984 (by decide) ⟨Nat.le_of_ble_eq_true rfl, Nat.le_of_ble_eq_true rfl⟩ ?_
    refine mi_sem_steps mi_in223 (mi_calok_none _ _) 2 _ (15, [(0, .ref 116), (1, .int a1), (2, .int a2), (3, .int a3), (4, .int a4), (5, .int a5)], [.int (-1)], (0, 0), mi_G) (by rfl) ?_
    exact mi_sem_ret (cal := fun _ _ _ => none) mi_in223 (by rfl)

set_option maxRecDepth 100000 in
set_option maxHeartbeats 4000000 in
theorem mp_shift_39 (a1 : Int32) (a2 : Int32) (a3 : Int32) (a4 : Int32) (a5 : Int32) (r0 : 6 ≤ (a1).toInt ∧ (a1).toInt ≤ 2147483647) : mi_P 117 223 [.int a1, .int a2, .int a3, .int a4, .int a5] := by
  refine ⟨.int (-1), mi_G, mi_G, (mi_h117, mi_c117), (mi_h223, mi_c223), 3, 3, rfl, rfl, rfl, by decide, by decide, ?_, ?_⟩
  · refine mi_met_of (y := 117) (q := (mi_h117, mi_c117)) rfl (by decide) (Nat.le_of_ble_eq_true rfl) ?_
    refine mi_sem_steps mi_in117 (mi_calok_none _ _) 1 _ (1, [(0, .ref 0), (1, .int a1), (2, .int a2), (3, .int a3), (4, .int a4), (5, .int a5)], [.int a1], (0, 0), mi_G) (by rfl) ?_
    have hM1986 : mi_Met mi_N0 2 mi_h121 [.int a1] mi_G (some (.int 0)) mi_G := by
      refine mi_met_of (y := 121) (q := (mi_h121, mi_c121)) rfl (by decide) (Nat.le_of_ble_eq_true rfl) ?_
      refine mi_sem_steps mi_in121 (mi_calok_none _ _) 3 _ (3, [(0, .int a1)], [.int 5, .int 0, .int a1], (0, 0), mi_G) (by rfl) ?_
      have hM1985 : mi_Met mi_N0 1 mi_h120 [.int a1, .int 0, .int 5] mi_G (some (.int 0)) mi_G := by
        refine mi_met_of (y := 120) (q := (mi_h120, mi_c120)) rfl (by decide) (Nat.le_of_ble_eq_true rfl) ?_
        refine mi_sem_steps mi_in120 (mi_calok_none _ _) 2 _ (2, [(0, .int a1), (1, .int 0), (2, .int 5)], [.int 0, .int a1], (0, 0), mi_G) (by rfl) ?_
        refine mi_sem_b mi_in120 (decide (a1 < 0)) false (mi_ltF (0) (by decide) (by omega)) 14 5 ([(0, .int a1), (1, .int 0), (2, .int 5)], [], (0, 0), mi_G) (by rfl) ?_
        refine mi_sem_steps mi_in120 (mi_calok_none _ _) 2 _ (7, [(0, .int a1), (1, .int 0), (2, .int 5)], [.int 5, .int a1], (0, 0), mi_G) (by rfl) ?_
        refine mi_sem_b mi_in120 (decide (5 < a1)) true (mi_ltT2 (5) (by decide) (by omega)) 14 10 ([(0, .int a1), (1, .int 0), (2, .int 5)], [], (0, 0), mi_G) (by rfl) ?_
        refine mi_sem_steps mi_in120 (mi_calok_none _ _) 1 _ (15, [(0, .int a1), (1, .int 0), (2, .int 5)], [.int 0], (0, 0), mi_G) (by rfl) ?_
        exact mi_sem_ret (cal := fun _ _ _ => none) mi_in120 (by rfl)
      refine mi_sem_call mi_in121 (i := (.invokestatic 74, 3, 120, 0, 9, 0, 152)) (by rfl) (by rfl) hM1985 (by decide) ⟨Nat.le_of_ble_eq_true rfl, Nat.le_of_ble_eq_true rfl⟩ ?_
      exact mi_sem_ret (cal := fun _ _ _ => none) mi_in121 (by rfl)
    refine mi_sem_call mi_in117 (i := (.invokestatic 70, 3, 121, 0, 9, 0, 157)) (by rfl) (by rfl) hM1986 (by decide) ⟨Nat.le_of_ble_eq_true rfl, Nat.le_of_ble_eq_true rfl⟩ ?_
    refine mi_sem_steps mi_in117 (mi_calok_none _ _) 2 _ (15, [(0, .ref 0), (1, .int a1), (2, .int a2), (3, .int a3), (4, .int a4), (5, .int a5)], [.int (-1)], (0, 0), mi_G) (by rfl) ?_
    exact mi_sem_ret (cal := fun _ _ _ => none) mi_in117 (by rfl)
  · refine mi_met_of (y := 223) (q := (mi_h223, mi_c223)) rfl (by decide) (Nat.le_of_ble_eq_true rfl) ?_
    refine mi_sem_steps mi_in223 (mi_calok_none _ _) 1 _ (1, [(0, .ref 116), (1, .int a1), (2, .int a2), (3, .int a3), (4, .int a4), (5, .int a5)], [.int a1], (0, 0), mi_G) (by rfl) ?_
    have hM1988 : mi_Met mi_N0 2 mi_h133 [.int a1] mi_G (some (.int 0)) mi_G := by
      refine mi_met_of (y := 133) (q := (mi_h133, mi_c133)) rfl (by decide) (Nat.le_of_ble_eq_true rfl) ?_
      refine mi_sem_steps mi_in133 (mi_calok_none _ _) 3 _ (3, [(0, .int a1)], [.int 5, .int 0, .int a1], (0, 0), mi_G) (by rfl) ?_
      have hM1987 : mi_Met mi_N0 1 mi_h131 [.int a1, .int 0, .int 5] mi_G (some (.int 0)) mi_G := by
        refine mi_met_of (y := 131) (q := (mi_h131, mi_c131)) rfl (by decide) (Nat.le_of_ble_eq_true rfl) ?_
        refine mi_sem_steps mi_in131 (mi_calok_none _ _) 2 _ (2, [(0, .int a1), (1, .int 0), (2, .int 5)], [.int 0, .int a1], (0, 0), mi_G) (by rfl) ?_
        refine mi_sem_b mi_in131 (decide (a1 < 0)) false (mi_ltF (0) (by decide) (by omega)) 14 5 ([(0, .int a1), (1, .int 0), (2, .int 5)], [], (0, 0), mi_G) (by rfl) ?_
        refine mi_sem_steps mi_in131 (mi_calok_none _ _) 2 _ (7, [(0, .int a1), (1, .int 0), (2, .int 5)], [.int 5, .int a1], (0, 0), mi_G) (by rfl) ?_
        refine mi_sem_b mi_in131 (decide (5 < a1)) true (mi_ltT2 (5) (by decide) (by omega)) 14 10 ([(0, .int a1), (1, .int 0), (2, .int 5)], [], (0, 0), mi_G) (by rfl) ?_
        refine mi_sem_steps mi_in131 (mi_calok_none _ _) 1 _ (15, [(0, .int a1), (1, .int 0), (2, .int 5)], [.int 0], (0, 0), mi_G) (by rfl) ?_
        exact mi_sem_ret (cal := fun _ _ _ => none) mi_in131 (by rfl)
      refine mi_sem_call mi_in133 (i := (.invokestatic 119, 3, 131, 0, 9, 0, 379)) (by rfl) (by rfl) hM1987 (by decide) ⟨Nat.le_of_ble_eq_true rfl, Nat.le_of_ble_eq_true rfl⟩ ?_
      exact mi_sem_ret (cal := fun _ _ _ => none) mi_in133 (by rfl)
    refine mi_sem_call mi_in223 (i := (.invokestatic 127, 3, 133, 0, 9, 0, 382)) (by rfl) (by rfl) hM1988 (by decide) ⟨Nat.le_of_ble_eq_true rfl, Nat.le_of_ble_eq_true rfl⟩ ?_
    refine mi_sem_steps mi_in223 (mi_calok_none _ _) 2 _ (15, [(0, .ref 116), (1, .int a1), (2, .int a2), (3, .int a3), (4, .int a4), (5, .int a5)], [.int (-1)], (0, 0), mi_G) (by rfl) ?_
    exact mi_sem_ret (cal := fun _ _ _ => none) mi_in223 (by rfl)

set_option maxRecDepth 100000 in
set_option maxHeartbeats 4000000 in
theorem mp_shift (a1 : Int32) (a2 : Int32) (a3 : Int32) (a4 : Int32) (a5 : Int32) : mi_P 117 223 [.int a1, .int a2, .int a3, .int a4, .int a5] := by
  have b0 := Int32.toInt_lt (a1)
  have c0 := Int32.le_toInt (a1)
  have b1 := Int32.toInt_lt (a3)
  have c1 := Int32.le_toInt (a3)
  rcases Int.lt_or_le (a1).toInt 0 with _hh | _hh
  ·
    exact mp_shift_0 a1 a2 a3 a4 a5 ⟨by omega, by omega⟩
  ·
    rcases Int.lt_or_le (a1).toInt 6 with _hh | _hh
    ·
      rcases Int.lt_or_le (a3).toInt 0 with _hh | _hh
      ·
        exact mp_shift_1 a1 a2 a3 a4 a5 ⟨by omega, by omega⟩ ⟨by omega, by omega⟩
      ·
        rcases Int.lt_or_le (a3).toInt 6 with _hh | _hh
        ·
          rcases Int.lt_or_le (a1).toInt 1 with _hh | _hh
          ·
            rcases Int.lt_or_le (a3).toInt 1 with _hh | _hh
            ·
              have e_a1 : a1 = 0 := Int32.toInt_inj.mp ((by omega : (a1).toInt = 0).trans (by decide))
              subst e_a1
              have e_a3 : a3 = 0 := Int32.toInt_inj.mp ((by omega : (a3).toInt = 0).trans (by decide))
              subst e_a3
              exact mp_shift_2 a2 a4 a5 
            ·
              rcases Int.lt_or_le (a3).toInt 2 with _hh | _hh
              ·
                have e_a1 : a1 = 0 := Int32.toInt_inj.mp ((by omega : (a1).toInt = 0).trans (by decide))
                subst e_a1
                have e_a3 : a3 = 1 := Int32.toInt_inj.mp ((by omega : (a3).toInt = 1).trans (by decide))
                subst e_a3
                exact mp_shift_3 a2 a4 a5 
              ·
                rcases Int.lt_or_le (a3).toInt 3 with _hh | _hh
                ·
                  have e_a1 : a1 = 0 := Int32.toInt_inj.mp ((by omega : (a1).toInt = 0).trans (by decide))
                  subst e_a1
                  have e_a3 : a3 = 2 := Int32.toInt_inj.mp ((by omega : (a3).toInt = 2).trans (by decide))
                  subst e_a3
                  exact mp_shift_4 a2 a4 a5 
                ·
                  rcases Int.lt_or_le (a3).toInt 4 with _hh | _hh
                  ·
                    have e_a1 : a1 = 0 := Int32.toInt_inj.mp ((by omega : (a1).toInt = 0).trans (by decide))
                    subst e_a1
                    have e_a3 : a3 = 3 := Int32.toInt_inj.mp ((by omega : (a3).toInt = 3).trans (by decide))
                    subst e_a3
                    exact mp_shift_5 a2 a4 a5 
                  ·
                    rcases Int.lt_or_le (a3).toInt 5 with _hh | _hh
                    ·
                      have e_a1 : a1 = 0 := Int32.toInt_inj.mp ((by omega : (a1).toInt = 0).trans (by decide))
                      subst e_a1
                      have e_a3 : a3 = 4 := Int32.toInt_inj.mp ((by omega : (a3).toInt = 4).trans (by decide))
                      subst e_a3
                      exact mp_shift_6 a2 a4 a5 
                    ·
                      have e_a1 : a1 = 0 := Int32.toInt_inj.mp ((by omega : (a1).toInt = 0).trans (by decide))
                      subst e_a1
                      have e_a3 : a3 = 5 := Int32.toInt_inj.mp ((by omega : (a3).toInt = 5).trans (by decide))
                      subst e_a3
                      exact mp_shift_7 a2 a4 a5 
          ·
            rcases Int.lt_or_le (a1).toInt 2 with _hh | _hh
            ·
              rcases Int.lt_or_le (a3).toInt 1 with _hh | _hh
              ·
                have e_a1 : a1 = 1 := Int32.toInt_inj.mp ((by omega : (a1).toInt = 1).trans (by decide))
                subst e_a1
                have e_a3 : a3 = 0 := Int32.toInt_inj.mp ((by omega : (a3).toInt = 0).trans (by decide))
                subst e_a3
                exact mp_shift_8 a2 a4 a5 
              ·
                rcases Int.lt_or_le (a3).toInt 2 with _hh | _hh
                ·
                  have e_a1 : a1 = 1 := Int32.toInt_inj.mp ((by omega : (a1).toInt = 1).trans (by decide))
                  subst e_a1
                  have e_a3 : a3 = 1 := Int32.toInt_inj.mp ((by omega : (a3).toInt = 1).trans (by decide))
                  subst e_a3
                  exact mp_shift_9 a2 a4 a5 
                ·
                  rcases Int.lt_or_le (a3).toInt 3 with _hh | _hh
                  ·
                    have e_a1 : a1 = 1 := Int32.toInt_inj.mp ((by omega : (a1).toInt = 1).trans (by decide))
                    subst e_a1
                    have e_a3 : a3 = 2 := Int32.toInt_inj.mp ((by omega : (a3).toInt = 2).trans (by decide))
                    subst e_a3
                    exact mp_shift_10 a2 a4 a5 
                  ·
                    rcases Int.lt_or_le (a3).toInt 4 with _hh | _hh
                    ·
                      have e_a1 : a1 = 1 := Int32.toInt_inj.mp ((by omega : (a1).toInt = 1).trans (by decide))
                      subst e_a1
                      have e_a3 : a3 = 3 := Int32.toInt_inj.mp ((by omega : (a3).toInt = 3).trans (by decide))
                      subst e_a3
                      exact mp_shift_11 a2 a4 a5 
                    ·
                      rcases Int.lt_or_le (a3).toInt 5 with _hh | _hh
                      ·
                        have e_a1 : a1 = 1 := Int32.toInt_inj.mp ((by omega : (a1).toInt = 1).trans (by decide))
                        subst e_a1
                        have e_a3 : a3 = 4 := Int32.toInt_inj.mp ((by omega : (a3).toInt = 4).trans (by decide))
                        subst e_a3
                        exact mp_shift_12 a2 a4 a5 
                      ·
                        have e_a1 : a1 = 1 := Int32.toInt_inj.mp ((by omega : (a1).toInt = 1).trans (by decide))
                        subst e_a1
                        have e_a3 : a3 = 5 := Int32.toInt_inj.mp ((by omega : (a3).toInt = 5).trans (by decide))
                        subst e_a3
                        exact mp_shift_13 a2 a4 a5 
            ·
              rcases Int.lt_or_le (a1).toInt 3 with _hh | _hh
              ·
                rcases Int.lt_or_le (a3).toInt 1 with _hh | _hh
                ·
                  have e_a1 : a1 = 2 := Int32.toInt_inj.mp ((by omega : (a1).toInt = 2).trans (by decide))
                  subst e_a1
                  have e_a3 : a3 = 0 := Int32.toInt_inj.mp ((by omega : (a3).toInt = 0).trans (by decide))
                  subst e_a3
                  exact mp_shift_14 a2 a4 a5 
                ·
                  rcases Int.lt_or_le (a3).toInt 2 with _hh | _hh
                  ·
                    have e_a1 : a1 = 2 := Int32.toInt_inj.mp ((by omega : (a1).toInt = 2).trans (by decide))
                    subst e_a1
                    have e_a3 : a3 = 1 := Int32.toInt_inj.mp ((by omega : (a3).toInt = 1).trans (by decide))
                    subst e_a3
                    exact mp_shift_15 a2 a4 a5 
                  ·
                    rcases Int.lt_or_le (a3).toInt 3 with _hh | _hh
                    ·
                      have e_a1 : a1 = 2 := Int32.toInt_inj.mp ((by omega : (a1).toInt = 2).trans (by decide))
                      subst e_a1
                      have e_a3 : a3 = 2 := Int32.toInt_inj.mp ((by omega : (a3).toInt = 2).trans (by decide))
                      subst e_a3
                      exact mp_shift_16 a2 a4 a5 
                    ·
                      rcases Int.lt_or_le (a3).toInt 4 with _hh | _hh
                      ·
                        have e_a1 : a1 = 2 := Int32.toInt_inj.mp ((by omega : (a1).toInt = 2).trans (by decide))
                        subst e_a1
                        have e_a3 : a3 = 3 := Int32.toInt_inj.mp ((by omega : (a3).toInt = 3).trans (by decide))
                        subst e_a3
                        exact mp_shift_17 a2 a4 a5 
                      ·
                        rcases Int.lt_or_le (a3).toInt 5 with _hh | _hh
                        ·
                          have e_a1 : a1 = 2 := Int32.toInt_inj.mp ((by omega : (a1).toInt = 2).trans (by decide))
                          subst e_a1
                          have e_a3 : a3 = 4 := Int32.toInt_inj.mp ((by omega : (a3).toInt = 4).trans (by decide))
                          subst e_a3
                          exact mp_shift_18 a2 a4 a5 
                        ·
                          have e_a1 : a1 = 2 := Int32.toInt_inj.mp ((by omega : (a1).toInt = 2).trans (by decide))
                          subst e_a1
                          have e_a3 : a3 = 5 := Int32.toInt_inj.mp ((by omega : (a3).toInt = 5).trans (by decide))
                          subst e_a3
                          exact mp_shift_19 a2 a4 a5 
              ·
                rcases Int.lt_or_le (a1).toInt 4 with _hh | _hh
                ·
                  rcases Int.lt_or_le (a3).toInt 1 with _hh | _hh
                  ·
                    have e_a1 : a1 = 3 := Int32.toInt_inj.mp ((by omega : (a1).toInt = 3).trans (by decide))
                    subst e_a1
                    have e_a3 : a3 = 0 := Int32.toInt_inj.mp ((by omega : (a3).toInt = 0).trans (by decide))
                    subst e_a3
                    exact mp_shift_20 a2 a4 a5 
                  ·
                    rcases Int.lt_or_le (a3).toInt 2 with _hh | _hh
                    ·
                      have e_a1 : a1 = 3 := Int32.toInt_inj.mp ((by omega : (a1).toInt = 3).trans (by decide))
                      subst e_a1
                      have e_a3 : a3 = 1 := Int32.toInt_inj.mp ((by omega : (a3).toInt = 1).trans (by decide))
                      subst e_a3
                      exact mp_shift_21 a2 a4 a5 
                    ·
                      rcases Int.lt_or_le (a3).toInt 3 with _hh | _hh
                      ·
                        have e_a1 : a1 = 3 := Int32.toInt_inj.mp ((by omega : (a1).toInt = 3).trans (by decide))
                        subst e_a1
                        have e_a3 : a3 = 2 := Int32.toInt_inj.mp ((by omega : (a3).toInt = 2).trans (by decide))
                        subst e_a3
                        exact mp_shift_22 a2 a4 a5 
                      ·
                        rcases Int.lt_or_le (a3).toInt 4 with _hh | _hh
                        ·
                          have e_a1 : a1 = 3 := Int32.toInt_inj.mp ((by omega : (a1).toInt = 3).trans (by decide))
                          subst e_a1
                          have e_a3 : a3 = 3 := Int32.toInt_inj.mp ((by omega : (a3).toInt = 3).trans (by decide))
                          subst e_a3
                          exact mp_shift_23 a2 a4 a5 
                        ·
                          rcases Int.lt_or_le (a3).toInt 5 with _hh | _hh
                          ·
                            have e_a1 : a1 = 3 := Int32.toInt_inj.mp ((by omega : (a1).toInt = 3).trans (by decide))
                            subst e_a1
                            have e_a3 : a3 = 4 := Int32.toInt_inj.mp ((by omega : (a3).toInt = 4).trans (by decide))
                            subst e_a3
                            exact mp_shift_24 a2 a4 a5 
                          ·
                            have e_a1 : a1 = 3 := Int32.toInt_inj.mp ((by omega : (a1).toInt = 3).trans (by decide))
                            subst e_a1
                            have e_a3 : a3 = 5 := Int32.toInt_inj.mp ((by omega : (a3).toInt = 5).trans (by decide))
                            subst e_a3
                            exact mp_shift_25 a2 a4 a5 
                ·
                  rcases Int.lt_or_le (a1).toInt 5 with _hh | _hh
                  ·
                    rcases Int.lt_or_le (a3).toInt 1 with _hh | _hh
                    ·
                      have e_a1 : a1 = 4 := Int32.toInt_inj.mp ((by omega : (a1).toInt = 4).trans (by decide))
                      subst e_a1
                      have e_a3 : a3 = 0 := Int32.toInt_inj.mp ((by omega : (a3).toInt = 0).trans (by decide))
                      subst e_a3
                      exact mp_shift_26 a2 a4 a5 
                    ·
                      rcases Int.lt_or_le (a3).toInt 2 with _hh | _hh
                      ·
                        have e_a1 : a1 = 4 := Int32.toInt_inj.mp ((by omega : (a1).toInt = 4).trans (by decide))
                        subst e_a1
                        have e_a3 : a3 = 1 := Int32.toInt_inj.mp ((by omega : (a3).toInt = 1).trans (by decide))
                        subst e_a3
                        exact mp_shift_27 a2 a4 a5 
                      ·
                        rcases Int.lt_or_le (a3).toInt 3 with _hh | _hh
                        ·
                          have e_a1 : a1 = 4 := Int32.toInt_inj.mp ((by omega : (a1).toInt = 4).trans (by decide))
                          subst e_a1
                          have e_a3 : a3 = 2 := Int32.toInt_inj.mp ((by omega : (a3).toInt = 2).trans (by decide))
                          subst e_a3
                          exact mp_shift_28 a2 a4 a5 
                        ·
                          rcases Int.lt_or_le (a3).toInt 4 with _hh | _hh
                          ·
                            have e_a1 : a1 = 4 := Int32.toInt_inj.mp ((by omega : (a1).toInt = 4).trans (by decide))
                            subst e_a1
                            have e_a3 : a3 = 3 := Int32.toInt_inj.mp ((by omega : (a3).toInt = 3).trans (by decide))
                            subst e_a3
                            exact mp_shift_29 a2 a4 a5 
                          ·
                            rcases Int.lt_or_le (a3).toInt 5 with _hh | _hh
                            ·
                              have e_a1 : a1 = 4 := Int32.toInt_inj.mp ((by omega : (a1).toInt = 4).trans (by decide))
                              subst e_a1
                              have e_a3 : a3 = 4 := Int32.toInt_inj.mp ((by omega : (a3).toInt = 4).trans (by decide))
                              subst e_a3
                              exact mp_shift_30 a2 a4 a5 
                            ·
                              have e_a1 : a1 = 4 := Int32.toInt_inj.mp ((by omega : (a1).toInt = 4).trans (by decide))
                              subst e_a1
                              have e_a3 : a3 = 5 := Int32.toInt_inj.mp ((by omega : (a3).toInt = 5).trans (by decide))
                              subst e_a3
                              exact mp_shift_31 a2 a4 a5 
                  ·
                    rcases Int.lt_or_le (a3).toInt 1 with _hh | _hh
                    ·
                      have e_a1 : a1 = 5 := Int32.toInt_inj.mp ((by omega : (a1).toInt = 5).trans (by decide))
                      subst e_a1
                      have e_a3 : a3 = 0 := Int32.toInt_inj.mp ((by omega : (a3).toInt = 0).trans (by decide))
                      subst e_a3
                      exact mp_shift_32 a2 a4 a5 
                    ·
                      rcases Int.lt_or_le (a3).toInt 2 with _hh | _hh
                      ·
                        have e_a1 : a1 = 5 := Int32.toInt_inj.mp ((by omega : (a1).toInt = 5).trans (by decide))
                        subst e_a1
                        have e_a3 : a3 = 1 := Int32.toInt_inj.mp ((by omega : (a3).toInt = 1).trans (by decide))
                        subst e_a3
                        exact mp_shift_33 a2 a4 a5 
                      ·
                        rcases Int.lt_or_le (a3).toInt 3 with _hh | _hh
                        ·
                          have e_a1 : a1 = 5 := Int32.toInt_inj.mp ((by omega : (a1).toInt = 5).trans (by decide))
                          subst e_a1
                          have e_a3 : a3 = 2 := Int32.toInt_inj.mp ((by omega : (a3).toInt = 2).trans (by decide))
                          subst e_a3
                          exact mp_shift_34 a2 a4 a5 
                        ·
                          rcases Int.lt_or_le (a3).toInt 4 with _hh | _hh
                          ·
                            have e_a1 : a1 = 5 := Int32.toInt_inj.mp ((by omega : (a1).toInt = 5).trans (by decide))
                            subst e_a1
                            have e_a3 : a3 = 3 := Int32.toInt_inj.mp ((by omega : (a3).toInt = 3).trans (by decide))
                            subst e_a3
                            exact mp_shift_35 a2 a4 a5 
                          ·
                            rcases Int.lt_or_le (a3).toInt 5 with _hh | _hh
                            ·
                              have e_a1 : a1 = 5 := Int32.toInt_inj.mp ((by omega : (a1).toInt = 5).trans (by decide))
                              subst e_a1
                              have e_a3 : a3 = 4 := Int32.toInt_inj.mp ((by omega : (a3).toInt = 4).trans (by decide))
                              subst e_a3
                              exact mp_shift_36 a2 a4 a5 
                            ·
                              have e_a1 : a1 = 5 := Int32.toInt_inj.mp ((by omega : (a1).toInt = 5).trans (by decide))
                              subst e_a1
                              have e_a3 : a3 = 5 := Int32.toInt_inj.mp ((by omega : (a3).toInt = 5).trans (by decide))
                              subst e_a3
                              exact mp_shift_37 a2 a4 a5 
        ·
          exact mp_shift_38 a1 a2 a3 a4 a5 ⟨by omega, by omega⟩ ⟨by omega, by omega⟩
    ·
      exact mp_shift_39 a1 a2 a3 a4 a5 ⟨by omega, by omega⟩

set_option maxRecDepth 100000 in
set_option maxHeartbeats 4000000 in
theorem mp_taken_0 (a1 : Int32) (a2 : Int32) (r0 : (-2147483648) ≤ (a1).toInt ∧ (a1).toInt ≤ (-1)) : mi_P 118 224 [.int a1, .int a2] := by
  refine ⟨.int (-1), mi_G, mi_G, (mi_h118, mi_c118), (mi_h224, mi_c224), 3, 3, rfl, rfl, rfl, by decide, by decide, ?_, ?_⟩
  · refine mi_met_of (y := 118) (q := (mi_h118, mi_c118)) rfl (by decide) (Nat.le_of_ble_eq_true rfl) ?_
    refine mi_sem_steps mi_in118 (mi_calok_none _ _) 1 _ (1, [(0, .ref 0), (1, .int a1), (2, .int a2)], [.int a1], (0, 0), mi_G) (by rfl) ?_
    have hM1990 : mi_Met mi_N0 2 mi_h121 [.int a1] mi_G (some (.int 0)) mi_G := by
      refine mi_met_of (y := 121) (q := (mi_h121, mi_c121)) rfl (by decide) (Nat.le_of_ble_eq_true rfl) ?_
      refine mi_sem_steps mi_in121 (mi_calok_none _ _) 3 _ (3, [(0, .int a1)], [.int 5, .int 0, .int a1], (0, 0), mi_G) (by rfl) ?_
      have hM1989 : mi_Met mi_N0 1 mi_h120 [.int a1, .int 0, .int 5] mi_G (some (.int 0)) mi_G := by
        refine mi_met_of (y := 120) (q := (mi_h120, mi_c120)) rfl (by decide) (Nat.le_of_ble_eq_true rfl) ?_
        refine mi_sem_steps mi_in120 (mi_calok_none _ _) 2 _ (2, [(0, .int a1), (1, .int 0), (2, .int 5)], [.int 0, .int a1], (0, 0), mi_G) (by rfl) ?_
        refine mi_sem_b mi_in120 (decide (a1 < 0)) true (mi_ltT (0) (by decide) (by omega)) 14 5 ([(0, .int a1), (1, .int 0), (2, .int 5)], [], (0, 0), mi_G) (by rfl) ?_
        refine mi_sem_steps mi_in120 (mi_calok_none _ _) 1 _ (15, [(0, .int a1), (1, .int 0), (2, .int 5)], [.int 0], (0, 0), mi_G) (by rfl) ?_
        exact mi_sem_ret (cal := fun _ _ _ => none) mi_in120 (by rfl)
      refine mi_sem_call mi_in121 (i := (.invokestatic 74, 3, 120, 0, 9, 0, 152)) (by rfl) (by rfl) hM1989 (by decide) ⟨Nat.le_of_ble_eq_true rfl, Nat.le_of_ble_eq_true rfl⟩ ?_
      exact mi_sem_ret (cal := fun _ _ _ => none) mi_in121 (by rfl)
    refine mi_sem_call mi_in118 (i := (.invokestatic 70, 3, 121, 0, 9, 0, 157)) (by rfl) (by rfl) hM1990 (by decide) ⟨Nat.le_of_ble_eq_true rfl, Nat.le_of_ble_eq_true rfl⟩ ?_
    refine mi_sem_steps mi_in118 (mi_calok_none _ _) 2 _ (18, [(0, .ref 0), (1, .int a1), (2, .int a2)], [.int (-1)], (0, 0), mi_G) (by rfl) ?_
    exact mi_sem_ret (cal := fun _ _ _ => none) mi_in118 (by rfl)
  · refine mi_met_of (y := 224) (q := (mi_h224, mi_c224)) rfl (by decide) (Nat.le_of_ble_eq_true rfl) ?_
    refine mi_sem_steps mi_in224 (mi_calok_none _ _) 1 _ (1, [(0, .ref 116), (1, .int a1), (2, .int a2)], [.int a1], (0, 0), mi_G) (by rfl) ?_
    have hM1992 : mi_Met mi_N0 2 mi_h133 [.int a1] mi_G (some (.int 0)) mi_G := by
      refine mi_met_of (y := 133) (q := (mi_h133, mi_c133)) rfl (by decide) (Nat.le_of_ble_eq_true rfl) ?_
      refine mi_sem_steps mi_in133 (mi_calok_none _ _) 3 _ (3, [(0, .int a1)], [.int 5, .int 0, .int a1], (0, 0), mi_G) (by rfl) ?_
      have hM1991 : mi_Met mi_N0 1 mi_h131 [.int a1, .int 0, .int 5] mi_G (some (.int 0)) mi_G := by
        refine mi_met_of (y := 131) (q := (mi_h131, mi_c131)) rfl (by decide) (Nat.le_of_ble_eq_true rfl) ?_
        refine mi_sem_steps mi_in131 (mi_calok_none _ _) 2 _ (2, [(0, .int a1), (1, .int 0), (2, .int 5)], [.int 0, .int a1], (0, 0), mi_G) (by rfl) ?_
        refine mi_sem_b mi_in131 (decide (a1 < 0)) true (mi_ltT (0) (by decide) (by omega)) 14 5 ([(0, .int a1), (1, .int 0), (2, .int 5)], [], (0, 0), mi_G) (by rfl) ?_
        refine mi_sem_steps mi_in131 (mi_calok_none _ _) 1 _ (15, [(0, .int a1), (1, .int 0), (2, .int 5)], [.int 0], (0, 0), mi_G) (by rfl) ?_
        exact mi_sem_ret (cal := fun _ _ _ => none) mi_in131 (by rfl)
      refine mi_sem_call mi_in133 (i := (.invokestatic 119, 3, 131, 0, 9, 0, 379)) (by rfl) (by rfl) hM1991 (by decide) ⟨Nat.le_of_ble_eq_true rfl, Nat.le_of_ble_eq_true rfl⟩ ?_
      exact mi_sem_ret (cal := fun _ _ _ => none) mi_in133 (by rfl)
    refine mi_sem_call mi_in224 (i := (.invokestatic 127, 3, 133, 0, 9, 0, 382)) (by rfl) (by rfl) hM1992 (by decide) ⟨Nat.le_of_ble_eq_true rfl, Nat.le_of_ble_eq_true rfl⟩ ?_
    refine mi_sem_steps mi_in224 (mi_calok_none _ _) 2 _ (18, [(0, .ref 116), (1, .int a1), (2, .int a2)], [.int (-1)], (0, 0), mi_G) (by rfl) ?_
    exact mi_sem_ret (cal := fun _ _ _ => none) mi_in224 (by rfl)

set_option maxRecDepth 100000 in
set_option maxHeartbeats 4000000 in
theorem mp_taken_1 (a1 : Int32) (a2 : Int32) (r0 : 0 ≤ (a1).toInt ∧ (a1).toInt ≤ 5) (r1 : (-2147483648) ≤ (a2).toInt ∧ (a2).toInt ≤ (-1)) : mi_P 118 224 [.int a1, .int a2] := by
  refine ⟨.int (-1), mi_G, mi_G, (mi_h118, mi_c118), (mi_h224, mi_c224), 3, 3, rfl, rfl, rfl, by decide, by decide, ?_, ?_⟩
  · refine mi_met_of (y := 118) (q := (mi_h118, mi_c118)) rfl (by decide) (Nat.le_of_ble_eq_true rfl) ?_
    refine mi_sem_steps mi_in118 (mi_calok_none _ _) 1 _ (1, [(0, .ref 0), (1, .int a1), (2, .int a2)], [.int a1], (0, 0), mi_G) (by rfl) ?_
    have hM1996 : mi_Met mi_N0 2 mi_h121 [.int a1] mi_G (some (.int 1)) mi_G := by
      refine mi_met_of (y := 121) (q := (mi_h121, mi_c121)) rfl (by decide) (Nat.le_of_ble_eq_true rfl) ?_
      refine mi_sem_steps mi_in121 (mi_calok_none _ _) 3 _ (3, [(0, .int a1)], [.int 5, .int 0, .int a1], (0, 0), mi_G) (by rfl) ?_
      have hM1995 : mi_Met mi_N0 1 mi_h120 [.int a1, .int 0, .int 5] mi_G (some (.int 1)) mi_G := by
        refine mi_met_of (y := 120) (q := (mi_h120, mi_c120)) rfl (by decide) (Nat.le_of_ble_eq_true rfl) ?_
        refine mi_sem_steps mi_in120 (mi_calok_none _ _) 2 _ (2, [(0, .int a1), (1, .int 0), (2, .int 5)], [.int 0, .int a1], (0, 0), mi_G) (by rfl) ?_
        refine mi_sem_b mi_in120 (decide (a1 < 0)) false (mi_ltF (0) (by decide) (by omega)) 14 5 ([(0, .int a1), (1, .int 0), (2, .int 5)], [], (0, 0), mi_G) (by rfl) ?_
        refine mi_sem_steps mi_in120 (mi_calok_none _ _) 2 _ (7, [(0, .int a1), (1, .int 0), (2, .int 5)], [.int 5, .int a1], (0, 0), mi_G) (by rfl) ?_
        refine mi_sem_b mi_in120 (decide (5 < a1)) false (mi_ltF2 (5) (by decide) (by omega)) 14 10 ([(0, .int a1), (1, .int 0), (2, .int 5)], [], (0, 0), mi_G) (by rfl) ?_
        refine mi_sem_steps mi_in120 (mi_calok_none _ _) 2 _ (15, [(0, .int a1), (1, .int 0), (2, .int 5)], [.int 1], (0, 0), mi_G) (by rfl) ?_
        exact mi_sem_ret (cal := fun _ _ _ => none) mi_in120 (by rfl)
      refine mi_sem_call mi_in121 (i := (.invokestatic 74, 3, 120, 0, 9, 0, 152)) (by rfl) (by rfl) hM1995 (by decide) ⟨Nat.le_of_ble_eq_true rfl, Nat.le_of_ble_eq_true rfl⟩ ?_
      exact mi_sem_ret (cal := fun _ _ _ => none) mi_in121 (by rfl)
    refine mi_sem_call mi_in118 (i := (.invokestatic 70, 3, 121, 0, 9, 0, 157)) (by rfl) (by rfl) hM1996 (by decide) ⟨Nat.le_of_ble_eq_true rfl, Nat.le_of_ble_eq_true rfl⟩ ?_
    refine mi_sem_steps mi_in118 (mi_calok_none _ _) 4 _ (11, [(0, .ref 0), (1, .int a1), (2, .int a2)], [.int 7, .int 0, .int a2], (0, 0), mi_G) (by rfl) ?_
    have hM1997 : mi_Met mi_N0 1 mi_h120 [.int a2, .int 0, .int 7] mi_G (some (.int 0)) mi_G := by
      refine mi_met_of (y := 120) (q := (mi_h120, mi_c120)) rfl (by decide) (Nat.le_of_ble_eq_true rfl) ?_
      refine mi_sem_steps mi_in120 (mi_calok_none _ _) 2 _ (2, [(0, .int a2), (1, .int 0), (2, .int 7)], [.int 0, .int a2], (0, 0), mi_G) (by rfl) ?_
      refine mi_sem_b mi_in120 (decide (a2 < 0)) true (mi_ltT (0) (by decide) (by omega)) 14 5 ([(0, .int a2), (1, .int 0), (2, .int 7)], [], (0, 0), mi_G) (by rfl) ?_
      refine mi_sem_steps mi_in120 (mi_calok_none _ _) 1 _ (15, [(0, .int a2), (1, .int 0), (2, .int 7)], [.int 0], (0, 0), mi_G) (by rfl) ?_
      exact mi_sem_ret (cal := fun _ _ _ => none) mi_in120 (by rfl)
    refine mi_sem_call mi_in118 (i := (.invokestatic 74, 3, 120, 0, 9, 0, 152)) (by rfl) (by rfl) hM1997 (by decide) ⟨Nat.le_of_ble_eq_true rfl, Nat.le_of_ble_eq_true rfl⟩ ?_
    refine mi_sem_steps mi_in118 (mi_calok_none _ _) 2 _ (18, [(0, .ref 0), (1, .int a1), (2, .int a2)], [.int (-1)], (0, 0), mi_G) (by rfl) ?_
    exact mi_sem_ret (cal := fun _ _ _ => none) mi_in118 (by rfl)
  · refine mi_met_of (y := 224) (q := (mi_h224, mi_c224)) rfl (by decide) (Nat.le_of_ble_eq_true rfl) ?_
    refine mi_sem_steps mi_in224 (mi_calok_none _ _) 1 _ (1, [(0, .ref 116), (1, .int a1), (2, .int a2)], [.int a1], (0, 0), mi_G) (by rfl) ?_
    have hM1999 : mi_Met mi_N0 2 mi_h133 [.int a1] mi_G (some (.int 1)) mi_G := by
      refine mi_met_of (y := 133) (q := (mi_h133, mi_c133)) rfl (by decide) (Nat.le_of_ble_eq_true rfl) ?_
      refine mi_sem_steps mi_in133 (mi_calok_none _ _) 3 _ (3, [(0, .int a1)], [.int 5, .int 0, .int a1], (0, 0), mi_G) (by rfl) ?_
      have hM1998 : mi_Met mi_N0 1 mi_h131 [.int a1, .int 0, .int 5] mi_G (some (.int 1)) mi_G := by
        refine mi_met_of (y := 131) (q := (mi_h131, mi_c131)) rfl (by decide) (Nat.le_of_ble_eq_true rfl) ?_
        refine mi_sem_steps mi_in131 (mi_calok_none _ _) 2 _ (2, [(0, .int a1), (1, .int 0), (2, .int 5)], [.int 0, .int a1], (0, 0), mi_G) (by rfl) ?_
        refine mi_sem_b mi_in131 (decide (a1 < 0)) false (mi_ltF (0) (by decide) (by omega)) 14 5 ([(0, .int a1), (1, .int 0), (2, .int 5)], [], (0, 0), mi_G) (by rfl) ?_
        refine mi_sem_steps mi_in131 (mi_calok_none _ _) 2 _ (7, [(0, .int a1), (1, .int 0), (2, .int 5)], [.int 5, .int a1], (0, 0), mi_G) (by rfl) ?_
        refine mi_sem_b mi_in131 (decide (5 < a1)) false (mi_ltF2 (5) (by decide) (by omega)) 14 10 ([(0, .int a1), (1, .int 0), (2, .int 5)], [], (0, 0), mi_G) (by rfl) ?_
        refine mi_sem_steps mi_in131 (mi_calok_none _ _) 2 _ (15, [(0, .int a1), (1, .int 0), (2, .int 5)], [.int 1], (0, 0), mi_G) (by rfl) ?_
        exact mi_sem_ret (cal := fun _ _ _ => none) mi_in131 (by rfl)
      refine mi_sem_call mi_in133 (i := (.invokestatic 119, 3, 131, 0, 9, 0, 379)) (by rfl) (by rfl) hM1998 (by decide) ⟨Nat.le_of_ble_eq_true rfl, Nat.le_of_ble_eq_true rfl⟩ ?_
      exact mi_sem_ret (cal := fun _ _ _ => none) mi_in133 (by rfl)
    refine mi_sem_call mi_in224 (i := (.invokestatic 127, 3, 133, 0, 9, 0, 382)) (by rfl) (by rfl) hM1999 (by decide) ⟨Nat.le_of_ble_eq_true rfl, Nat.le_of_ble_eq_true rfl⟩ ?_
    refine mi_sem_steps mi_in224 (mi_calok_none _ _) 4 _ (11, [(0, .ref 116), (1, .int a1), (2, .int a2)], [.int 7, .int 0, .int a2], (0, 0), mi_G) (by rfl) ?_
    have hM2000 : mi_Met mi_N0 1 mi_h131 [.int a2, .int 0, .int 7] mi_G (some (.int 0)) mi_G := by
      refine mi_met_of (y := 131) (q := (mi_h131, mi_c131)) rfl (by decide) (Nat.le_of_ble_eq_true rfl) ?_
      refine mi_sem_steps mi_in131 (mi_calok_none _ _) 2 _ (2, [(0, .int a2), (1, .int 0), (2, .int 7)], [.int 0, .int a2], (0, 0), mi_G) (by rfl) ?_
      refine mi_sem_b mi_in131 (decide (a2 < 0)) true (mi_ltT (0) (by decide) (by omega)) 14 5 ([(0, .int a2), (1, .int 0), (2, .int 7)], [], (0, 0), mi_G) (by rfl) ?_
      refine mi_sem_steps mi_in131 (mi_calok_none _ _) 1 _ (15, [(0, .int a2), (1, .int 0), (2, .int 7)], [.int 0], (0, 0), mi_G) (by rfl) ?_
      exact mi_sem_ret (cal := fun _ _ _ => none) mi_in131 (by rfl)
    refine mi_sem_call mi_in224 (i := (.invokestatic 119, 3, 131, 0, 9, 0, 379)) (by rfl) (by rfl) hM2000 (by decide) ⟨Nat.le_of_ble_eq_true rfl, Nat.le_of_ble_eq_true rfl⟩ ?_
    refine mi_sem_steps mi_in224 (mi_calok_none _ _) 2 _ (18, [(0, .ref 116), (1, .int a1), (2, .int a2)], [.int (-1)], (0, 0), mi_G) (by rfl) ?_
    exact mi_sem_ret (cal := fun _ _ _ => none) mi_in224 (by rfl)

set_option maxRecDepth 100000 in
set_option maxHeartbeats 4000000 in
theorem mp_taken_2 (a2 : Int32) (r0 : 0 ≤ (a2).toInt ∧ (a2).toInt ≤ 7) : mi_P 118 224 [.int 0, .int a2] := by
  refine ⟨.int (-11), mi_G, mi_G, (mi_h118, mi_c118), (mi_h224, mi_c224), 3, 3, rfl, rfl, rfl, by decide, by decide, ?_, ?_⟩
  · refine mi_met_of (y := 118) (q := (mi_h118, mi_c118)) rfl (by decide) (Nat.le_of_ble_eq_true rfl) ?_
    refine mi_sem_steps mi_in118 (mi_calok_none _ _) 1 _ (1, [(0, .ref 0), (1, .int 0), (2, .int a2)], [.int 0], (0, 0), mi_G) (by rfl) ?_
    have hM2006 : mi_Met mi_N0 2 mi_h121 [.int 0] mi_G (some (.int 1)) mi_G := mi_fun_ok mi_N0 2 121 (mi_h121, mi_c121) _ _ _ _ rfl (mi_eR_ok (by decide +kernel))
    refine mi_sem_call mi_in118 (i := (.invokestatic 70, 3, 121, 0, 9, 0, 157)) (by rfl) (by rfl) hM2006 (by decide) ⟨Nat.le_of_ble_eq_true rfl, Nat.le_of_ble_eq_true rfl⟩ ?_
    refine mi_sem_steps mi_in118 (mi_calok_none _ _) 4 _ (11, [(0, .ref 0), (1, .int 0), (2, .int a2)], [.int 7, .int 0, .int a2], (0, 0), mi_G) (by rfl) ?_
    have hM2007 : mi_Met mi_N0 1 mi_h120 [.int a2, .int 0, .int 7] mi_G (some (.int 1)) mi_G := by
      refine mi_met_of (y := 120) (q := (mi_h120, mi_c120)) rfl (by decide) (Nat.le_of_ble_eq_true rfl) ?_
      refine mi_sem_steps mi_in120 (mi_calok_none _ _) 2 _ (2, [(0, .int a2), (1, .int 0), (2, .int 7)], [.int 0, .int a2], (0, 0), mi_G) (by rfl) ?_
      refine mi_sem_b mi_in120 (decide (a2 < 0)) false (mi_ltF (0) (by decide) (by omega)) 14 5 ([(0, .int a2), (1, .int 0), (2, .int 7)], [], (0, 0), mi_G) (by rfl) ?_
      refine mi_sem_steps mi_in120 (mi_calok_none _ _) 2 _ (7, [(0, .int a2), (1, .int 0), (2, .int 7)], [.int 7, .int a2], (0, 0), mi_G) (by rfl) ?_
      refine mi_sem_b mi_in120 (decide (7 < a2)) false (mi_ltF2 (7) (by decide) (by omega)) 14 10 ([(0, .int a2), (1, .int 0), (2, .int 7)], [], (0, 0), mi_G) (by rfl) ?_
      refine mi_sem_steps mi_in120 (mi_calok_none _ _) 2 _ (15, [(0, .int a2), (1, .int 0), (2, .int 7)], [.int 1], (0, 0), mi_G) (by rfl) ?_
      exact mi_sem_ret (cal := fun _ _ _ => none) mi_in120 (by rfl)
    refine mi_sem_call mi_in118 (i := (.invokestatic 74, 3, 120, 0, 9, 0, 152)) (by rfl) (by rfl) hM2007 (by decide) ⟨Nat.le_of_ble_eq_true rfl, Nat.le_of_ble_eq_true rfl⟩ ?_
    refine mi_sem_steps mi_in118 (mi_calok_none _ _) 10 _ (35, [(3, .ref 104), (0, .ref 0), (1, .int 0), (2, .int a2)], [.int (-11)], (0, 0), mi_G) (by rfl) ?_
    exact mi_sem_ret (cal := fun _ _ _ => none) mi_in118 (by rfl)
  · refine mi_met_of (y := 224) (q := (mi_h224, mi_c224)) rfl (by decide) (Nat.le_of_ble_eq_true rfl) ?_
    refine mi_sem_steps mi_in224 (mi_calok_none _ _) 1 _ (1, [(0, .ref 116), (1, .int 0), (2, .int a2)], [.int 0], (0, 0), mi_G) (by rfl) ?_
    have hM2008 : mi_Met mi_N0 2 mi_h133 [.int 0] mi_G (some (.int 1)) mi_G := mi_fun_ok mi_N0 2 133 (mi_h133, mi_c133) _ _ _ _ rfl (mi_eR_ok (by decide +kernel))
    refine mi_sem_call mi_in224 (i := (.invokestatic 127, 3, 133, 0, 9, 0, 382)) (by rfl) (by rfl) hM2008 (by decide) ⟨Nat.le_of_ble_eq_true rfl, Nat.le_of_ble_eq_true rfl⟩ ?_
    refine mi_sem_steps mi_in224 (mi_calok_none _ _) 4 _ (11, [(0, .ref 116), (1, .int 0), (2, .int a2)], [.int 7, .int 0, .int a2], (0, 0), mi_G) (by rfl) ?_
    have hM2009 : mi_Met mi_N0 1 mi_h131 [.int a2, .int 0, .int 7] mi_G (some (.int 1)) mi_G := by
      refine mi_met_of (y := 131) (q := (mi_h131, mi_c131)) rfl (by decide) (Nat.le_of_ble_eq_true rfl) ?_
      refine mi_sem_steps mi_in131 (mi_calok_none _ _) 2 _ (2, [(0, .int a2), (1, .int 0), (2, .int 7)], [.int 0, .int a2], (0, 0), mi_G) (by rfl) ?_
      refine mi_sem_b mi_in131 (decide (a2 < 0)) false (mi_ltF (0) (by decide) (by omega)) 14 5 ([(0, .int a2), (1, .int 0), (2, .int 7)], [], (0, 0), mi_G) (by rfl) ?_
      refine mi_sem_steps mi_in131 (mi_calok_none _ _) 2 _ (7, [(0, .int a2), (1, .int 0), (2, .int 7)], [.int 7, .int a2], (0, 0), mi_G) (by rfl) ?_
      refine mi_sem_b mi_in131 (decide (7 < a2)) false (mi_ltF2 (7) (by decide) (by omega)) 14 10 ([(0, .int a2), (1, .int 0), (2, .int 7)], [], (0, 0), mi_G) (by rfl) ?_
      refine mi_sem_steps mi_in131 (mi_calok_none _ _) 2 _ (15, [(0, .int a2), (1, .int 0), (2, .int 7)], [.int 1], (0, 0), mi_G) (by rfl) ?_
      exact mi_sem_ret (cal := fun _ _ _ => none) mi_in131 (by rfl)
    refine mi_sem_call mi_in224 (i := (.invokestatic 119, 3, 131, 0, 9, 0, 379)) (by rfl) (by rfl) hM2009 (by decide) ⟨Nat.le_of_ble_eq_true rfl, Nat.le_of_ble_eq_true rfl⟩ ?_
    refine mi_sem_steps mi_in224 (mi_calok_none _ _) 8 _ (31, [(0, .ref 116), (1, .int 0), (2, .int a2)], [.int (-11)], (0, 0), mi_G) (by rfl) ?_
    exact mi_sem_ret (cal := fun _ _ _ => none) mi_in224 (by rfl)

set_option maxRecDepth 100000 in
set_option maxHeartbeats 4000000 in
theorem mp_taken_3 (a2 : Int32) (r0 : 0 ≤ (a2).toInt ∧ (a2).toInt ≤ 7) : mi_P 118 224 [.int 1, .int a2] := by
  refine ⟨.int (-11), mi_G, mi_G, (mi_h118, mi_c118), (mi_h224, mi_c224), 3, 3, rfl, rfl, rfl, by decide, by decide, ?_, ?_⟩
  · refine mi_met_of (y := 118) (q := (mi_h118, mi_c118)) rfl (by decide) (Nat.le_of_ble_eq_true rfl) ?_
    refine mi_sem_steps mi_in118 (mi_calok_none _ _) 1 _ (1, [(0, .ref 0), (1, .int 1), (2, .int a2)], [.int 1], (0, 0), mi_G) (by rfl) ?_
    have hM2013 : mi_Met mi_N0 2 mi_h121 [.int 1] mi_G (some (.int 1)) mi_G := mi_fun_ok mi_N0 2 121 (mi_h121, mi_c121) _ _ _ _ rfl (mi_eR_ok (by decide +kernel))
    refine mi_sem_call mi_in118 (i := (.invokestatic 70, 3, 121, 0, 9, 0, 157)) (by rfl) (by rfl) hM2013 (by decide) ⟨Nat.le_of_ble_eq_true rfl, Nat.le_of_ble_eq_true rfl⟩ ?_
    refine mi_sem_steps mi_in118 (mi_calok_none _ _) 4 _ (11, [(0, .ref 0), (1, .int 1), (2, .int a2)], [.int 7, .int 0, .int a2], (0, 0), mi_G) (by rfl) ?_
    have hM2014 : mi_Met mi_N0 1 mi_h120 [.int a2, .int 0, .int 7] mi_G (some (.int 1)) mi_G := by
      refine mi_met_of (y := 120) (q := (mi_h120, mi_c120)) rfl (by decide) (Nat.le_of_ble_eq_true rfl) ?_
      refine mi_sem_steps mi_in120 (mi_calok_none _ _) 2 _ (2, [(0, .int a2), (1, .int 0), (2, .int 7)], [.int 0, .int a2], (0, 0), mi_G) (by rfl) ?_
      refine mi_sem_b mi_in120 (decide (a2 < 0)) false (mi_ltF (0) (by decide) (by omega)) 14 5 ([(0, .int a2), (1, .int 0), (2, .int 7)], [], (0, 0), mi_G) (by rfl) ?_
      refine mi_sem_steps mi_in120 (mi_calok_none _ _) 2 _ (7, [(0, .int a2), (1, .int 0), (2, .int 7)], [.int 7, .int a2], (0, 0), mi_G) (by rfl) ?_
      refine mi_sem_b mi_in120 (decide (7 < a2)) false (mi_ltF2 (7) (by decide) (by omega)) 14 10 ([(0, .int a2), (1, .int 0), (2, .int 7)], [], (0, 0), mi_G) (by rfl) ?_
      refine mi_sem_steps mi_in120 (mi_calok_none _ _) 2 _ (15, [(0, .int a2), (1, .int 0), (2, .int 7)], [.int 1], (0, 0), mi_G) (by rfl) ?_
      exact mi_sem_ret (cal := fun _ _ _ => none) mi_in120 (by rfl)
    refine mi_sem_call mi_in118 (i := (.invokestatic 74, 3, 120, 0, 9, 0, 152)) (by rfl) (by rfl) hM2014 (by decide) ⟨Nat.le_of_ble_eq_true rfl, Nat.le_of_ble_eq_true rfl⟩ ?_
    refine mi_sem_steps mi_in118 (mi_calok_none _ _) 10 _ (35, [(3, .ref 106), (0, .ref 0), (1, .int 1), (2, .int a2)], [.int (-11)], (0, 0), mi_G) (by rfl) ?_
    exact mi_sem_ret (cal := fun _ _ _ => none) mi_in118 (by rfl)
  · refine mi_met_of (y := 224) (q := (mi_h224, mi_c224)) rfl (by decide) (Nat.le_of_ble_eq_true rfl) ?_
    refine mi_sem_steps mi_in224 (mi_calok_none _ _) 1 _ (1, [(0, .ref 116), (1, .int 1), (2, .int a2)], [.int 1], (0, 0), mi_G) (by rfl) ?_
    have hM2015 : mi_Met mi_N0 2 mi_h133 [.int 1] mi_G (some (.int 1)) mi_G := mi_fun_ok mi_N0 2 133 (mi_h133, mi_c133) _ _ _ _ rfl (mi_eR_ok (by decide +kernel))
    refine mi_sem_call mi_in224 (i := (.invokestatic 127, 3, 133, 0, 9, 0, 382)) (by rfl) (by rfl) hM2015 (by decide) ⟨Nat.le_of_ble_eq_true rfl, Nat.le_of_ble_eq_true rfl⟩ ?_
    refine mi_sem_steps mi_in224 (mi_calok_none _ _) 4 _ (11, [(0, .ref 116), (1, .int 1), (2, .int a2)], [.int 7, .int 0, .int a2], (0, 0), mi_G) (by rfl) ?_
    have hM2016 : mi_Met mi_N0 1 mi_h131 [.int a2, .int 0, .int 7] mi_G (some (.int 1)) mi_G := by
      refine mi_met_of (y := 131) (q := (mi_h131, mi_c131)) rfl (by decide) (Nat.le_of_ble_eq_true rfl) ?_
      refine mi_sem_steps mi_in131 (mi_calok_none _ _) 2 _ (2, [(0, .int a2), (1, .int 0), (2, .int 7)], [.int 0, .int a2], (0, 0), mi_G) (by rfl) ?_
      refine mi_sem_b mi_in131 (decide (a2 < 0)) false (mi_ltF (0) (by decide) (by omega)) 14 5 ([(0, .int a2), (1, .int 0), (2, .int 7)], [], (0, 0), mi_G) (by rfl) ?_
      refine mi_sem_steps mi_in131 (mi_calok_none _ _) 2 _ (7, [(0, .int a2), (1, .int 0), (2, .int 7)], [.int 7, .int a2], (0, 0), mi_G) (by rfl) ?_
      refine mi_sem_b mi_in131 (decide (7 < a2)) false (mi_ltF2 (7) (by decide) (by omega)) 14 10 ([(0, .int a2), (1, .int 0), (2, .int 7)], [], (0, 0), mi_G) (by rfl) ?_
      refine mi_sem_steps mi_in131 (mi_calok_none _ _) 2 _ (15, [(0, .int a2), (1, .int 0), (2, .int 7)], [.int 1], (0, 0), mi_G) (by rfl) ?_
      exact mi_sem_ret (cal := fun _ _ _ => none) mi_in131 (by rfl)
    refine mi_sem_call mi_in224 (i := (.invokestatic 119, 3, 131, 0, 9, 0, 379)) (by rfl) (by rfl) hM2016 (by decide) ⟨Nat.le_of_ble_eq_true rfl, Nat.le_of_ble_eq_true rfl⟩ ?_
    refine mi_sem_steps mi_in224 (mi_calok_none _ _) 8 _ (31, [(0, .ref 116), (1, .int 1), (2, .int a2)], [.int (-11)], (0, 0), mi_G) (by rfl) ?_
    exact mi_sem_ret (cal := fun _ _ _ => none) mi_in224 (by rfl)

set_option maxRecDepth 100000 in
set_option maxHeartbeats 4000000 in
theorem mp_taken_4 (a2 : Int32) (r0 : 0 ≤ (a2).toInt ∧ (a2).toInt ≤ 7) : mi_P 118 224 [.int 2, .int a2] := by
  refine ⟨.int (-11), mi_G, mi_G, (mi_h118, mi_c118), (mi_h224, mi_c224), 3, 3, rfl, rfl, rfl, by decide, by decide, ?_, ?_⟩
  · refine mi_met_of (y := 118) (q := (mi_h118, mi_c118)) rfl (by decide) (Nat.le_of_ble_eq_true rfl) ?_
    refine mi_sem_steps mi_in118 (mi_calok_none _ _) 1 _ (1, [(0, .ref 0), (1, .int 2), (2, .int a2)], [.int 2], (0, 0), mi_G) (by rfl) ?_
    have hM2020 : mi_Met mi_N0 2 mi_h121 [.int 2] mi_G (some (.int 1)) mi_G := mi_fun_ok mi_N0 2 121 (mi_h121, mi_c121) _ _ _ _ rfl (mi_eR_ok (by decide +kernel))
    refine mi_sem_call mi_in118 (i := (.invokestatic 70, 3, 121, 0, 9, 0, 157)) (by rfl) (by rfl) hM2020 (by decide) ⟨Nat.le_of_ble_eq_true rfl, Nat.le_of_ble_eq_true rfl⟩ ?_
    refine mi_sem_steps mi_in118 (mi_calok_none _ _) 4 _ (11, [(0, .ref 0), (1, .int 2), (2, .int a2)], [.int 7, .int 0, .int a2], (0, 0), mi_G) (by rfl) ?_
    have hM2021 : mi_Met mi_N0 1 mi_h120 [.int a2, .int 0, .int 7] mi_G (some (.int 1)) mi_G := by
      refine mi_met_of (y := 120) (q := (mi_h120, mi_c120)) rfl (by decide) (Nat.le_of_ble_eq_true rfl) ?_
      refine mi_sem_steps mi_in120 (mi_calok_none _ _) 2 _ (2, [(0, .int a2), (1, .int 0), (2, .int 7)], [.int 0, .int a2], (0, 0), mi_G) (by rfl) ?_
      refine mi_sem_b mi_in120 (decide (a2 < 0)) false (mi_ltF (0) (by decide) (by omega)) 14 5 ([(0, .int a2), (1, .int 0), (2, .int 7)], [], (0, 0), mi_G) (by rfl) ?_
      refine mi_sem_steps mi_in120 (mi_calok_none _ _) 2 _ (7, [(0, .int a2), (1, .int 0), (2, .int 7)], [.int 7, .int a2], (0, 0), mi_G) (by rfl) ?_
      refine mi_sem_b mi_in120 (decide (7 < a2)) false (mi_ltF2 (7) (by decide) (by omega)) 14 10 ([(0, .int a2), (1, .int 0), (2, .int 7)], [], (0, 0), mi_G) (by rfl) ?_
      refine mi_sem_steps mi_in120 (mi_calok_none _ _) 2 _ (15, [(0, .int a2), (1, .int 0), (2, .int 7)], [.int 1], (0, 0), mi_G) (by rfl) ?_
      exact mi_sem_ret (cal := fun _ _ _ => none) mi_in120 (by rfl)
    refine mi_sem_call mi_in118 (i := (.invokestatic 74, 3, 120, 0, 9, 0, 152)) (by rfl) (by rfl) hM2021 (by decide) ⟨Nat.le_of_ble_eq_true rfl, Nat.le_of_ble_eq_true rfl⟩ ?_
    refine mi_sem_steps mi_in118 (mi_calok_none _ _) 10 _ (35, [(3, .ref 108), (0, .ref 0), (1, .int 2), (2, .int a2)], [.int (-11)], (0, 0), mi_G) (by rfl) ?_
    exact mi_sem_ret (cal := fun _ _ _ => none) mi_in118 (by rfl)
  · refine mi_met_of (y := 224) (q := (mi_h224, mi_c224)) rfl (by decide) (Nat.le_of_ble_eq_true rfl) ?_
    refine mi_sem_steps mi_in224 (mi_calok_none _ _) 1 _ (1, [(0, .ref 116), (1, .int 2), (2, .int a2)], [.int 2], (0, 0), mi_G) (by rfl) ?_
    have hM2022 : mi_Met mi_N0 2 mi_h133 [.int 2] mi_G (some (.int 1)) mi_G := mi_fun_ok mi_N0 2 133 (mi_h133, mi_c133) _ _ _ _ rfl (mi_eR_ok (by decide +kernel))
    refine mi_sem_call mi_in224 (i := (.invokestatic 127, 3, 133, 0, 9, 0, 382)) (by rfl) (by rfl) hM2022 (by decide) ⟨Nat.le_of_ble_eq_true rfl, Nat.le_of_ble_eq_true rfl⟩ ?_
    refine mi_sem_steps mi_in224 (mi_calok_none _ _) 4 _ (11, [(0, .ref 116), (1, .int 2), (2, .int a2)], [.int 7, .int 0, .int a2], (0, 0), mi_G) (by rfl) ?_
    have hM2023 : mi_Met mi_N0 1 mi_h131 [.int a2, .int 0, .int 7] mi_G (some (.int 1)) mi_G := by
      refine mi_met_of (y := 131) (q := (mi_h131, mi_c131)) rfl (by decide) (Nat.le_of_ble_eq_true rfl) ?_
      refine mi_sem_steps mi_in131 (mi_calok_none _ _) 2 _ (2, [(0, .int a2), (1, .int 0), (2, .int 7)], [.int 0, .int a2], (0, 0), mi_G) (by rfl) ?_
      refine mi_sem_b mi_in131 (decide (a2 < 0)) false (mi_ltF (0) (by decide) (by omega)) 14 5 ([(0, .int a2), (1, .int 0), (2, .int 7)], [], (0, 0), mi_G) (by rfl) ?_
      refine mi_sem_steps mi_in131 (mi_calok_none _ _) 2 _ (7, [(0, .int a2), (1, .int 0), (2, .int 7)], [.int 7, .int a2], (0, 0), mi_G) (by rfl) ?_
      refine mi_sem_b mi_in131 (decide (7 < a2)) false (mi_ltF2 (7) (by decide) (by omega)) 14 10 ([(0, .int a2), (1, .int 0), (2, .int 7)], [], (0, 0), mi_G) (by rfl) ?_
      refine mi_sem_steps mi_in131 (mi_calok_none _ _) 2 _ (15, [(0, .int a2), (1, .int 0), (2, .int 7)], [.int 1], (0, 0), mi_G) (by rfl) ?_
      exact mi_sem_ret (cal := fun _ _ _ => none) mi_in131 (by rfl)
    refine mi_sem_call mi_in224 (i := (.invokestatic 119, 3, 131, 0, 9, 0, 379)) (by rfl) (by rfl) hM2023 (by decide) ⟨Nat.le_of_ble_eq_true rfl, Nat.le_of_ble_eq_true rfl⟩ ?_
    refine mi_sem_steps mi_in224 (mi_calok_none _ _) 8 _ (31, [(0, .ref 116), (1, .int 2), (2, .int a2)], [.int (-11)], (0, 0), mi_G) (by rfl) ?_
    exact mi_sem_ret (cal := fun _ _ _ => none) mi_in224 (by rfl)

set_option maxRecDepth 100000 in
set_option maxHeartbeats 4000000 in
theorem mp_taken_5 (a2 : Int32) (r0 : 0 ≤ (a2).toInt ∧ (a2).toInt ≤ 7) : mi_P 118 224 [.int 3, .int a2] := by
  refine ⟨.int (-11), mi_G, mi_G, (mi_h118, mi_c118), (mi_h224, mi_c224), 3, 3, rfl, rfl, rfl, by decide, by decide, ?_, ?_⟩
  · refine mi_met_of (y := 118) (q := (mi_h118, mi_c118)) rfl (by decide) (Nat.le_of_ble_eq_true rfl) ?_
    refine mi_sem_steps mi_in118 (mi_calok_none _ _) 1 _ (1, [(0, .ref 0), (1, .int 3), (2, .int a2)], [.int 3], (0, 0), mi_G) (by rfl) ?_
    have hM2027 : mi_Met mi_N0 2 mi_h121 [.int 3] mi_G (some (.int 1)) mi_G := mi_fun_ok mi_N0 2 121 (mi_h121, mi_c121) _ _ _ _ rfl (mi_eR_ok (by decide +kernel))
    refine mi_sem_call mi_in118 (i := (.invokestatic 70, 3, 121, 0, 9, 0, 157)) (by rfl) (by rfl) hM2027 (by decide) ⟨Nat.le_of_ble_eq_true rfl, Nat.le_of_ble_eq_true rfl⟩ ?_
    refine mi_sem_steps mi_in118 (mi_calok_none _ _) 4 _ (11, [(0, .ref 0), (1, .int 3), (2, .int a2)], [.int 7, .int 0, .int a2], (0, 0), mi_G) (by rfl) ?_
    have hM2028 : mi_Met mi_N0 1 mi_h120 [.int a2, .int 0, .int 7] mi_G (some (.int 1)) mi_G := by
      refine mi_met_of (y := 120) (q := (mi_h120, mi_c120)) rfl (by decide) (Nat.le_of_ble_eq_true rfl) ?_
      refine mi_sem_steps mi_in120 (mi_calok_none _ _) 2 _ (2, [(0, .int a2), (1, .int 0), (2, .int 7)], [.int 0, .int a2], (0, 0), mi_G) (by rfl) ?_
      refine mi_sem_b mi_in120 (decide (a2 < 0)) false (mi_ltF (0) (by decide) (by omega)) 14 5 ([(0, .int a2), (1, .int 0), (2, .int 7)], [], (0, 0), mi_G) (by rfl) ?_
      refine mi_sem_steps mi_in120 (mi_calok_none _ _) 2 _ (7, [(0, .int a2), (1, .int 0), (2, .int 7)], [.int 7, .int a2], (0, 0), mi_G) (by rfl) ?_
      refine mi_sem_b mi_in120 (decide (7 < a2)) false (mi_ltF2 (7) (by decide) (by omega)) 14 10 ([(0, .int a2), (1, .int 0), (2, .int 7)], [], (0, 0), mi_G) (by rfl) ?_
      refine mi_sem_steps mi_in120 (mi_calok_none _ _) 2 _ (15, [(0, .int a2), (1, .int 0), (2, .int 7)], [.int 1], (0, 0), mi_G) (by rfl) ?_
      exact mi_sem_ret (cal := fun _ _ _ => none) mi_in120 (by rfl)
    refine mi_sem_call mi_in118 (i := (.invokestatic 74, 3, 120, 0, 9, 0, 152)) (by rfl) (by rfl) hM2028 (by decide) ⟨Nat.le_of_ble_eq_true rfl, Nat.le_of_ble_eq_true rfl⟩ ?_
    refine mi_sem_steps mi_in118 (mi_calok_none _ _) 10 _ (35, [(3, .ref 110), (0, .ref 0), (1, .int 3), (2, .int a2)], [.int (-11)], (0, 0), mi_G) (by rfl) ?_
    exact mi_sem_ret (cal := fun _ _ _ => none) mi_in118 (by rfl)
  · refine mi_met_of (y := 224) (q := (mi_h224, mi_c224)) rfl (by decide) (Nat.le_of_ble_eq_true rfl) ?_
    refine mi_sem_steps mi_in224 (mi_calok_none _ _) 1 _ (1, [(0, .ref 116), (1, .int 3), (2, .int a2)], [.int 3], (0, 0), mi_G) (by rfl) ?_
    have hM2029 : mi_Met mi_N0 2 mi_h133 [.int 3] mi_G (some (.int 1)) mi_G := mi_fun_ok mi_N0 2 133 (mi_h133, mi_c133) _ _ _ _ rfl (mi_eR_ok (by decide +kernel))
    refine mi_sem_call mi_in224 (i := (.invokestatic 127, 3, 133, 0, 9, 0, 382)) (by rfl) (by rfl) hM2029 (by decide) ⟨Nat.le_of_ble_eq_true rfl, Nat.le_of_ble_eq_true rfl⟩ ?_
    refine mi_sem_steps mi_in224 (mi_calok_none _ _) 4 _ (11, [(0, .ref 116), (1, .int 3), (2, .int a2)], [.int 7, .int 0, .int a2], (0, 0), mi_G) (by rfl) ?_
    have hM2030 : mi_Met mi_N0 1 mi_h131 [.int a2, .int 0, .int 7] mi_G (some (.int 1)) mi_G := by
      refine mi_met_of (y := 131) (q := (mi_h131, mi_c131)) rfl (by decide) (Nat.le_of_ble_eq_true rfl) ?_
      refine mi_sem_steps mi_in131 (mi_calok_none _ _) 2 _ (2, [(0, .int a2), (1, .int 0), (2, .int 7)], [.int 0, .int a2], (0, 0), mi_G) (by rfl) ?_
      refine mi_sem_b mi_in131 (decide (a2 < 0)) false (mi_ltF (0) (by decide) (by omega)) 14 5 ([(0, .int a2), (1, .int 0), (2, .int 7)], [], (0, 0), mi_G) (by rfl) ?_
      refine mi_sem_steps mi_in131 (mi_calok_none _ _) 2 _ (7, [(0, .int a2), (1, .int 0), (2, .int 7)], [.int 7, .int a2], (0, 0), mi_G) (by rfl) ?_
      refine mi_sem_b mi_in131 (decide (7 < a2)) false (mi_ltF2 (7) (by decide) (by omega)) 14 10 ([(0, .int a2), (1, .int 0), (2, .int 7)], [], (0, 0), mi_G) (by rfl) ?_
      refine mi_sem_steps mi_in131 (mi_calok_none _ _) 2 _ (15, [(0, .int a2), (1, .int 0), (2, .int 7)], [.int 1], (0, 0), mi_G) (by rfl) ?_
      exact mi_sem_ret (cal := fun _ _ _ => none) mi_in131 (by rfl)
    refine mi_sem_call mi_in224 (i := (.invokestatic 119, 3, 131, 0, 9, 0, 379)) (by rfl) (by rfl) hM2030 (by decide) ⟨Nat.le_of_ble_eq_true rfl, Nat.le_of_ble_eq_true rfl⟩ ?_
    refine mi_sem_steps mi_in224 (mi_calok_none _ _) 8 _ (31, [(0, .ref 116), (1, .int 3), (2, .int a2)], [.int (-11)], (0, 0), mi_G) (by rfl) ?_
    exact mi_sem_ret (cal := fun _ _ _ => none) mi_in224 (by rfl)

set_option maxRecDepth 100000 in
set_option maxHeartbeats 4000000 in
theorem mp_taken_6 (a2 : Int32) (r0 : 0 ≤ (a2).toInt ∧ (a2).toInt ≤ 7) : mi_P 118 224 [.int 4, .int a2] := by
  refine ⟨.int (-11), mi_G, mi_G, (mi_h118, mi_c118), (mi_h224, mi_c224), 3, 3, rfl, rfl, rfl, by decide, by decide, ?_, ?_⟩
  · refine mi_met_of (y := 118) (q := (mi_h118, mi_c118)) rfl (by decide) (Nat.le_of_ble_eq_true rfl) ?_
    refine mi_sem_steps mi_in118 (mi_calok_none _ _) 1 _ (1, [(0, .ref 0), (1, .int 4), (2, .int a2)], [.int 4], (0, 0), mi_G) (by rfl) ?_
    have hM2034 : mi_Met mi_N0 2 mi_h121 [.int 4] mi_G (some (.int 1)) mi_G := mi_fun_ok mi_N0 2 121 (mi_h121, mi_c121) _ _ _ _ rfl (mi_eR_ok (by decide +kernel))
    refine mi_sem_call mi_in118 (i := (.invokestatic 70, 3, 121, 0, 9, 0, 157)) (by rfl) (by rfl) hM2034 (by decide) ⟨Nat.le_of_ble_eq_true rfl, Nat.le_of_ble_eq_true rfl⟩ ?_
    refine mi_sem_steps mi_in118 (mi_calok_none _ _) 4 _ (11, [(0, .ref 0), (1, .int 4), (2, .int a2)], [.int 7, .int 0, .int a2], (0, 0), mi_G) (by rfl) ?_
    have hM2035 : mi_Met mi_N0 1 mi_h120 [.int a2, .int 0, .int 7] mi_G (some (.int 1)) mi_G := by
      refine mi_met_of (y := 120) (q := (mi_h120, mi_c120)) rfl (by decide) (Nat.le_of_ble_eq_true rfl) ?_
      refine mi_sem_steps mi_in120 (mi_calok_none _ _) 2 _ (2, [(0, .int a2), (1, .int 0), (2, .int 7)], [.int 0, .int a2], (0, 0), mi_G) (by rfl) ?_
      refine mi_sem_b mi_in120 (decide (a2 < 0)) false (mi_ltF (0) (by decide) (by omega)) 14 5 ([(0, .int a2), (1, .int 0), (2, .int 7)], [], (0, 0), mi_G) (by rfl) ?_
      refine mi_sem_steps mi_in120 (mi_calok_none _ _) 2 _ (7, [(0, .int a2), (1, .int 0), (2, .int 7)], [.int 7, .int a2], (0, 0), mi_G) (by rfl) ?_
      refine mi_sem_b mi_in120 (decide (7 < a2)) false (mi_ltF2 (7) (by decide) (by omega)) 14 10 ([(0, .int a2), (1, .int 0), (2, .int 7)], [], (0, 0), mi_G) (by rfl) ?_
      refine mi_sem_steps mi_in120 (mi_calok_none _ _) 2 _ (15, [(0, .int a2), (1, .int 0), (2, .int 7)], [.int 1], (0, 0), mi_G) (by rfl) ?_
      exact mi_sem_ret (cal := fun _ _ _ => none) mi_in120 (by rfl)
    refine mi_sem_call mi_in118 (i := (.invokestatic 74, 3, 120, 0, 9, 0, 152)) (by rfl) (by rfl) hM2035 (by decide) ⟨Nat.le_of_ble_eq_true rfl, Nat.le_of_ble_eq_true rfl⟩ ?_
    refine mi_sem_steps mi_in118 (mi_calok_none _ _) 10 _ (35, [(3, .ref 112), (0, .ref 0), (1, .int 4), (2, .int a2)], [.int (-11)], (0, 0), mi_G) (by rfl) ?_
    exact mi_sem_ret (cal := fun _ _ _ => none) mi_in118 (by rfl)
  · refine mi_met_of (y := 224) (q := (mi_h224, mi_c224)) rfl (by decide) (Nat.le_of_ble_eq_true rfl) ?_
    refine mi_sem_steps mi_in224 (mi_calok_none _ _) 1 _ (1, [(0, .ref 116), (1, .int 4), (2, .int a2)], [.int 4], (0, 0), mi_G) (by rfl) ?_
    have hM2036 : mi_Met mi_N0 2 mi_h133 [.int 4] mi_G (some (.int 1)) mi_G := mi_fun_ok mi_N0 2 133 (mi_h133, mi_c133) _ _ _ _ rfl (mi_eR_ok (by decide +kernel))
    refine mi_sem_call mi_in224 (i := (.invokestatic 127, 3, 133, 0, 9, 0, 382)) (by rfl) (by rfl) hM2036 (by decide) ⟨Nat.le_of_ble_eq_true rfl, Nat.le_of_ble_eq_true rfl⟩ ?_
    refine mi_sem_steps mi_in224 (mi_calok_none _ _) 4 _ (11, [(0, .ref 116), (1, .int 4), (2, .int a2)], [.int 7, .int 0, .int a2], (0, 0), mi_G) (by rfl) ?_
    have hM2037 : mi_Met mi_N0 1 mi_h131 [.int a2, .int 0, .int 7] mi_G (some (.int 1)) mi_G := by
      refine mi_met_of (y := 131) (q := (mi_h131, mi_c131)) rfl (by decide) (Nat.le_of_ble_eq_true rfl) ?_
      refine mi_sem_steps mi_in131 (mi_calok_none _ _) 2 _ (2, [(0, .int a2), (1, .int 0), (2, .int 7)], [.int 0, .int a2], (0, 0), mi_G) (by rfl) ?_
      refine mi_sem_b mi_in131 (decide (a2 < 0)) false (mi_ltF (0) (by decide) (by omega)) 14 5 ([(0, .int a2), (1, .int 0), (2, .int 7)], [], (0, 0), mi_G) (by rfl) ?_
      refine mi_sem_steps mi_in131 (mi_calok_none _ _) 2 _ (7, [(0, .int a2), (1, .int 0), (2, .int 7)], [.int 7, .int a2], (0, 0), mi_G) (by rfl) ?_
      refine mi_sem_b mi_in131 (decide (7 < a2)) false (mi_ltF2 (7) (by decide) (by omega)) 14 10 ([(0, .int a2), (1, .int 0), (2, .int 7)], [], (0, 0), mi_G) (by rfl) ?_
      refine mi_sem_steps mi_in131 (mi_calok_none _ _) 2 _ (15, [(0, .int a2), (1, .int 0), (2, .int 7)], [.int 1], (0, 0), mi_G) (by rfl) ?_
      exact mi_sem_ret (cal := fun _ _ _ => none) mi_in131 (by rfl)
    refine mi_sem_call mi_in224 (i := (.invokestatic 119, 3, 131, 0, 9, 0, 379)) (by rfl) (by rfl) hM2037 (by decide) ⟨Nat.le_of_ble_eq_true rfl, Nat.le_of_ble_eq_true rfl⟩ ?_
    refine mi_sem_steps mi_in224 (mi_calok_none _ _) 8 _ (31, [(0, .ref 116), (1, .int 4), (2, .int a2)], [.int (-11)], (0, 0), mi_G) (by rfl) ?_
    exact mi_sem_ret (cal := fun _ _ _ => none) mi_in224 (by rfl)

set_option maxRecDepth 100000 in
set_option maxHeartbeats 4000000 in
theorem mp_taken_7 (a2 : Int32) (r0 : 0 ≤ (a2).toInt ∧ (a2).toInt ≤ 7) : mi_P 118 224 [.int 5, .int a2] := by
  refine ⟨.int (-11), mi_G, mi_G, (mi_h118, mi_c118), (mi_h224, mi_c224), 3, 3, rfl, rfl, rfl, by decide, by decide, ?_, ?_⟩
  · refine mi_met_of (y := 118) (q := (mi_h118, mi_c118)) rfl (by decide) (Nat.le_of_ble_eq_true rfl) ?_
    refine mi_sem_steps mi_in118 (mi_calok_none _ _) 1 _ (1, [(0, .ref 0), (1, .int 5), (2, .int a2)], [.int 5], (0, 0), mi_G) (by rfl) ?_
    have hM2038 : mi_Met mi_N0 2 mi_h121 [.int 5] mi_G (some (.int 1)) mi_G := mi_fun_ok mi_N0 2 121 (mi_h121, mi_c121) _ _ _ _ rfl (mi_eR_ok (by decide +kernel))
    refine mi_sem_call mi_in118 (i := (.invokestatic 70, 3, 121, 0, 9, 0, 157)) (by rfl) (by rfl) hM2038 (by decide) ⟨Nat.le_of_ble_eq_true rfl, Nat.le_of_ble_eq_true rfl⟩ ?_
    refine mi_sem_steps mi_in118 (mi_calok_none _ _) 4 _ (11, [(0, .ref 0), (1, .int 5), (2, .int a2)], [.int 7, .int 0, .int a2], (0, 0), mi_G) (by rfl) ?_
    have hM2039 : mi_Met mi_N0 1 mi_h120 [.int a2, .int 0, .int 7] mi_G (some (.int 1)) mi_G := by
      refine mi_met_of (y := 120) (q := (mi_h120, mi_c120)) rfl (by decide) (Nat.le_of_ble_eq_true rfl) ?_
      refine mi_sem_steps mi_in120 (mi_calok_none _ _) 2 _ (2, [(0, .int a2), (1, .int 0), (2, .int 7)], [.int 0, .int a2], (0, 0), mi_G) (by rfl) ?_
      refine mi_sem_b mi_in120 (decide (a2 < 0)) false (mi_ltF (0) (by decide) (by omega)) 14 5 ([(0, .int a2), (1, .int 0), (2, .int 7)], [], (0, 0), mi_G) (by rfl) ?_
      refine mi_sem_steps mi_in120 (mi_calok_none _ _) 2 _ (7, [(0, .int a2), (1, .int 0), (2, .int 7)], [.int 7, .int a2], (0, 0), mi_G) (by rfl) ?_
      refine mi_sem_b mi_in120 (decide (7 < a2)) false (mi_ltF2 (7) (by decide) (by omega)) 14 10 ([(0, .int a2), (1, .int 0), (2, .int 7)], [], (0, 0), mi_G) (by rfl) ?_
      refine mi_sem_steps mi_in120 (mi_calok_none _ _) 2 _ (15, [(0, .int a2), (1, .int 0), (2, .int 7)], [.int 1], (0, 0), mi_G) (by rfl) ?_
      exact mi_sem_ret (cal := fun _ _ _ => none) mi_in120 (by rfl)
    refine mi_sem_call mi_in118 (i := (.invokestatic 74, 3, 120, 0, 9, 0, 152)) (by rfl) (by rfl) hM2039 (by decide) ⟨Nat.le_of_ble_eq_true rfl, Nat.le_of_ble_eq_true rfl⟩ ?_
    refine mi_sem_steps mi_in118 (mi_calok_none _ _) 10 _ (35, [(3, .ref 114), (0, .ref 0), (1, .int 5), (2, .int a2)], [.int (-11)], (0, 0), mi_G) (by rfl) ?_
    exact mi_sem_ret (cal := fun _ _ _ => none) mi_in118 (by rfl)
  · refine mi_met_of (y := 224) (q := (mi_h224, mi_c224)) rfl (by decide) (Nat.le_of_ble_eq_true rfl) ?_
    refine mi_sem_steps mi_in224 (mi_calok_none _ _) 1 _ (1, [(0, .ref 116), (1, .int 5), (2, .int a2)], [.int 5], (0, 0), mi_G) (by rfl) ?_
    have hM2040 : mi_Met mi_N0 2 mi_h133 [.int 5] mi_G (some (.int 1)) mi_G := mi_fun_ok mi_N0 2 133 (mi_h133, mi_c133) _ _ _ _ rfl (mi_eR_ok (by decide +kernel))
    refine mi_sem_call mi_in224 (i := (.invokestatic 127, 3, 133, 0, 9, 0, 382)) (by rfl) (by rfl) hM2040 (by decide) ⟨Nat.le_of_ble_eq_true rfl, Nat.le_of_ble_eq_true rfl⟩ ?_
    refine mi_sem_steps mi_in224 (mi_calok_none _ _) 4 _ (11, [(0, .ref 116), (1, .int 5), (2, .int a2)], [.int 7, .int 0, .int a2], (0, 0), mi_G) (by rfl) ?_
    have hM2041 : mi_Met mi_N0 1 mi_h131 [.int a2, .int 0, .int 7] mi_G (some (.int 1)) mi_G := by
      refine mi_met_of (y := 131) (q := (mi_h131, mi_c131)) rfl (by decide) (Nat.le_of_ble_eq_true rfl) ?_
      refine mi_sem_steps mi_in131 (mi_calok_none _ _) 2 _ (2, [(0, .int a2), (1, .int 0), (2, .int 7)], [.int 0, .int a2], (0, 0), mi_G) (by rfl) ?_
      refine mi_sem_b mi_in131 (decide (a2 < 0)) false (mi_ltF (0) (by decide) (by omega)) 14 5 ([(0, .int a2), (1, .int 0), (2, .int 7)], [], (0, 0), mi_G) (by rfl) ?_
      refine mi_sem_steps mi_in131 (mi_calok_none _ _) 2 _ (7, [(0, .int a2), (1, .int 0), (2, .int 7)], [.int 7, .int a2], (0, 0), mi_G) (by rfl) ?_
      refine mi_sem_b mi_in131 (decide (7 < a2)) false (mi_ltF2 (7) (by decide) (by omega)) 14 10 ([(0, .int a2), (1, .int 0), (2, .int 7)], [], (0, 0), mi_G) (by rfl) ?_
      refine mi_sem_steps mi_in131 (mi_calok_none _ _) 2 _ (15, [(0, .int a2), (1, .int 0), (2, .int 7)], [.int 1], (0, 0), mi_G) (by rfl) ?_
      exact mi_sem_ret (cal := fun _ _ _ => none) mi_in131 (by rfl)
    refine mi_sem_call mi_in224 (i := (.invokestatic 119, 3, 131, 0, 9, 0, 379)) (by rfl) (by rfl) hM2041 (by decide) ⟨Nat.le_of_ble_eq_true rfl, Nat.le_of_ble_eq_true rfl⟩ ?_
    refine mi_sem_steps mi_in224 (mi_calok_none _ _) 8 _ (31, [(0, .ref 116), (1, .int 5), (2, .int a2)], [.int (-11)], (0, 0), mi_G) (by rfl) ?_
    exact mi_sem_ret (cal := fun _ _ _ => none) mi_in224 (by rfl)

set_option maxRecDepth 100000 in
set_option maxHeartbeats 4000000 in
theorem mp_taken_8 (a1 : Int32) (a2 : Int32) (r0 : 0 ≤ (a1).toInt ∧ (a1).toInt ≤ 5) (r1 : 8 ≤ (a2).toInt ∧ (a2).toInt ≤ 2147483647) : mi_P 118 224 [.int a1, .int a2] := by
  refine ⟨.int (-1), mi_G, mi_G, (mi_h118, mi_c118), (mi_h224, mi_c224), 3, 3, rfl, rfl, rfl, by decide, by decide, ?_, ?_⟩
  · refine mi_met_of (y := 118) (q := (mi_h118, mi_c118)) rfl (by decide) (Nat.le_of_ble_eq_true rfl) ?_
    refine mi_sem_steps mi_in118 (mi_calok_none _ _) 1 _ (1, [(0, .ref 0), (1, .int a1), (2, .int a2)], [.int a1], (0, 0), mi_G) (by rfl) ?_
    have hM2043 : mi_Met mi_N0 2 mi_h121 [.int a1] mi_G (some (.int 1)) mi_G := by
      refine mi_met_of (y := 121) (q := (mi_h121, mi_c121)) rfl (by decide) (Nat.le_of_ble_eq_true rfl) ?_
      refine mi_sem_steps mi_in121 (mi_calok_none _ _) 3 _ (3, [(0, .int a1)], [.int 5, .int 0, .int a1], (0, 0), mi_G) (by rfl) ?_
      have hM2042 : mi_Met mi_N0 1 mi_h120 [.int a1, .int 0, .int 5] mi_G (some (.int 1)) mi_G := by
        refine mi_met_of (y := 120) (q := (mi_h120, mi_c120)) rfl (by decide) (Nat.le_of_ble_eq_true rfl) ?_
        refine mi_sem_steps mi_in120 (mi_calok_none _ _) 2 _ (2, [(0, .int a1), (1, .int 0), (2, .int 5)], [.int 0, .int a1], (0, 0), mi_G) (by rfl) ?_
        refine mi_sem_b mi_in120 (decide (a1 < 0)) false (mi_ltF (0) (by decide) (by omega)) 14 5 ([(0, .int a1), (1, .int 0), (2, .int 5)], [], (0, 0), mi_G) (by rfl) ?_
        refine mi_sem_steps mi_in120 (mi_calok_none _ _) 2 _ (7, [(0, .int a1), (1, .int 0), (2, .int 5)], [.int 5, .int a1], (0, 0), mi_G) (by rfl) ?_
        refine mi_sem_b mi_in120 (decide (5 < a1)) false (mi_ltF2 (5) (by decide) (by omega)) 14 10 ([(0, .int a1), (1, .int 0), (2, .int 5)], [], (0, 0), mi_G) (by rfl) ?_
        refine mi_sem_steps mi_in120 (mi_calok_none _ _) 2 _ (15, [(0, .int a1), (1, .int 0), (2, .int 5)], [.int 1], (0, 0), mi_G) (by rfl) ?_
        exact mi_sem_ret (cal := fun _ _ _ => none) mi_in120 (by rfl)
      refine mi_sem_call mi_in121 (i := (.invokestatic 74, 3, 120, 0, 9, 0, 152)) (by rfl) (by rfl) hM2042 (by decide) ⟨Nat.le_of_ble_eq_true rfl, Nat.le_of_ble_eq_true rfl⟩ ?_
      exact mi_sem_ret (cal := fun _ _ _ => none) mi_in121 (by rfl)
    refine mi_sem_call mi_in118 (i := (.invokestatic 70, 3, 121, 0, 9, 0, 157)) (by rfl) (by rfl) hM2043 (by decide) ⟨Nat.le_of_ble_eq_true rfl, Nat.le_of_ble_eq_true rfl⟩ ?_
    refine mi_sem_steps mi_in118 (mi_calok_none _ _) 4 _ (11, [(0, .ref 0), (1, .int a1), (2, .int a2)], [.int 7, .int 0, .int a2], (0, 0), mi_G) (by rfl) ?_
    have hM2044 : mi_Met mi_N0 1 mi_h120 [.int a2, .int 0, .int 7] mi_G (some (.int 0)) mi_G := by
      refine mi_met_of (y := 120) (q := (mi_h120, mi_c120)) rfl (by decide) (Nat.le_of_ble_eq_true rfl) ?_
      refine mi_sem_steps mi_in120 (mi_calok_none _ _) 2 _ (2, [(0, .int a2), (1, .int 0), (2, .int 7)], [.int 0, .int a2], (0, 0), mi_G) (by rfl) ?_
      refine mi_sem_b mi_in120 (decide (a2 < 0)) false (mi_ltF (0) (by decide) (by omega)) 14 5 ([(0, .int a2), (1, .int 0), (2, .int 7)], [], (0, 0), mi_G) (by rfl) ?_
      refine mi_sem_steps mi_in120 (mi_calok_none _ _) 2 _ (7, [(0, .int a2), (1, .int 0), (2, .int 7)], [.int 7, .int a2], (0, 0), mi_G) (by rfl) ?_
      refine mi_sem_b mi_in120 (decide (7 < a2)) true (mi_ltT2 (7) (by decide) (by omega)) 14 10 ([(0, .int a2), (1, .int 0), (2, .int 7)], [], (0, 0), mi_G) (by rfl) ?_
      refine mi_sem_steps mi_in120 (mi_calok_none _ _) 1 _ (15, [(0, .int a2), (1, .int 0), (2, .int 7)], [.int 0], (0, 0), mi_G) (by rfl) ?_
      exact mi_sem_ret (cal := fun _ _ _ => none) mi_in120 (by rfl)
    refine mi_sem_call mi_in118 (i := (.invokestatic 74, 3, 120, 0, 9, 0, 152)) (by rfl) (by rfl) hM2044 (by decide) ⟨Nat.le_of_ble_eq_true rfl, Nat.le_of_ble_eq_true rfl⟩ ?_
    refine mi_sem_steps mi_in118 (mi_calok_none _ _) 2 _ (18, [(0, .ref 0), (1, .int a1), (2, .int a2)], [.int (-1)], (0, 0), mi_G) (by rfl) ?_
    exact mi_sem_ret (cal := fun _ _ _ => none) mi_in118 (by rfl)
  · refine mi_met_of (y := 224) (q := (mi_h224, mi_c224)) rfl (by decide) (Nat.le_of_ble_eq_true rfl) ?_
    refine mi_sem_steps mi_in224 (mi_calok_none _ _) 1 _ (1, [(0, .ref 116), (1, .int a1), (2, .int a2)], [.int a1], (0, 0), mi_G) (by rfl) ?_
    have hM2046 : mi_Met mi_N0 2 mi_h133 [.int a1] mi_G (some (.int 1)) mi_G := by
      refine mi_met_of (y := 133) (q := (mi_h133, mi_c133)) rfl (by decide) (Nat.le_of_ble_eq_true rfl) ?_
      refine mi_sem_steps mi_in133 (mi_calok_none _ _) 3 _ (3, [(0, .int a1)], [.int 5, .int 0, .int a1], (0, 0), mi_G) (by rfl) ?_
      have hM2045 : mi_Met mi_N0 1 mi_h131 [.int a1, .int 0, .int 5] mi_G (some (.int 1)) mi_G := by
        refine mi_met_of (y := 131) (q := (mi_h131, mi_c131)) rfl (by decide) (Nat.le_of_ble_eq_true rfl) ?_
        refine mi_sem_steps mi_in131 (mi_calok_none _ _) 2 _ (2, [(0, .int a1), (1, .int 0), (2, .int 5)], [.int 0, .int a1], (0, 0), mi_G) (by rfl) ?_
        refine mi_sem_b mi_in131 (decide (a1 < 0)) false (mi_ltF (0) (by decide) (by omega)) 14 5 ([(0, .int a1), (1, .int 0), (2, .int 5)], [], (0, 0), mi_G) (by rfl) ?_
        refine mi_sem_steps mi_in131 (mi_calok_none _ _) 2 _ (7, [(0, .int a1), (1, .int 0), (2, .int 5)], [.int 5, .int a1], (0, 0), mi_G) (by rfl) ?_
        refine mi_sem_b mi_in131 (decide (5 < a1)) false (mi_ltF2 (5) (by decide) (by omega)) 14 10 ([(0, .int a1), (1, .int 0), (2, .int 5)], [], (0, 0), mi_G) (by rfl) ?_
        refine mi_sem_steps mi_in131 (mi_calok_none _ _) 2 _ (15, [(0, .int a1), (1, .int 0), (2, .int 5)], [.int 1], (0, 0), mi_G) (by rfl) ?_
        exact mi_sem_ret (cal := fun _ _ _ => none) mi_in131 (by rfl)
      refine mi_sem_call mi_in133 (i := (.invokestatic 119, 3, 131, 0, 9, 0, 379)) (by rfl) (by rfl) hM2045 (by decide) ⟨Nat.le_of_ble_eq_true rfl, Nat.le_of_ble_eq_true rfl⟩ ?_
      exact mi_sem_ret (cal := fun _ _ _ => none) mi_in133 (by rfl)
    refine mi_sem_call mi_in224 (i := (.invokestatic 127, 3, 133, 0, 9, 0, 382)) (by rfl) (by rfl) hM2046 (by decide) ⟨Nat.le_of_ble_eq_true rfl, Nat.le_of_ble_eq_true rfl⟩ ?_
    refine mi_sem_steps mi_in224 (mi_calok_none _ _) 4 _ (11, [(0, .ref 116), (1, .int a1), (2, .int a2)], [.int 7, .int 0, .int a2], (0, 0), mi_G) (by rfl) ?_
    have hM2047 : mi_Met mi_N0 1 mi_h131 [.int a2, .int 0, .int 7] mi_G (some (.int 0)) mi_G := by
      refine mi_met_of (y := 131) (q := (mi_h131, mi_c131)) rfl (by decide) (Nat.le_of_ble_eq_true rfl) ?_
      refine mi_sem_steps mi_in131 (mi_calok_none _ _) 2 _ (2, [(0, .int a2), (1, .int 0), (2, .int 7)], [.int 0, .int a2], (0, 0), mi_G) (by rfl) ?_
      refine mi_sem_b mi_in131 (decide (a2 < 0)) false (mi_ltF (0) (by decide) (by omega)) 14 5 ([(0, .int a2), (1, .int 0), (2, .int 7)], [], (0, 0), mi_G) (by rfl) ?_
      refine mi_sem_steps mi_in131 (mi_calok_none _ _) 2 _ (7, [(0, .int a2), (1, .int 0), (2, .int 7)], [.int 7, .int a2], (0, 0), mi_G) (by rfl) ?_
      refine mi_sem_b mi_in131 (decide (7 < a2)) true (mi_ltT2 (7) (by decide) (by omega)) 14 10 ([(0, .int a2), (1, .int 0), (2, .int 7)], [], (0, 0), mi_G) (by rfl) ?_
      refine mi_sem_steps mi_in131 (mi_calok_none _ _) 1 _ (15, [(0, .int a2), (1, .int 0), (2, .int 7)], [.int 0], (0, 0), mi_G) (by rfl) ?_
      exact mi_sem_ret (cal := fun _ _ _ => none) mi_in131 (by rfl)
    refine mi_sem_call mi_in224 (i := (.invokestatic 119, 3, 131, 0, 9, 0, 379)) (by rfl) (by rfl) hM2047 (by decide) ⟨Nat.le_of_ble_eq_true rfl, Nat.le_of_ble_eq_true rfl⟩ ?_
    refine mi_sem_steps mi_in224 (mi_calok_none _ _) 2 _ (18, [(0, .ref 116), (1, .int a1), (2, .int a2)], [.int (-1)], (0, 0), mi_G) (by rfl) ?_
    exact mi_sem_ret (cal := fun _ _ _ => none) mi_in224 (by rfl)

set_option maxRecDepth 100000 in
set_option maxHeartbeats 4000000 in
theorem mp_taken_9 (a1 : Int32) (a2 : Int32) (r0 : 6 ≤ (a1).toInt ∧ (a1).toInt ≤ 2147483647) : mi_P 118 224 [.int a1, .int a2] := by
  refine ⟨.int (-1), mi_G, mi_G, (mi_h118, mi_c118), (mi_h224, mi_c224), 3, 3, rfl, rfl, rfl, by decide, by decide, ?_, ?_⟩
  · refine mi_met_of (y := 118) (q := (mi_h118, mi_c118)) rfl (by decide) (Nat.le_of_ble_eq_true rfl) ?_
    refine mi_sem_steps mi_in118 (mi_calok_none _ _) 1 _ (1, [(0, .ref 0), (1, .int a1), (2, .int a2)], [.int a1], (0, 0), mi_G) (by rfl) ?_
    have hM2049 : mi_Met mi_N0 2 mi_h121 [.int a1] mi_G (some (.int 0)) mi_G := by
      refine mi_met_of (y := 121) (q := (mi_h121, mi_c121)) rfl (by decide) (Nat.le_of_ble_eq_true rfl) ?_
      refine mi_sem_steps mi_in121 (mi_calok_none _ _) 3 _ (3, [(0, .int a1)], [.int 5, .int 0, .int a1], (0, 0), mi_G) (by rfl) ?_
      have hM2048 : mi_Met mi_N0 1 mi_h120 [.int a1, .int 0, .int 5] mi_G (some (.int 0)) mi_G := by
        refine mi_met_of (y := 120) (q := (mi_h120, mi_c120)) rfl (by decide) (Nat.le_of_ble_eq_true rfl) ?_
        refine mi_sem_steps mi_in120 (mi_calok_none _ _) 2 _ (2, [(0, .int a1), (1, .int 0), (2, .int 5)], [.int 0, .int a1], (0, 0), mi_G) (by rfl) ?_
        refine mi_sem_b mi_in120 (decide (a1 < 0)) false (mi_ltF (0) (by decide) (by omega)) 14 5 ([(0, .int a1), (1, .int 0), (2, .int 5)], [], (0, 0), mi_G) (by rfl) ?_
        refine mi_sem_steps mi_in120 (mi_calok_none _ _) 2 _ (7, [(0, .int a1), (1, .int 0), (2, .int 5)], [.int 5, .int a1], (0, 0), mi_G) (by rfl) ?_
        refine mi_sem_b mi_in120 (decide (5 < a1)) true (mi_ltT2 (5) (by decide) (by omega)) 14 10 ([(0, .int a1), (1, .int 0), (2, .int 5)], [], (0, 0), mi_G) (by rfl) ?_
        refine mi_sem_steps mi_in120 (mi_calok_none _ _) 1 _ (15, [(0, .int a1), (1, .int 0), (2, .int 5)], [.int 0], (0, 0), mi_G) (by rfl) ?_
        exact mi_sem_ret (cal := fun _ _ _ => none) mi_in120 (by rfl)
      refine mi_sem_call mi_in121 (i := (.invokestatic 74, 3, 120, 0, 9, 0, 152)) (by rfl) (by rfl) hM2048 (by decide) ⟨Nat.le_of_ble_eq_true rfl, Nat.le_of_ble_eq_true rfl⟩ ?_
      exact mi_sem_ret (cal := fun _ _ _ => none) mi_in121 (by rfl)
    refine mi_sem_call mi_in118 (i := (.invokestatic 70, 3, 121, 0, 9, 0, 157)) (by rfl) (by rfl) hM2049 (by decide) ⟨Nat.le_of_ble_eq_true rfl, Nat.le_of_ble_eq_true rfl⟩ ?_
    refine mi_sem_steps mi_in118 (mi_calok_none _ _) 2 _ (18, [(0, .ref 0), (1, .int a1), (2, .int a2)], [.int (-1)], (0, 0), mi_G) (by rfl) ?_
    exact mi_sem_ret (cal := fun _ _ _ => none) mi_in118 (by rfl)
  · refine mi_met_of (y := 224) (q := (mi_h224, mi_c224)) rfl (by decide) (Nat.le_of_ble_eq_true rfl) ?_
    refine mi_sem_steps mi_in224 (mi_calok_none _ _) 1 _ (1, [(0, .ref 116), (1, .int a1), (2, .int a2)], [.int a1], (0, 0), mi_G) (by rfl) ?_
    have hM2051 : mi_Met mi_N0 2 mi_h133 [.int a1] mi_G (some (.int 0)) mi_G := by
      refine mi_met_of (y := 133) (q := (mi_h133, mi_c133)) rfl (by decide) (Nat.le_of_ble_eq_true rfl) ?_
      refine mi_sem_steps mi_in133 (mi_calok_none _ _) 3 _ (3, [(0, .int a1)], [.int 5, .int 0, .int a1], (0, 0), mi_G) (by rfl) ?_
      have hM2050 : mi_Met mi_N0 1 mi_h131 [.int a1, .int 0, .int 5] mi_G (some (.int 0)) mi_G := by
        refine mi_met_of (y := 131) (q := (mi_h131, mi_c131)) rfl (by decide) (Nat.le_of_ble_eq_true rfl) ?_
        refine mi_sem_steps mi_in131 (mi_calok_none _ _) 2 _ (2, [(0, .int a1), (1, .int 0), (2, .int 5)], [.int 0, .int a1], (0, 0), mi_G) (by rfl) ?_
        refine mi_sem_b mi_in131 (decide (a1 < 0)) false (mi_ltF (0) (by decide) (by omega)) 14 5 ([(0, .int a1), (1, .int 0), (2, .int 5)], [], (0, 0), mi_G) (by rfl) ?_
        refine mi_sem_steps mi_in131 (mi_calok_none _ _) 2 _ (7, [(0, .int a1), (1, .int 0), (2, .int 5)], [.int 5, .int a1], (0, 0), mi_G) (by rfl) ?_
        refine mi_sem_b mi_in131 (decide (5 < a1)) true (mi_ltT2 (5) (by decide) (by omega)) 14 10 ([(0, .int a1), (1, .int 0), (2, .int 5)], [], (0, 0), mi_G) (by rfl) ?_
        refine mi_sem_steps mi_in131 (mi_calok_none _ _) 1 _ (15, [(0, .int a1), (1, .int 0), (2, .int 5)], [.int 0], (0, 0), mi_G) (by rfl) ?_
        exact mi_sem_ret (cal := fun _ _ _ => none) mi_in131 (by rfl)
      refine mi_sem_call mi_in133 (i := (.invokestatic 119, 3, 131, 0, 9, 0, 379)) (by rfl) (by rfl) hM2050 (by decide) ⟨Nat.le_of_ble_eq_true rfl, Nat.le_of_ble_eq_true rfl⟩ ?_
      exact mi_sem_ret (cal := fun _ _ _ => none) mi_in133 (by rfl)
    refine mi_sem_call mi_in224 (i := (.invokestatic 127, 3, 133, 0, 9, 0, 382)) (by rfl) (by rfl) hM2051 (by decide) ⟨Nat.le_of_ble_eq_true rfl, Nat.le_of_ble_eq_true rfl⟩ ?_
    refine mi_sem_steps mi_in224 (mi_calok_none _ _) 2 _ (18, [(0, .ref 116), (1, .int a1), (2, .int a2)], [.int (-1)], (0, 0), mi_G) (by rfl) ?_
    exact mi_sem_ret (cal := fun _ _ _ => none) mi_in224 (by rfl)

set_option maxRecDepth 100000 in
set_option maxHeartbeats 4000000 in
theorem mp_taken (a1 : Int32) (a2 : Int32) : mi_P 118 224 [.int a1, .int a2] := by
  have b0 := Int32.toInt_lt (a1)
  have c0 := Int32.le_toInt (a1)
  have b1 := Int32.toInt_lt (a2)
  have c1 := Int32.le_toInt (a2)
  rcases Int.lt_or_le (a1).toInt 0 with _hh | _hh
  ·
    exact mp_taken_0 a1 a2 ⟨by omega, by omega⟩
  ·
    rcases Int.lt_or_le (a1).toInt 6 with _hh | _hh
    ·
      rcases Int.lt_or_le (a2).toInt 0 with _hh | _hh
      ·
        exact mp_taken_1 a1 a2 ⟨by omega, by omega⟩ ⟨by omega, by omega⟩
      ·
        rcases Int.lt_or_le (a2).toInt 8 with _hh | _hh
        ·
          rcases Int.lt_or_le (a1).toInt 1 with _hh | _hh
          ·
            have e_a1 : a1 = 0 := Int32.toInt_inj.mp ((by omega : (a1).toInt = 0).trans (by decide))
            subst e_a1
            exact mp_taken_2 a2 ⟨by omega, by omega⟩
          ·
            rcases Int.lt_or_le (a1).toInt 2 with _hh | _hh
            ·
              have e_a1 : a1 = 1 := Int32.toInt_inj.mp ((by omega : (a1).toInt = 1).trans (by decide))
              subst e_a1
              exact mp_taken_3 a2 ⟨by omega, by omega⟩
            ·
              rcases Int.lt_or_le (a1).toInt 3 with _hh | _hh
              ·
                have e_a1 : a1 = 2 := Int32.toInt_inj.mp ((by omega : (a1).toInt = 2).trans (by decide))
                subst e_a1
                exact mp_taken_4 a2 ⟨by omega, by omega⟩
              ·
                rcases Int.lt_or_le (a1).toInt 4 with _hh | _hh
                ·
                  have e_a1 : a1 = 3 := Int32.toInt_inj.mp ((by omega : (a1).toInt = 3).trans (by decide))
                  subst e_a1
                  exact mp_taken_5 a2 ⟨by omega, by omega⟩
                ·
                  rcases Int.lt_or_le (a1).toInt 5 with _hh | _hh
                  ·
                    have e_a1 : a1 = 4 := Int32.toInt_inj.mp ((by omega : (a1).toInt = 4).trans (by decide))
                    subst e_a1
                    exact mp_taken_6 a2 ⟨by omega, by omega⟩
                  ·
                    have e_a1 : a1 = 5 := Int32.toInt_inj.mp ((by omega : (a1).toInt = 5).trans (by decide))
                    subst e_a1
                    exact mp_taken_7 a2 ⟨by omega, by omega⟩
        ·
          exact mp_taken_8 a1 a2 ⟨by omega, by omega⟩ ⟨by omega, by omega⟩
    ·
      exact mp_taken_9 a1 a2 ⟨by omega, by omega⟩

set_option maxRecDepth 100000 in
set_option maxHeartbeats 4000000 in
theorem mp_count_0 (a1 : Int32) (r0 : (-2147483648) ≤ (a1).toInt ∧ (a1).toInt ≤ (-1)) : mi_P 119 225 [.int a1] := by
  refine ⟨.int (-1), mi_G, mi_G, (mi_h119, mi_c119), (mi_h225, mi_c225), 1, 1, rfl, rfl, rfl, by decide, by decide, ?_, ?_⟩
  · refine mi_met_of (y := 119) (q := (mi_h119, mi_c119)) rfl (by decide) (Nat.le_of_ble_eq_true rfl) ?_
    refine mi_sem_steps mi_in119 (mi_calok_none _ _) 1 _ (1, [(0, .ref 0), (1, .int a1)], [.int a1], (0, 0), mi_G) (by rfl) ?_
    refine mi_sem_sw (ls := [(0, .ref 0), (1, .int a1)]) (r := []) (h := mi_G) mi_in119 (v := a1) (i := (.tableswitch 90 0 5 #[39, 47, 58, 66, 74, 82], 39, 0, 0, 0, 0, 0)) (by rfl) rfl (Or.inl (by omega)) 91 (by rfl) ?_
    refine mi_sem_steps mi_in119 (mi_calok_none _ _) 1 _ (92, [(0, .ref 0), (1, .int a1)], [.int (-1)], (0, 0), mi_G) (by rfl) ?_
    exact mi_sem_ret (cal := fun _ _ _ => none) mi_in119 (by rfl)
  · refine mi_met_of (y := 225) (q := (mi_h225, mi_c225)) rfl (by decide) (Nat.le_of_ble_eq_true rfl) ?_
    refine mi_sem_steps mi_in225 (mi_calok_none _ _) 1 _ (1, [(0, .ref 116), (1, .int a1)], [.int a1], (0, 0), mi_G) (by rfl) ?_
    refine mi_sem_sw (ls := [(0, .ref 116), (1, .int a1)]) (r := []) (h := mi_G) mi_in225 (v := a1) (i := (.tableswitch 72 0 5 #[39, 44, 52, 57, 62, 67], 39, 0, 0, 0, 0, 0)) (by rfl) rfl (Or.inl (by omega)) 73 (by rfl) ?_
    refine mi_sem_steps mi_in225 (mi_calok_none _ _) 1 _ (74, [(0, .ref 116), (1, .int a1)], [.int (-1)], (0, 0), mi_G) (by rfl) ?_
    exact mi_sem_ret (cal := fun _ _ _ => none) mi_in225 (by rfl)

set_option maxRecDepth 100000 in
set_option maxHeartbeats 4000000 in
theorem mp_count_1   : mi_P 119 225 [.int 0] := by
  refine ⟨.int 0, mi_G, mi_G, (mi_h119, mi_c119), (mi_h225, mi_c225), 1, 1, rfl, rfl, rfl, by decide, by decide, ?_, ?_⟩
  · exact mi_fun_ok mi_N0 1 119 (mi_h119, mi_c119) _ _ _ _ rfl (mi_eR_ok (by decide +kernel))
  · exact mi_fun_ok mi_N0 1 225 (mi_h225, mi_c225) _ _ _ _ rfl (mi_eR_ok (by decide +kernel))

set_option maxRecDepth 100000 in
set_option maxHeartbeats 4000000 in
theorem mp_count_2   : mi_P 119 225 [.int 1] := by
  refine ⟨.int 0, mi_G, mi_G, (mi_h119, mi_c119), (mi_h225, mi_c225), 1, 1, rfl, rfl, rfl, by decide, by decide, ?_, ?_⟩
  · exact mi_fun_ok mi_N0 1 119 (mi_h119, mi_c119) _ _ _ _ rfl (mi_eR_ok (by decide +kernel))
  · exact mi_fun_ok mi_N0 1 225 (mi_h225, mi_c225) _ _ _ _ rfl (mi_eR_ok (by decide +kernel))

set_option maxRecDepth 100000 in
set_option maxHeartbeats 4000000 in
theorem mp_count_3   : mi_P 119 225 [.int 2] := by
  refine ⟨.int 0, mi_G, mi_G, (mi_h119, mi_c119), (mi_h225, mi_c225), 1, 1, rfl, rfl, rfl, by decide, by decide, ?_, ?_⟩
  · exact mi_fun_ok mi_N0 1 119 (mi_h119, mi_c119) _ _ _ _ rfl (mi_eR_ok (by decide +kernel))
  · exact mi_fun_ok mi_N0 1 225 (mi_h225, mi_c225) _ _ _ _ rfl (mi_eR_ok (by decide +kernel))

set_option maxRecDepth 100000 in
set_option maxHeartbeats 4000000 in
theorem mp_count_4   : mi_P 119 225 [.int 3] := by
  refine ⟨.int 0, mi_G, mi_G, (mi_h119, mi_c119), (mi_h225, mi_c225), 1, 1, rfl, rfl, rfl, by decide, by decide, ?_, ?_⟩
  · exact mi_fun_ok mi_N0 1 119 (mi_h119, mi_c119) _ _ _ _ rfl (mi_eR_ok (by decide +kernel))
  · exact mi_fun_ok mi_N0 1 225 (mi_h225, mi_c225) _ _ _ _ rfl (mi_eR_ok (by decide +kernel))

set_option maxRecDepth 100000 in
set_option maxHeartbeats 4000000 in
theorem mp_count_5   : mi_P 119 225 [.int 4] := by
  refine ⟨.int 0, mi_G, mi_G, (mi_h119, mi_c119), (mi_h225, mi_c225), 1, 1, rfl, rfl, rfl, by decide, by decide, ?_, ?_⟩
  · exact mi_fun_ok mi_N0 1 119 (mi_h119, mi_c119) _ _ _ _ rfl (mi_eR_ok (by decide +kernel))
  · exact mi_fun_ok mi_N0 1 225 (mi_h225, mi_c225) _ _ _ _ rfl (mi_eR_ok (by decide +kernel))

set_option maxRecDepth 100000 in
set_option maxHeartbeats 4000000 in
theorem mp_count_6   : mi_P 119 225 [.int 5] := by
  refine ⟨.int 0, mi_G, mi_G, (mi_h119, mi_c119), (mi_h225, mi_c225), 1, 1, rfl, rfl, rfl, by decide, by decide, ?_, ?_⟩
  · exact mi_fun_ok mi_N0 1 119 (mi_h119, mi_c119) _ _ _ _ rfl (mi_eR_ok (by decide +kernel))
  · exact mi_fun_ok mi_N0 1 225 (mi_h225, mi_c225) _ _ _ _ rfl (mi_eR_ok (by decide +kernel))

set_option maxRecDepth 100000 in
set_option maxHeartbeats 4000000 in
theorem mp_count_7 (a1 : Int32) (r0 : 6 ≤ (a1).toInt ∧ (a1).toInt ≤ 2147483647) : mi_P 119 225 [.int a1] := by
  refine ⟨.int (-1), mi_G, mi_G, (mi_h119, mi_c119), (mi_h225, mi_c225), 1, 1, rfl, rfl, rfl, by decide, by decide, ?_, ?_⟩
  · refine mi_met_of (y := 119) (q := (mi_h119, mi_c119)) rfl (by decide) (Nat.le_of_ble_eq_true rfl) ?_
    refine mi_sem_steps mi_in119 (mi_calok_none _ _) 1 _ (1, [(0, .ref 0), (1, .int a1)], [.int a1], (0, 0), mi_G) (by rfl) ?_
    refine mi_sem_sw (ls := [(0, .ref 0), (1, .int a1)]) (r := []) (h := mi_G) mi_in119 (v := a1) (i := (.tableswitch 90 0 5 #[39, 47, 58, 66, 74, 82], 39, 0, 0, 0, 0, 0)) (by rfl) rfl (Or.inr (by omega)) 91 (by rfl) ?_
    refine mi_sem_steps mi_in119 (mi_calok_none _ _) 1 _ (92, [(0, .ref 0), (1, .int a1)], [.int (-1)], (0, 0), mi_G) (by rfl) ?_
    exact mi_sem_ret (cal := fun _ _ _ => none) mi_in119 (by rfl)
  · refine mi_met_of (y := 225) (q := (mi_h225, mi_c225)) rfl (by decide) (Nat.le_of_ble_eq_true rfl) ?_
    refine mi_sem_steps mi_in225 (mi_calok_none _ _) 1 _ (1, [(0, .ref 116), (1, .int a1)], [.int a1], (0, 0), mi_G) (by rfl) ?_
    refine mi_sem_sw (ls := [(0, .ref 116), (1, .int a1)]) (r := []) (h := mi_G) mi_in225 (v := a1) (i := (.tableswitch 72 0 5 #[39, 44, 52, 57, 62, 67], 39, 0, 0, 0, 0, 0)) (by rfl) rfl (Or.inr (by omega)) 73 (by rfl) ?_
    refine mi_sem_steps mi_in225 (mi_calok_none _ _) 1 _ (74, [(0, .ref 116), (1, .int a1)], [.int (-1)], (0, 0), mi_G) (by rfl) ?_
    exact mi_sem_ret (cal := fun _ _ _ => none) mi_in225 (by rfl)

set_option maxRecDepth 100000 in
set_option maxHeartbeats 4000000 in
theorem mp_count (a1 : Int32) : mi_P 119 225 [.int a1] := by
  have b0 := Int32.toInt_lt (a1)
  have c0 := Int32.le_toInt (a1)
  rcases Int.lt_or_le (a1).toInt 0 with _hh | _hh
  ·
    exact mp_count_0 a1 ⟨by omega, by omega⟩
  ·
    rcases Int.lt_or_le (a1).toInt 6 with _hh | _hh
    ·
      rcases Int.lt_or_le (a1).toInt 1 with _hh | _hh
      ·
        have e_a1 : a1 = 0 := Int32.toInt_inj.mp ((by omega : (a1).toInt = 0).trans (by decide))
        subst e_a1
        exact mp_count_1  
      ·
        rcases Int.lt_or_le (a1).toInt 2 with _hh | _hh
        ·
          have e_a1 : a1 = 1 := Int32.toInt_inj.mp ((by omega : (a1).toInt = 1).trans (by decide))
          subst e_a1
          exact mp_count_2  
        ·
          rcases Int.lt_or_le (a1).toInt 3 with _hh | _hh
          ·
            have e_a1 : a1 = 2 := Int32.toInt_inj.mp ((by omega : (a1).toInt = 2).trans (by decide))
            subst e_a1
            exact mp_count_3  
          ·
            rcases Int.lt_or_le (a1).toInt 4 with _hh | _hh
            ·
              have e_a1 : a1 = 3 := Int32.toInt_inj.mp ((by omega : (a1).toInt = 3).trans (by decide))
              subst e_a1
              exact mp_count_4  
            ·
              rcases Int.lt_or_le (a1).toInt 5 with _hh | _hh
              ·
                have e_a1 : a1 = 4 := Int32.toInt_inj.mp ((by omega : (a1).toInt = 4).trans (by decide))
                subst e_a1
                exact mp_count_5  
              ·
                have e_a1 : a1 = 5 := Int32.toInt_inj.mp ((by omega : (a1).toInt = 5).trans (by decide))
                subst e_a1
                exact mp_count_6  
    ·
      exact mp_count_7 a1 ⟨by omega, by omega⟩
