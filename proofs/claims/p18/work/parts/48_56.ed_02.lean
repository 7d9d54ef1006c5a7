set_option maxRecDepth 100000 in
theorem ke22 {i : Nat → Int32} {a : Nat → List Int32} {q : Nat → List Int64} {r : Nat → Nat} (hI : kI i a q) (hr : kr r) (x1 : Int32) (x2 : Int32) (x3 : Int32) : km 1 22 [.int x1, .int x2, .int x3] (ks i a q r) (kPI (ks i a q r) (fun v => (True) ∧ v = cJoin x1 x2 x3)) := by
  have hG := kG_self kW0 hI hr
  refine km_ofPI (q := (mi_h22, mi_c22)) rfl (by decide) (Nat.le_of_ble_eq_true rfl) ?_
  intro P hP
  refine ft_go mi_k22 1 1 [(0, .int x1), (1, .int x2), (2, .int x3)] [.int x1] i a q r (by rfl) ?_
  by_cases w1 : x1.toInt = 37
  ·
    refine ko_eq (x1 := (1, [(0, .int x1), (1, .int x2), (2, .int x3)], [.int 37], (0, 0), ks i a q r)) (by rw [(kj_eq w1 (by decide) : x1 = 37)]) ?_
    refine ft_go mi_k22 2 178 [(0, .int x1), (1, .int x2), (2, .int x3)] [.int x3] i a q r (by rfl) ?_
    refine ft_if mi_k22 (x3 != 0) 185 181 [(0, .int x1), (1, .int x2), (2, .int x3)] [] (by rfl) (fun c => ?_) (fun c => ?_)
    ·
      have c2 : x3.toInt ≠ (0 : Int32).toInt := kd_ne c; clear c
      refine ft_go mi_k22 2 187 [(0, .int x1), (1, .int x2), (2, .int x3)] [.int x3, .int x2] i a q r (by rfl) ?_
      refine ko_irem mi_k22.1 (ax := (0, 0, 0, 0, 0)) (mi_k22.2 _ _ (by rfl)) (od40 c2 kod0) ?_
      exact ft_ret mi_k22 (by rfl) (hP (x2 - x2 / x3 * x3) ⟨trivial, (show (x2 - x2 / x3 * x3) = cJoin x1 x2 x3 from (by have k0_ : (0 : Int32).toInt = 0 := (by decide); have k6_ : (6 : Int32).toInt = 6 := (by decide); first | (unfold cJoin; rw [if_neg (show ¬ (x1.toInt = 124) by omega), if_neg (show ¬ (x1.toInt = 38) by omega), if_neg (show ¬ (x1.toInt = 60) by omega), if_neg (show ¬ (x1.toInt = 61) by omega), if_neg (show ¬ (x1.toInt = 62) by omega), if_neg (show ¬ (x1.toInt = 43) by omega), if_neg (show ¬ (x1.toInt = 45) by omega), if_neg (show ¬ (x1.toInt = 42) by omega), if_neg (show ¬ (x1.toInt = 47) by omega), if_pos w1]; all_goals first | (split <;> first | rfl | (exfalso; omega)) | rfl) | (unfold cJoin; (repeat' split) <;> first | rfl | (exfalso; omega))))⟩)
    ·
      have c3 : x3.toInt = (0 : Int32).toInt := kd_neF c; clear c
      refine ft_go mi_k22 2 188 [(0, .int x1), (1, .int x2), (2, .int x3)] [.int 0] i a q r (by rfl) ?_
      exact ft_ret mi_k22 (by rfl) (hP 0 ⟨trivial, (show (0 : Int32) = cJoin x1 x2 x3 from (by have k0_ : (0 : Int32).toInt = 0 := (by decide); have k6_ : (6 : Int32).toInt = 6 := (by decide); first | (unfold cJoin; rw [if_neg (show ¬ (x1.toInt = 124) by omega), if_neg (show ¬ (x1.toInt = 38) by omega), if_neg (show ¬ (x1.toInt = 60) by omega), if_neg (show ¬ (x1.toInt = 61) by omega), if_neg (show ¬ (x1.toInt = 62) by omega), if_neg (show ¬ (x1.toInt = 43) by omega), if_neg (show ¬ (x1.toInt = 45) by omega), if_neg (show ¬ (x1.toInt = 42) by omega), if_neg (show ¬ (x1.toInt = 47) by omega), if_pos w1]; all_goals first | (split <;> first | rfl | (exfalso; omega)) | rfl) | (unfold cJoin; (repeat' split) <;> first | rfl | (exfalso; omega))))⟩)
  by_cases w4 : x1.toInt = 38
  ·
    refine ko_eq (x1 := (1, [(0, .int x1), (1, .int x2), (2, .int x3)], [.int 38], (0, 0), ks i a q r)) (by rw [(kj_eq w4 (by decide) : x1 = 38)]) ?_
    refine ft_go mi_k22 2 107 [(0, .int x1), (1, .int x2), (2, .int x3)] [.int x2] i a q r (by rfl) ?_
    refine ft_if mi_k22 (x2 == 0) 118 110 [(0, .int x1), (1, .int x2), (2, .int x3)] [] (by rfl) (fun c => ?_) (fun c => ?_)
    ·
      have c5 : x2.toInt = (0 : Int32).toInt := kd_eq c; clear c
      refine ft_go mi_k22 1 119 [(0, .int x1), (1, .int x2), (2, .int x3)] [.int 0] i a q r (by rfl) ?_
      exact ft_ret mi_k22 (by rfl) (hP 0 ⟨trivial, (show (0 : Int32) = cJoin x1 x2 x3 from (by have k0_ : (0 : Int32).toInt = 0 := (by decide); have k6_ : (6 : Int32).toInt = 6 := (by decide); first | (unfold cJoin; rw [if_neg (show ¬ (x1.toInt = 124) by omega), if_pos w4]; all_goals first | (split <;> first | rfl | (exfalso; omega)) | rfl) | (unfold cJoin; (repeat' split) <;> first | rfl | (exfalso; omega))))⟩)
    ·
      have c6 : x2.toInt ≠ (0 : Int32).toInt := kd_eqF c; clear c
      refine ft_go mi_k22 1 111 [(0, .int x1), (1, .int x2), (2, .int x3)] [.int x3] i a q r (by rfl) ?_
      refine ft_if mi_k22 (x3 == 0) 118 114 [(0, .int x1), (1, .int x2), (2, .int x3)] [] (by rfl) (fun c => ?_) (fun c => ?_)
      ·
        have c7 : x3.toInt = (0 : Int32).toInt := kd_eq c; clear c
        refine ft_go mi_k22 1 119 [(0, .int x1), (1, .int x2), (2, .int x3)] [.int 0] i a q r (by rfl) ?_
        exact ft_ret mi_k22 (by rfl) (hP 0 ⟨trivial, (show (0 : Int32) = cJoin x1 x2 x3 from (by have k0_ : (0 : Int32).toInt = 0 := (by decide); have k6_ : (6 : Int32).toInt = 6 := (by decide); first | (unfold cJoin; rw [if_neg (show ¬ (x1.toInt = 124) by omega), if_pos w4]; all_goals first | (split <;> first | rfl | (exfalso; omega)) | rfl) | (unfold cJoin; (repeat' split) <;> first | rfl | (exfalso; omega))))⟩)
      ·
        have c8 : x3.toInt ≠ (0 : Int32).toInt := kd_eqF c; clear c
        refine ft_go mi_k22 2 119 [(0, .int x1), (1, .int x2), (2, .int x3)] [.int 1] i a q r (by rfl) ?_
        exact ft_ret mi_k22 (by rfl) (hP 1 ⟨trivial, (show (1 : Int32) = cJoin x1 x2 x3 from (by have k0_ : (0 : Int32).toInt = 0 := (by decide); have k6_ : (6 : Int32).toInt = 6 := (by decide); first | (unfold cJoin; rw [if_neg (show ¬ (x1.toInt = 124) by omega), if_pos w4]; all_goals first | (split <;> first | rfl | (exfalso; omega)) | rfl) | (unfold cJoin; (repeat' split) <;> first | rfl | (exfalso; omega))))⟩)
  by_cases w9 : x1.toInt = 42
  ·
    refine ko_eq (x1 := (1, [(0, .int x1), (1, .int x2), (2, .int x3)], [.int 42], (0, 0), ks i a q r)) (by rw [(kj_eq w9 (by decide) : x1 = 42)]) ?_
    refine ft_go mi_k22 4 164 [(0, .int x1), (1, .int x2), (2, .int x3)] [.int (x2 * x3)] i a q r (by rfl) ?_
    exact ft_ret mi_k22 (by rfl) (hP (x2 * x3) ⟨trivial, (show (x2 * x3) = cJoin x1 x2 x3 from (by have k0_ : (0 : Int32).toInt = 0 := (by decide); have k6_ : (6 : Int32).toInt = 6 := (by decide); first | (unfold cJoin; rw [if_neg (show ¬ (x1.toInt = 124) by omega), if_neg w4, if_neg (show ¬ (x1.toInt = 60) by omega), if_neg (show ¬ (x1.toInt = 61) by omega), if_neg (show ¬ (x1.toInt = 62) by omega), if_neg (show ¬ (x1.toInt = 43) by omega), if_neg (show ¬ (x1.toInt = 45) by omega), if_pos w9]; all_goals first | (split <;> first | rfl | (exfalso; omega)) | rfl) | (unfold cJoin; (repeat' split) <;> first | rfl | (exfalso; omega))))⟩)
  by_cases w10 : x1.toInt = 43
  ·
    refine ko_eq (x1 := (1, [(0, .int x1), (1, .int x2), (2, .int x3)], [.int 43], (0, 0), ks i a q r)) (by rw [(kj_eq w10 (by decide) : x1 = 43)]) ?_
    have b11 : ((-2147483648 : Int) ≤ x2.toInt) ∧ (x2.toInt ≤ 2147483647) := kd_bd x2
    have b12 : ((-2147483648 : Int) ≤ x3.toInt) ∧ (x3.toInt ≤ 2147483647) := kd_bd x3
    refine ft_go mi_k22 4 156 [(0, .int x1), (1, .int x2), (2, .int x3)] [.int (x2 + x3)] i a q r (by rfl) ?_
    exact ft_ret mi_k22 (by rfl) (hP (x2 + x3) ⟨trivial, (show (x2 + x3) = cJoin x1 x2 x3 from (by have k0_ : (0 : Int32).toInt = 0 := (by decide); have k6_ : (6 : Int32).toInt = 6 := (by decide); first | (unfold cJoin; rw [if_neg (show ¬ (x1.toInt = 124) by omega), if_neg w4, if_neg (show ¬ (x1.toInt = 60) by omega), if_neg (show ¬ (x1.toInt = 61) by omega), if_neg (show ¬ (x1.toInt = 62) by omega), if_pos w10]; all_goals first | (split <;> first | rfl | (exfalso; omega)) | rfl) | (unfold cJoin; (repeat' split) <;> first | rfl | (exfalso; omega))))⟩)
  by_cases w13 : x1.toInt = 45
  ·
    refine ko_eq (x1 := (1, [(0, .int x1), (1, .int x2), (2, .int x3)], [.int 45], (0, 0), ks i a q r)) (by rw [(kj_eq w13 (by decide) : x1 = 45)]) ?_
    have b14 : ((-2147483648 : Int) ≤ x2.toInt) ∧ (x2.toInt ≤ 2147483647) := kd_bd x2
    have b15 : ((-2147483648 : Int) ≤ x3.toInt) ∧ (x3.toInt ≤ 2147483647) := kd_bd x3
    refine ft_go mi_k22 4 160 [(0, .int x1), (1, .int x2), (2, .int x3)] [.int (x2 - x3)] i a q r (by rfl) ?_
    exact ft_ret mi_k22 (by rfl) (hP (x2 - x3) ⟨trivial, (show (x2 - x3) = cJoin x1 x2 x3 from (by have k0_ : (0 : Int32).toInt = 0 := (by decide); have k6_ : (6 : Int32).toInt = 6 := (by decide); first | (unfold cJoin; rw [if_neg (show ¬ (x1.toInt = 124) by omega), if_neg w4, if_neg (show ¬ (x1.toInt = 60) by omega), if_neg (show ¬ (x1.toInt = 61) by omega), if_neg (show ¬ (x1.toInt = 62) by omega), if_neg w10, if_pos w13]; all_goals first | (split <;> first | rfl | (exfalso; omega)) | rfl) | (unfold cJoin; (repeat' split) <;> first | rfl | (exfalso; omega))))⟩)
  by_cases w16 : x1.toInt = 47
  ·
    refine ko_eq (x1 := (1, [(0, .int x1), (1, .int x2), (2, .int x3)], [.int 47], (0, 0), ks i a q r)) (by rw [(kj_eq w16 (by decide) : x1 = 47)]) ?_
    refine ft_go mi_k22 2 166 [(0, .int x1), (1, .int x2), (2, .int x3)] [.int x3] i a q r (by rfl) ?_
    refine ft_if mi_k22 (x3 != 0) 173 169 [(0, .int x1), (1, .int x2), (2, .int x3)] [] (by rfl) (fun c => ?_) (fun c => ?_)
    ·
      have c17 : x3.toInt ≠ (0 : Int32).toInt := kd_ne c; clear c
      refine ft_go mi_k22 2 175 [(0, .int x1), (1, .int x2), (2, .int x3)] [.int x3, .int x2] i a q r (by rfl) ?_
      refine ko_idiv mi_k22.1 (ax := (0, 0, 0, 0, 0)) (mi_k22.2 _ _ (by rfl)) (od40 c17 kod0) ?_
      exact ft_ret mi_k22 (by rfl) (hP (x2 / x3) ⟨trivial, (show (x2 / x3) = cJoin x1 x2 x3 from (by have k0_ : (0 : Int32).toInt = 0 := (by decide); have k6_ : (6 : Int32).toInt = 6 := (by decide); first | (unfold cJoin; rw [if_neg (show ¬ (x1.toInt = 124) by omega), if_neg w4, if_neg (show ¬ (x1.toInt = 60) by omega), if_neg (show ¬ (x1.toInt = 61) by omega), if_neg (show ¬ (x1.toInt = 62) by omega), if_neg w10, if_neg w13, if_neg w9, if_pos w16]; all_goals first | (split <;> first | rfl | (exfalso; omega)) | rfl) | (unfold cJoin; (repeat' split) <;> first | rfl | (exfalso; omega))))⟩)
    ·
      have c18 : x3.toInt = (0 : Int32).toInt := kd_neF c; clear c
      refine ft_go mi_k22 2 176 [(0, .int x1), (1, .int x2), (2, .int x3)] [.int 0] i a q r (by rfl) ?_
      exact ft_ret mi_k22 (by rfl) (hP 0 ⟨trivial, (show (0 : Int32) = cJoin x1 x2 x3 from (by have k0_ : (0 : Int32).toInt = 0 := (by decide); have k6_ : (6 : Int32).toInt = 6 := (by decide); first | (unfold cJoin; rw [if_neg (show ¬ (x1.toInt = 124) by omega), if_neg w4, if_neg (show ¬ (x1.toInt = 60) by omega), if_neg (show ¬ (x1.toInt = 61) by omega), if_neg (show ¬ (x1.toInt = 62) by omega), if_neg w10, if_neg w13, if_neg w9, if_pos w16]; all_goals first | (split <;> first | rfl | (exfalso; omega)) | rfl) | (unfold cJoin; (repeat' split) <;> first | rfl | (exfalso; omega))))⟩)
  by_cases w19 : x1.toInt = 60
  ·
    refine ko_eq (x1 := (1, [(0, .int x1), (1, .int x2), (2, .int x3)], [.int 60], (0, 0), ks i a q r)) (by rw [(kj_eq w19 (by decide) : x1 = 60)]) ?_
    refine ft_go mi_k22 3 122 [(0, .int x1), (1, .int x2), (2, .int x3)] [.int x3, .int x2] i a q r (by rfl) ?_
    refine ft_if mi_k22 (decide (x3 ≤ x2)) 129 125 [(0, .int x1), (1, .int x2), (2, .int x3)] [] (by rfl) (fun c => ?_) (fun c => ?_)
    ·
      have c20 : x3.toInt ≤ x2.toInt := kd_le c; clear c
      refine ft_go mi_k22 1 130 [(0, .int x1), (1, .int x2), (2, .int x3)] [.int 0] i a q r (by rfl) ?_
      exact ft_ret mi_k22 (by rfl) (hP 0 ⟨trivial, (show (0 : Int32) = cJoin x1 x2 x3 from (by have k0_ : (0 : Int32).toInt = 0 := (by decide); have k6_ : (6 : Int32).toInt = 6 := (by decide); first | (unfold cJoin; rw [if_neg (show ¬ (x1.toInt = 124) by omega), if_neg w4, if_pos w19]; all_goals first | (split <;> first | rfl | (exfalso; omega)) | rfl) | (unfold cJoin; (repeat' split) <;> first | rfl | (exfalso; omega))))⟩)
    ·
      have c21 : x2.toInt < x3.toInt := kd_leF c; clear c
      refine ft_go mi_k22 2 130 [(0, .int x1), (1, .int x2), (2, .int x3)] [.int 1] i a q r (by rfl) ?_
      exact ft_ret mi_k22 (by rfl) (hP 1 ⟨trivial, (show (1 : Int32) = cJoin x1 x2 x3 from (by have k0_ : (0 : Int32).toInt = 0 := (by decide); have k6_ : (6 : Int32).toInt = 6 := (by decide); first | (unfold cJoin; rw [if_neg (show ¬ (x1.toInt = 124) by omega), if_neg w4, if_pos w19]; all_goals first | (split <;> first | rfl | (exfalso; omega)) | rfl) | (unfold cJoin; (repeat' split) <;> first | rfl | (exfalso; omega))))⟩)
  by_cases w22 : x1.toInt = 61
  ·
    refine ko_eq (x1 := (1, [(0, .int x1), (1, .int x2), (2, .int x3)], [.int 61], (0, 0), ks i a q r)) (by rw [(kj_eq w22 (by decide) : x1 = 61)]) ?_
    refine ft_go mi_k22 3 133 [(0, .int x1), (1, .int x2), (2, .int x3)] [.int x3, .int x2] i a q r (by rfl) ?_
    refine ft_if mi_k22 (x2 != x3) 140 136 [(0, .int x1), (1, .int x2), (2, .int x3)] [] (by rfl) (fun c => ?_) (fun c => ?_)
    ·
      have c23 : x2.toInt ≠ x3.toInt := kd_ne c; clear c
      refine ft_go mi_k22 1 141 [(0, .int x1), (1, .int x2), (2, .int x3)] [.int 0] i a q r (by rfl) ?_
      exact ft_ret mi_k22 (by rfl) (hP 0 ⟨trivial, (show (0 : Int32) = cJoin x1 x2 x3 from (by have k0_ : (0 : Int32).toInt = 0 := (by decide); have k6_ : (6 : Int32).toInt = 6 := (by decide); first | (unfold cJoin; rw [if_neg (show ¬ (x1.toInt = 124) by omega), if_neg w4, if_neg w19, if_pos w22]; all_goals first | (split <;> first | rfl | (exfalso; omega)) | rfl) | (unfold cJoin; (repeat' split) <;> first | rfl | (exfalso; omega))))⟩)
    ·
      have c24 : x2.toInt = x3.toInt := kd_neF c; clear c
      refine ft_go mi_k22 2 141 [(0, .int x1), (1, .int x2), (2, .int x3)] [.int 1] i a q r (by rfl) ?_
      exact ft_ret mi_k22 (by rfl) (hP 1 ⟨trivial, (show (1 : Int32) = cJoin x1 x2 x3 from (by have k0_ : (0 : Int32).toInt = 0 := (by decide); have k6_ : (6 : Int32).toInt = 6 := (by decide); first | (unfold cJoin; rw [if_neg (show ¬ (x1.toInt = 124) by omega), if_neg w4, if_neg w19, if_pos w22]; all_goals first | (split <;> first | rfl | (exfalso; omega)) | rfl) | (unfold cJoin; (repeat' split) <;> first | rfl | (exfalso; omega))))⟩)
  by_cases w25 : x1.toInt = 62
  ·
    refine ko_eq (x1 := (1, [(0, .int x1), (1, .int x2), (2, .int x3)], [.int 62], (0, 0), ks i a q r)) (by rw [(kj_eq w25 (by decide) : x1 = 62)]) ?_
    refine ft_go mi_k22 3 144 [(0, .int x1), (1, .int x2), (2, .int x3)] [.int x3, .int x2] i a q r (by rfl) ?_
    refine ft_if mi_k22 (decide (x2 ≤ x3)) 151 147 [(0, .int x1), (1, .int x2), (2, .int x3)] [] (by rfl) (fun c => ?_) (fun c => ?_)
    ·
      have c26 : x2.toInt ≤ x3.toInt := kd_le c; clear c
      refine ft_go mi_k22 1 152 [(0, .int x1), (1, .int x2), (2, .int x3)] [.int 0] i a q r (by rfl) ?_
      exact ft_ret mi_k22 (by rfl) (hP 0 ⟨trivial, (show (0 : Int32) = cJoin x1 x2 x3 from (by have k0_ : (0 : Int32).toInt = 0 := (by decide); have k6_ : (6 : Int32).toInt = 6 := (by decide); first | (unfold cJoin; rw [if_neg (show ¬ (x1.toInt = 124) by omega), if_neg w4, if_neg w19, if_neg w22, if_pos w25]; all_goals first | (split <;> first | rfl | (exfalso; omega)) | rfl) | (unfold cJoin; (repeat' split) <;> first | rfl | (exfalso; omega))))⟩)
    ·
      have c27 : x3.toInt < x2.toInt := kd_leF c; clear c
      refine ft_go mi_k22 2 152 [(0, .int x1), (1, .int x2), (2, .int x3)] [.int 1] i a q r (by rfl) ?_
      exact ft_ret mi_k22 (by rfl) (hP 1 ⟨trivial, (show (1 : Int32) = cJoin x1 x2 x3 from (by have k0_ : (0 : Int32).toInt = 0 := (by decide); have k6_ : (6 : Int32).toInt = 6 := (by decide); first | (unfold cJoin; rw [if_neg (show ¬ (x1.toInt = 124) by omega), if_neg w4, if_neg w19, if_neg w22, if_pos w25]; all_goals first | (split <;> first | rfl | (exfalso; omega)) | rfl) | (unfold cJoin; (repeat' split) <;> first | rfl | (exfalso; omega))))⟩)
  by_cases w28 : x1.toInt = 124
  ·
    refine ko_eq (x1 := (1, [(0, .int x1), (1, .int x2), (2, .int x3)], [.int 124], (0, 0), ks i a q r)) (by rw [(kj_eq w28 (by decide) : x1 = 124)]) ?_
    refine ft_go mi_k22 2 93 [(0, .int x1), (1, .int x2), (2, .int x3)] [.int x2] i a q r (by rfl) ?_
    refine ft_if mi_k22 (x2 != 0) 100 96 [(0, .int x1), (1, .int x2), (2, .int x3)] [] (by rfl) (fun c => ?_) (fun c => ?_)
    ·
      have c29 : x2.toInt ≠ (0 : Int32).toInt := kd_ne c; clear c
      refine ft_go mi_k22 2 105 [(0, .int x1), (1, .int x2), (2, .int x3)] [.int 1] i a q r (by rfl) ?_
      exact ft_ret mi_k22 (by rfl) (hP 1 ⟨trivial, (show (1 : Int32) = cJoin x1 x2 x3 from (by have k0_ : (0 : Int32).toInt = 0 := (by decide); have k6_ : (6 : Int32).toInt = 6 := (by decide); first | (unfold cJoin; rw [if_pos w28]; all_goals first | (split <;> first | rfl | (exfalso; omega)) | rfl) | (unfold cJoin; (repeat' split) <;> first | rfl | (exfalso; omega))))⟩)
    ·
      have c30 : x2.toInt = (0 : Int32).toInt := kd_neF c; clear c
      refine ft_go mi_k22 1 97 [(0, .int x1), (1, .int x2), (2, .int x3)] [.int x3] i a q r (by rfl) ?_
      refine ft_if mi_k22 (x3 == 0) 104 100 [(0, .int x1), (1, .int x2), (2, .int x3)] [] (by rfl) (fun c => ?_) (fun c => ?_)
      ·
        have c31 : x3.toInt = (0 : Int32).toInt := kd_eq c; clear c
        refine ft_go mi_k22 1 105 [(0, .int x1), (1, .int x2), (2, .int x3)] [.int 0] i a q r (by rfl) ?_
        exact ft_ret mi_k22 (by rfl) (hP 0 ⟨trivial, (show (0 : Int32) = cJoin x1 x2 x3 from (by have k0_ : (0 : Int32).toInt = 0 := (by decide); have k6_ : (6 : Int32).toInt = 6 := (by decide); first | (unfold cJoin; rw [if_pos w28]; all_goals first | (split <;> first | rfl | (exfalso; omega)) | rfl) | (unfold cJoin; (repeat' split) <;> first | rfl | (exfalso; omega))))⟩)
      ·
        have c32 : x3.toInt ≠ (0 : Int32).toInt := kd_eqF c; clear c
        refine ft_go mi_k22 2 105 [(0, .int x1), (1, .int x2), (2, .int x3)] [.int 1] i a q r (by rfl) ?_
        exact ft_ret mi_k22 (by rfl) (hP 1 ⟨trivial, (show (1 : Int32) = cJoin x1 x2 x3 from (by have k0_ : (0 : Int32).toInt = 0 := (by decide); have k6_ : (6 : Int32).toInt = 6 := (by decide); first | (unfold cJoin; rw [if_pos w28]; all_goals first | (split <;> first | rfl | (exfalso; omega)) | rfl) | (unfold cJoin; (repeat' split) <;> first | rfl | (exfalso; omega))))⟩)
  refine ko_lsw (ls := [(0, .int x1), (1, .int x2), (2, .int x3)]) (r := []) (h := ks i a q r) mi_in22 (v := x1) (i := (.lookupswitch 188 #[(37, 176), (38, 105), (42, 160), (43, 152), (45, 156), (47, 164), (60, 119), (61, 130), (62, 141), (124, 91)], 91, 0, 0, 0, 0, 0)) (by rfl) rfl (by simp only [Op.lookupswitch.offset, if_neg (Ne.symm w1), if_neg (Ne.symm w4), if_neg (Ne.symm w9), if_neg (Ne.symm w10), if_neg (Ne.symm w13), if_neg (Ne.symm w16), if_neg (Ne.symm w19), if_neg (Ne.symm w22), if_neg (Ne.symm w25), if_neg (Ne.symm w28)] <;> rfl) 189 (by rfl) ?_
  refine ft_go mi_k22 1 190 [(0, .int x1), (1, .int x2), (2, .int x3)] [.int 0] i a q r (by rfl) ?_
  exact ft_ret mi_k22 (by rfl) (hP 0 ⟨trivial, (show (0 : Int32) = cJoin x1 x2 x3 from (by have k0_ : (0 : Int32).toInt = 0 := (by decide); have k6_ : (6 : Int32).toInt = 6 := (by decide); first | (unfold cJoin; rw [if_neg w28, if_neg w4, if_neg w19, if_neg w22, if_neg w25, if_neg w10, if_neg w13, if_neg w9, if_neg w16, if_neg w1]; all_goals first | (split <;> first | rfl | (exfalso; omega)) | rfl) | (unfold cJoin; (repeat' split) <;> first | rfl | (exfalso; omega))))⟩)
def yw21_10_24 : kW := ([645], [13], [], [])
def yw21_10_24_L9 : kW := ([645], [13], [], [])
