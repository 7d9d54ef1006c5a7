set_option maxRecDepth 100000 in
theorem ke160 {i : Nat → Int32} {a : Nat → List Int32} {q : Nat → List Int64} {r : Nat → Nat} (hI : kI i a q) (hr : kr r) (x1 : Int32) (x2 : Int32) (x3 : Int32) : km 1 160 [.int x1, .int x2, .int x3] (ks i a q r) (kPI (ks i a q r) (fun v => (True) ∧ v = rBoth x1 x2 x3)) := by
  have hG := kG_self kW0 hI hr
  refine km_ofPI (q := (mi_h160, mi_c160)) rfl (by decide) (Nat.le_of_ble_eq_true rfl) ?_
  intro P hP
  refine ft_go mi_k160 1 1 [(0, .int x1), (1, .int x2), (2, .int x3)] [.int x1] i a q r (by rfl) ?_
  by_cases w1 : x1.toInt = 6
  ·
    refine ko_eq (x1 := (1, [(0, .int x1), (1, .int x2), (2, .int x3)], [.int 6], (0, 0), ks i a q r)) (by rw [(kj_eq w1 (by decide) : x1 = 6)]) ?_
    refine ft_go mi_k160 2 53 [(0, .int x1), (1, .int x2), (2, .int x3)] [.int x2] i a q r (by rfl) ?_
    refine ft_if mi_k160 (x2 != 0) 60 56 [(0, .int x1), (1, .int x2), (2, .int x3)] [] (by rfl) (fun c => ?_) (fun c => ?_)
    ·
      have c2 : x2.toInt ≠ (0 : Int32).toInt := kd_ne c; clear c
      refine ft_go mi_k160 2 65 [(0, .int x1), (1, .int x2), (2, .int x3)] [.int 1] i a q r (by rfl) ?_
      exact ft_ret mi_k160 (by rfl) (hP 1 ⟨trivial, (show (1 : Int32) = rBoth x1 x2 x3 from (by have k0_ : (0 : Int32).toInt = 0 := (by decide); have k6_ : (6 : Int32).toInt = 6 := (by decide); first | (unfold rBoth; rw [if_pos w1]; all_goals first | (split <;> first | rfl | (exfalso; omega)) | rfl) | (unfold rBoth; (repeat' split) <;> first | rfl | (exfalso; omega))))⟩)
    ·
      have c3 : x2.toInt = (0 : Int32).toInt := kd_neF c; clear c
      refine ft_go mi_k160 1 57 [(0, .int x1), (1, .int x2), (2, .int x3)] [.int x3] i a q r (by rfl) ?_
      refine ft_if mi_k160 (x3 == 0) 64 60 [(0, .int x1), (1, .int x2), (2, .int x3)] [] (by rfl) (fun c => ?_) (fun c => ?_)
      ·
        have c4 : x3.toInt = (0 : Int32).toInt := kd_eq c; clear c
        refine ft_go mi_k160 1 65 [(0, .int x1), (1, .int x2), (2, .int x3)] [.int 0] i a q r (by rfl) ?_
        exact ft_ret mi_k160 (by rfl) (hP 0 ⟨trivial, (show (0 : Int32) = rBoth x1 x2 x3 from (by have k0_ : (0 : Int32).toInt = 0 := (by decide); have k6_ : (6 : Int32).toInt = 6 := (by decide); first | (unfold rBoth; rw [if_pos w1]; all_goals first | (split <;> first | rfl | (exfalso; omega)) | rfl) | (unfold rBoth; (repeat' split) <;> first | rfl | (exfalso; omega))))⟩)
      ·
        have c5 : x3.toInt ≠ (0 : Int32).toInt := kd_eqF c; clear c
        refine ft_go mi_k160 2 65 [(0, .int x1), (1, .int x2), (2, .int x3)] [.int 1] i a q r (by rfl) ?_
        exact ft_ret mi_k160 (by rfl) (hP 1 ⟨trivial, (show (1 : Int32) = rBoth x1 x2 x3 from (by have k0_ : (0 : Int32).toInt = 0 := (by decide); have k6_ : (6 : Int32).toInt = 6 := (by decide); first | (unfold rBoth; rw [if_pos w1]; all_goals first | (split <;> first | rfl | (exfalso; omega)) | rfl) | (unfold rBoth; (repeat' split) <;> first | rfl | (exfalso; omega))))⟩)
  by_cases w6 : x1.toInt = 7
  ·
    refine ko_eq (x1 := (1, [(0, .int x1), (1, .int x2), (2, .int x3)], [.int 7], (0, 0), ks i a q r)) (by rw [(kj_eq w6 (by decide) : x1 = 7)]) ?_
    refine ft_go mi_k160 2 67 [(0, .int x1), (1, .int x2), (2, .int x3)] [.int x2] i a q r (by rfl) ?_
    refine ft_if mi_k160 (x2 == 0) 78 70 [(0, .int x1), (1, .int x2), (2, .int x3)] [] (by rfl) (fun c => ?_) (fun c => ?_)
    ·
      have c7 : x2.toInt = (0 : Int32).toInt := kd_eq c; clear c
      refine ft_go mi_k160 1 79 [(0, .int x1), (1, .int x2), (2, .int x3)] [.int 0] i a q r (by rfl) ?_
      exact ft_ret mi_k160 (by rfl) (hP 0 ⟨trivial, (show (0 : Int32) = rBoth x1 x2 x3 from (by have k0_ : (0 : Int32).toInt = 0 := (by decide); have k6_ : (6 : Int32).toInt = 6 := (by decide); first | (unfold rBoth; rw [if_neg w1, if_pos w6]; all_goals first | (split <;> first | rfl | (exfalso; omega)) | rfl) | (unfold rBoth; (repeat' split) <;> first | rfl | (exfalso; omega))))⟩)
    ·
      have c8 : x2.toInt ≠ (0 : Int32).toInt := kd_eqF c; clear c
      refine ft_go mi_k160 1 71 [(0, .int x1), (1, .int x2), (2, .int x3)] [.int x3] i a q r (by rfl) ?_
      refine ft_if mi_k160 (x3 == 0) 78 74 [(0, .int x1), (1, .int x2), (2, .int x3)] [] (by rfl) (fun c => ?_) (fun c => ?_)
      ·
        have c9 : x3.toInt = (0 : Int32).toInt := kd_eq c; clear c
        refine ft_go mi_k160 1 79 [(0, .int x1), (1, .int x2), (2, .int x3)] [.int 0] i a q r (by rfl) ?_
        exact ft_ret mi_k160 (by rfl) (hP 0 ⟨trivial, (show (0 : Int32) = rBoth x1 x2 x3 from (by have k0_ : (0 : Int32).toInt = 0 := (by decide); have k6_ : (6 : Int32).toInt = 6 := (by decide); first | (unfold rBoth; rw [if_neg w1, if_pos w6]; all_goals first | (split <;> first | rfl | (exfalso; omega)) | rfl) | (unfold rBoth; (repeat' split) <;> first | rfl | (exfalso; omega))))⟩)
      ·
        have c10 : x3.toInt ≠ (0 : Int32).toInt := kd_eqF c; clear c
        refine ft_go mi_k160 2 79 [(0, .int x1), (1, .int x2), (2, .int x3)] [.int 1] i a q r (by rfl) ?_
        exact ft_ret mi_k160 (by rfl) (hP 1 ⟨trivial, (show (1 : Int32) = rBoth x1 x2 x3 from (by have k0_ : (0 : Int32).toInt = 0 := (by decide); have k6_ : (6 : Int32).toInt = 6 := (by decide); first | (unfold rBoth; rw [if_neg w1, if_pos w6]; all_goals first | (split <;> first | rfl | (exfalso; omega)) | rfl) | (unfold rBoth; (repeat' split) <;> first | rfl | (exfalso; omega))))⟩)
  by_cases w11 : x1.toInt = 8
  ·
    refine ko_eq (x1 := (1, [(0, .int x1), (1, .int x2), (2, .int x3)], [.int 8], (0, 0), ks i a q r)) (by rw [(kj_eq w11 (by decide) : x1 = 8)]) ?_
    refine ft_go mi_k160 3 82 [(0, .int x1), (1, .int x2), (2, .int x3)] [.int x3, .int x2] i a q r (by rfl) ?_
    refine ft_if mi_k160 (decide (x3 ≤ x2)) 89 85 [(0, .int x1), (1, .int x2), (2, .int x3)] [] (by rfl) (fun c => ?_) (fun c => ?_)
    ·
      have c12 : x3.toInt ≤ x2.toInt := kd_le c; clear c
      refine ft_go mi_k160 1 90 [(0, .int x1), (1, .int x2), (2, .int x3)] [.int 0] i a q r (by rfl) ?_
      exact ft_ret mi_k160 (by rfl) (hP 0 ⟨trivial, (show (0 : Int32) = rBoth x1 x2 x3 from (by have k0_ : (0 : Int32).toInt = 0 := (by decide); have k6_ : (6 : Int32).toInt = 6 := (by decide); first | (unfold rBoth; rw [if_neg w1, if_neg w6, if_pos w11]; all_goals first | (split <;> first | rfl | (exfalso; omega)) | rfl) | (unfold rBoth; (repeat' split) <;> first | rfl | (exfalso; omega))))⟩)
    ·
      have c13 : x2.toInt < x3.toInt := kd_leF c; clear c
      refine ft_go mi_k160 2 90 [(0, .int x1), (1, .int x2), (2, .int x3)] [.int 1] i a q r (by rfl) ?_
      exact ft_ret mi_k160 (by rfl) (hP 1 ⟨trivial, (show (1 : Int32) = rBoth x1 x2 x3 from (by have k0_ : (0 : Int32).toInt = 0 := (by decide); have k6_ : (6 : Int32).toInt = 6 := (by decide); first | (unfold rBoth; rw [if_neg w1, if_neg w6, if_pos w11]; all_goals first | (split <;> first | rfl | (exfalso; omega)) | rfl) | (unfold rBoth; (repeat' split) <;> first | rfl | (exfalso; omega))))⟩)
  by_cases w14 : x1.toInt = 9
  ·
    refine ko_eq (x1 := (1, [(0, .int x1), (1, .int x2), (2, .int x3)], [.int 9], (0, 0), ks i a q r)) (by rw [(kj_eq w14 (by decide) : x1 = 9)]) ?_
    refine ft_go mi_k160 3 93 [(0, .int x1), (1, .int x2), (2, .int x3)] [.int x3, .int x2] i a q r (by rfl) ?_
    refine ft_if mi_k160 (x2 != x3) 100 96 [(0, .int x1), (1, .int x2), (2, .int x3)] [] (by rfl) (fun c => ?_) (fun c => ?_)
    ·
      have c15 : x2.toInt ≠ x3.toInt := kd_ne c; clear c
      refine ft_go mi_k160 1 101 [(0, .int x1), (1, .int x2), (2, .int x3)] [.int 0] i a q r (by rfl) ?_
      exact ft_ret mi_k160 (by rfl) (hP 0 ⟨trivial, (show (0 : Int32) = rBoth x1 x2 x3 from (by have k0_ : (0 : Int32).toInt = 0 := (by decide); have k6_ : (6 : Int32).toInt = 6 := (by decide); first | (unfold rBoth; rw [if_neg w1, if_neg w6, if_neg w11, if_pos w14]; all_goals first | (split <;> first | rfl | (exfalso; omega)) | rfl) | (unfold rBoth; (repeat' split) <;> first | rfl | (exfalso; omega))))⟩)
    ·
      have c16 : x2.toInt = x3.toInt := kd_neF c; clear c
      refine ft_go mi_k160 2 101 [(0, .int x1), (1, .int x2), (2, .int x3)] [.int 1] i a q r (by rfl) ?_
      exact ft_ret mi_k160 (by rfl) (hP 1 ⟨trivial, (show (1 : Int32) = rBoth x1 x2 x3 from (by have k0_ : (0 : Int32).toInt = 0 := (by decide); have k6_ : (6 : Int32).toInt = 6 := (by decide); first | (unfold rBoth; rw [if_neg w1, if_neg w6, if_neg w11, if_pos w14]; all_goals first | (split <;> first | rfl | (exfalso; omega)) | rfl) | (unfold rBoth; (repeat' split) <;> first | rfl | (exfalso; omega))))⟩)
  by_cases w17 : x1.toInt = 10
  ·
    refine ko_eq (x1 := (1, [(0, .int x1), (1, .int x2), (2, .int x3)], [.int 10], (0, 0), ks i a q r)) (by rw [(kj_eq w17 (by decide) : x1 = 10)]) ?_
    refine ft_go mi_k160 3 104 [(0, .int x1), (1, .int x2), (2, .int x3)] [.int x3, .int x2] i a q r (by rfl) ?_
    refine ft_if mi_k160 (decide (x2 ≤ x3)) 111 107 [(0, .int x1), (1, .int x2), (2, .int x3)] [] (by rfl) (fun c => ?_) (fun c => ?_)
    ·
      have c18 : x2.toInt ≤ x3.toInt := kd_le c; clear c
      refine ft_go mi_k160 1 112 [(0, .int x1), (1, .int x2), (2, .int x3)] [.int 0] i a q r (by rfl) ?_
      exact ft_ret mi_k160 (by rfl) (hP 0 ⟨trivial, (show (0 : Int32) = rBoth x1 x2 x3 from (by have k0_ : (0 : Int32).toInt = 0 := (by decide); have k6_ : (6 : Int32).toInt = 6 := (by decide); first | (unfold rBoth; rw [if_neg w1, if_neg w6, if_neg w11, if_neg w14, if_pos w17]; all_goals first | (split <;> first | rfl | (exfalso; omega)) | rfl) | (unfold rBoth; (repeat' split) <;> first | rfl | (exfalso; omega))))⟩)
    ·
      have c19 : x3.toInt < x2.toInt := kd_leF c; clear c
      refine ft_go mi_k160 2 112 [(0, .int x1), (1, .int x2), (2, .int x3)] [.int 1] i a q r (by rfl) ?_
      exact ft_ret mi_k160 (by rfl) (hP 1 ⟨trivial, (show (1 : Int32) = rBoth x1 x2 x3 from (by have k0_ : (0 : Int32).toInt = 0 := (by decide); have k6_ : (6 : Int32).toInt = 6 := (by decide); first | (unfold rBoth; rw [if_neg w1, if_neg w6, if_neg w11, if_neg w14, if_pos w17]; all_goals first | (split <;> first | rfl | (exfalso; omega)) | rfl) | (unfold rBoth; (repeat' split) <;> first | rfl | (exfalso; omega))))⟩)
  by_cases w20 : x1.toInt = 11
  ·
    refine ko_eq (x1 := (1, [(0, .int x1), (1, .int x2), (2, .int x3)], [.int 11], (0, 0), ks i a q r)) (by rw [(kj_eq w20 (by decide) : x1 = 11)]) ?_
    have b21 : ((-2147483648 : Int) ≤ x2.toInt) ∧ (x2.toInt ≤ 2147483647) := kd_bd x2
    have b22 : ((-2147483648 : Int) ≤ x3.toInt) ∧ (x3.toInt ≤ 2147483647) := kd_bd x3
    refine ft_go mi_k160 4 116 [(0, .int x1), (1, .int x2), (2, .int x3)] [.int (x2 + x3)] i a q r (by rfl) ?_
    exact ft_ret mi_k160 (by rfl) (hP (x2 + x3) ⟨trivial, (show (x2 + x3) = rBoth x1 x2 x3 from (by have k0_ : (0 : Int32).toInt = 0 := (by decide); have k6_ : (6 : Int32).toInt = 6 := (by decide); first | (unfold rBoth; rw [if_neg w1, if_neg w6, if_neg w11, if_neg w14, if_neg w17, if_pos w20]; all_goals first | (split <;> first | rfl | (exfalso; omega)) | rfl) | (unfold rBoth; (repeat' split) <;> first | rfl | (exfalso; omega))))⟩)
  by_cases w23 : x1.toInt = 12
  ·
    refine ko_eq (x1 := (1, [(0, .int x1), (1, .int x2), (2, .int x3)], [.int 12], (0, 0), ks i a q r)) (by rw [(kj_eq w23 (by decide) : x1 = 12)]) ?_
    have b24 : ((-2147483648 : Int) ≤ x2.toInt) ∧ (x2.toInt ≤ 2147483647) := kd_bd x2
    have b25 : ((-2147483648 : Int) ≤ x3.toInt) ∧ (x3.toInt ≤ 2147483647) := kd_bd x3
    refine ft_go mi_k160 4 120 [(0, .int x1), (1, .int x2), (2, .int x3)] [.int (x2 - x3)] i a q r (by rfl) ?_
    exact ft_ret mi_k160 (by rfl) (hP (x2 - x3) ⟨trivial, (show (x2 - x3) = rBoth x1 x2 x3 from (by have k0_ : (0 : Int32).toInt = 0 := (by decide); have k6_ : (6 : Int32).toInt = 6 := (by decide); first | (unfold rBoth; rw [if_neg w1, if_neg w6, if_neg w11, if_neg w14, if_neg w17, if_neg w20, if_pos w23]; all_goals first | (split <;> first | rfl | (exfalso; omega)) | rfl) | (unfold rBoth; (repeat' split) <;> first | rfl | (exfalso; omega))))⟩)
  by_cases w26 : x1.toInt = 13
  ·
    refine ko_eq (x1 := (1, [(0, .int x1), (1, .int x2), (2, .int x3)], [.int 13], (0, 0), ks i a q r)) (by rw [(kj_eq w26 (by decide) : x1 = 13)]) ?_
    refine ft_go mi_k160 4 124 [(0, .int x1), (1, .int x2), (2, .int x3)] [.int (x2 * x3)] i a q r (by rfl) ?_
    exact ft_ret mi_k160 (by rfl) (hP (x2 * x3) ⟨trivial, (show (x2 * x3) = rBoth x1 x2 x3 from (by have k0_ : (0 : Int32).toInt = 0 := (by decide); have k6_ : (6 : Int32).toInt = 6 := (by decide); first | (unfold rBoth; rw [if_neg w1, if_neg w6, if_neg w11, if_neg w14, if_neg w17, if_neg w20, if_neg w23, if_pos w26]; all_goals first | (split <;> first | rfl | (exfalso; omega)) | rfl) | (unfold rBoth; (repeat' split) <;> first | rfl | (exfalso; omega))))⟩)
  by_cases w27 : x1.toInt = 14
  ·
    refine ko_eq (x1 := (1, [(0, .int x1), (1, .int x2), (2, .int x3)], [.int 14], (0, 0), ks i a q r)) (by rw [(kj_eq w27 (by decide) : x1 = 14)]) ?_
    refine ft_go mi_k160 2 126 [(0, .int x1), (1, .int x2), (2, .int x3)] [.int x3] i a q r (by rfl) ?_
    refine ft_if mi_k160 (x3 != 0) 133 129 [(0, .int x1), (1, .int x2), (2, .int x3)] [] (by rfl) (fun c => ?_) (fun c => ?_)
    ·
      have c28 : x3.toInt ≠ (0 : Int32).toInt := kd_ne c; clear c
      refine ft_go mi_k160 2 135 [(0, .int x1), (1, .int x2), (2, .int x3)] [.int x3, .int x2] i a q r (by rfl) ?_
      refine ko_idiv mi_k160.1 (ax := (0, 0, 0, 0, 0)) (mi_k160.2 _ _ (by rfl)) (og0 c28 kog0) ?_
      exact ft_ret mi_k160 (by rfl) (hP (x2 / x3) ⟨trivial, (show (x2 / x3) = rBoth x1 x2 x3 from (by have k0_ : (0 : Int32).toInt = 0 := (by decide); have k6_ : (6 : Int32).toInt = 6 := (by decide); first | (unfold rBoth; rw [if_neg w1, if_neg w6, if_neg w11, if_neg w14, if_neg w17, if_neg w20, if_neg w23, if_neg w26, if_pos w27]; all_goals first | (split <;> first | rfl | (exfalso; omega)) | rfl) | (unfold rBoth; (repeat' split) <;> first | rfl | (exfalso; omega))))⟩)
    ·
      have c29 : x3.toInt = (0 : Int32).toInt := kd_neF c; clear c
      refine ft_go mi_k160 2 136 [(0, .int x1), (1, .int x2), (2, .int x3)] [.int 0] i a q r (by rfl) ?_
      exact ft_ret mi_k160 (by rfl) (hP 0 ⟨trivial, (show (0 : Int32) = rBoth x1 x2 x3 from (by have k0_ : (0 : Int32).toInt = 0 := (by decide); have k6_ : (6 : Int32).toInt = 6 := (by decide); first | (unfold rBoth; rw [if_neg w1, if_neg w6, if_neg w11, if_neg w14, if_neg w17, if_neg w20, if_neg w23, if_neg w26, if_pos w27]; all_goals first | (split <;> first | rfl | (exfalso; omega)) | rfl) | (unfold rBoth; (repeat' split) <;> first | rfl | (exfalso; omega))))⟩)
  refine ko_sw (ls := [(0, .int x1), (1, .int x2), (2, .int x3)]) (r := []) (h := ks i a q r) mi_in160 (v := x1) (i := (.tableswitch 136 6 14 #[51, 65, 79, 90, 101, 112, 116, 120, 124], 51, 0, 0, 0, 0, 0)) (by rfl) rfl (og1 w1 w6 w11 w14 w17 w20 w23 w26 w27) 137 (by rfl) ?_
  refine ft_go mi_k160 1 138 [(0, .int x1), (1, .int x2), (2, .int x3)] [.int x3] i a q r (by rfl) ?_
  refine ft_if mi_k160 (x3 != 0) 145 141 [(0, .int x1), (1, .int x2), (2, .int x3)] [] (by rfl) (fun c => ?_) (fun c => ?_)
  ·
    have c30 : x3.toInt ≠ (0 : Int32).toInt := kd_ne c; clear c
    refine ft_go mi_k160 2 147 [(0, .int x1), (1, .int x2), (2, .int x3)] [.int x3, .int x2] i a q r (by rfl) ?_
    refine ko_irem mi_k160.1 (ax := (0, 0, 0, 0, 0)) (mi_k160.2 _ _ (by rfl)) (og0 c30 kog0) ?_
    exact ft_ret mi_k160 (by rfl) (hP (x2 - x2 / x3 * x3) ⟨trivial, (show (x2 - x2 / x3 * x3) = rBoth x1 x2 x3 from (by have k0_ : (0 : Int32).toInt = 0 := (by decide); have k6_ : (6 : Int32).toInt = 6 := (by decide); first | (unfold rBoth; rw [if_neg w1, if_neg w6, if_neg w11, if_neg w14, if_neg w17, if_neg w20, if_neg w23, if_neg w26, if_neg w27]; all_goals first | (split <;> first | rfl | (exfalso; omega)) | rfl) | (unfold rBoth; (repeat' split) <;> first | rfl | (exfalso; omega))))⟩)
  ·
    have c31 : x3.toInt = (0 : Int32).toInt := kd_neF c; clear c
    refine ft_go mi_k160 2 148 [(0, .int x1), (1, .int x2), (2, .int x3)] [.int 0] i a q r (by rfl) ?_
    exact ft_ret mi_k160 (by rfl) (hP 0 ⟨trivial, (show (0 : Int32) = rBoth x1 x2 x3 from (by have k0_ : (0 : Int32).toInt = 0 := (by decide); have k6_ : (6 : Int32).toInt = 6 := (by decide); first | (unfold rBoth; rw [if_neg w1, if_neg w6, if_neg w11, if_neg w14, if_neg w17, if_neg w20, if_neg w23, if_neg w26, if_neg w27]; all_goals first | (split <;> first | rfl | (exfalso; omega)) | rfl) | (unfold rBoth; (repeat' split) <;> first | rfl | (exfalso; omega))))⟩)
def yw161_116 : kW := ([], [128], [], [])
def yw161_116_L5 : kW := ([], [128], [], [])
