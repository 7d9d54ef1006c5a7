set_option maxRecDepth 100000 in
theorem kc22 {i : Nat → Int32} {a : Nat → List Int32} {q : Nat → List Int64} {r : Nat → Nat} (hI : kI i a q) (hr : kr r) (x1 : Int32) (x2 : Int32) (x3 : Int32) : km 1 22 [.int x1, .int x2, .int x3] (ks i a q r) (kPI (ks i a q r) (fun v => True)) := by
  have hG := kG_self kW0 hI hr
  refine km_ofPI (q := (mi_h22, mi_c22)) rfl (by decide) (Nat.le_of_ble_eq_true rfl) ?_
  intro P hP
  refine ko_steps mi_in22 1 _ (1, [(0, .int x1), (1, .int x2), (2, .int x3)], [.int x1], (0, 0), ks i a q r) (by rfl) ?_
  by_cases w1 : x1.toInt = 37
  ·
    refine ko_eq (x1 := (1, [(0, .int x1), (1, .int x2), (2, .int x3)], [.int 37], (0, 0), ks i a q r)) (by rw [(kj_eq w1 (by decide) : x1 = 37)]) ?_
    refine ko_steps mi_in22 2 _ (178, [(0, .int x1), (1, .int x2), (2, .int x3)], [.int x3], (0, 0), ks i a q r) (by rfl) ?_
    refine ko_if mi_in22 (x3 != 0) 185 181 ([(0, .int x1), (1, .int x2), (2, .int x3)], [], (0, 0), ks i a q r) (by rfl) (fun c => ?_) (fun c => ?_)
    ·
      have c2 : x3.toInt ≠ (0 : Int32).toInt := kd_ne c; clear c
      refine ko_steps mi_in22 2 _ (187, [(0, .int x1), (1, .int x2), (2, .int x3)], [.int x3, .int x2], (0, 0), ks i a q r) (by rfl) ?_
      refine ko_irem mi_in22 (ax := (0, 0, 0, 0, 0)) (by rfl) (oz129 c2 kn0) ?_
      exact ko_ret mi_in22 (by rfl) (hP (x2 - x2 / x3 * x3) trivial)
    ·
      have c3 : x3.toInt = (0 : Int32).toInt := kd_neF c; clear c
      refine ko_steps mi_in22 2 _ (188, [(0, .int x1), (1, .int x2), (2, .int x3)], [.int 0], (0, 0), ks i a q r) (by rfl) ?_
      exact ko_ret mi_in22 (by rfl) (hP 0 trivial)
  by_cases w4 : x1.toInt = 38
  ·
    refine ko_eq (x1 := (1, [(0, .int x1), (1, .int x2), (2, .int x3)], [.int 38], (0, 0), ks i a q r)) (by rw [(kj_eq w4 (by decide) : x1 = 38)]) ?_
    refine ko_steps mi_in22 2 _ (107, [(0, .int x1), (1, .int x2), (2, .int x3)], [.int x2], (0, 0), ks i a q r) (by rfl) ?_
    refine ko_if mi_in22 (x2 == 0) 118 110 ([(0, .int x1), (1, .int x2), (2, .int x3)], [], (0, 0), ks i a q r) (by rfl) (fun c => ?_) (fun c => ?_)
    ·
      have c5 : x2.toInt = (0 : Int32).toInt := kd_eq c; clear c
      refine ko_steps mi_in22 1 _ (119, [(0, .int x1), (1, .int x2), (2, .int x3)], [.int 0], (0, 0), ks i a q r) (by rfl) ?_
      exact ko_ret mi_in22 (by rfl) (hP 0 trivial)
    ·
      have c6 : x2.toInt ≠ (0 : Int32).toInt := kd_eqF c; clear c
      refine ko_steps mi_in22 1 _ (111, [(0, .int x1), (1, .int x2), (2, .int x3)], [.int x3], (0, 0), ks i a q r) (by rfl) ?_
      refine ko_if mi_in22 (x3 == 0) 118 114 ([(0, .int x1), (1, .int x2), (2, .int x3)], [], (0, 0), ks i a q r) (by rfl) (fun c => ?_) (fun c => ?_)
      ·
        have c7 : x3.toInt = (0 : Int32).toInt := kd_eq c; clear c
        refine ko_steps mi_in22 1 _ (119, [(0, .int x1), (1, .int x2), (2, .int x3)], [.int 0], (0, 0), ks i a q r) (by rfl) ?_
        exact ko_ret mi_in22 (by rfl) (hP 0 trivial)
      ·
        have c8 : x3.toInt ≠ (0 : Int32).toInt := kd_eqF c; clear c
        refine ko_steps mi_in22 2 _ (119, [(0, .int x1), (1, .int x2), (2, .int x3)], [.int 1], (0, 0), ks i a q r) (by rfl) ?_
        exact ko_ret mi_in22 (by rfl) (hP 1 trivial)
  by_cases w9 : x1.toInt = 42
  ·
    refine ko_eq (x1 := (1, [(0, .int x1), (1, .int x2), (2, .int x3)], [.int 42], (0, 0), ks i a q r)) (by rw [(kj_eq w9 (by decide) : x1 = 42)]) ?_
    refine ko_steps mi_in22 4 _ (164, [(0, .int x1), (1, .int x2), (2, .int x3)], [.int (x2 * x3)], (0, 0), ks i a q r) (by rfl) ?_
    exact ko_ret mi_in22 (by rfl) (hP (x2 * x3) trivial)
  by_cases w10 : x1.toInt = 43
  ·
    refine ko_eq (x1 := (1, [(0, .int x1), (1, .int x2), (2, .int x3)], [.int 43], (0, 0), ks i a q r)) (by rw [(kj_eq w10 (by decide) : x1 = 43)]) ?_
    have b11 : ((-2147483648 : Int) ≤ x2.toInt) ∧ (x2.toInt ≤ 2147483647) := kd_bd x2
    have b12 : ((-2147483648 : Int) ≤ x3.toInt) ∧ (x3.toInt ≤ 2147483647) := kd_bd x3
    refine ko_steps mi_in22 4 _ (156, [(0, .int x1), (1, .int x2), (2, .int x3)], [.int (x2 + x3)], (0, 0), ks i a q r) (by rfl) ?_
    exact ko_ret mi_in22 (by rfl) (hP (x2 + x3) trivial)
  by_cases w13 : x1.toInt = 45
  ·
    refine ko_eq (x1 := (1, [(0, .int x1), (1, .int x2), (2, .int x3)], [.int 45], (0, 0), ks i a q r)) (by rw [(kj_eq w13 (by decide) : x1 = 45)]) ?_
    have b14 : ((-2147483648 : Int) ≤ x2.toInt) ∧ (x2.toInt ≤ 2147483647) := kd_bd x2
    have b15 : ((-2147483648 : Int) ≤ x3.toInt) ∧ (x3.toInt ≤ 2147483647) := kd_bd x3
    refine ko_steps mi_in22 4 _ (160, [(0, .int x1), (1, .int x2), (2, .int x3)], [.int (x2 - x3)], (0, 0), ks i a q r) (by rfl) ?_
    exact ko_ret mi_in22 (by rfl) (hP (x2 - x3) trivial)
  by_cases w16 : x1.toInt = 47
  ·
    refine ko_eq (x1 := (1, [(0, .int x1), (1, .int x2), (2, .int x3)], [.int 47], (0, 0), ks i a q r)) (by rw [(kj_eq w16 (by decide) : x1 = 47)]) ?_
    refine ko_steps mi_in22 2 _ (166, [(0, .int x1), (1, .int x2), (2, .int x3)], [.int x3], (0, 0), ks i a q r) (by rfl) ?_
    refine ko_if mi_in22 (x3 != 0) 173 169 ([(0, .int x1), (1, .int x2), (2, .int x3)], [], (0, 0), ks i a q r) (by rfl) (fun c => ?_) (fun c => ?_)
    ·
      have c17 : x3.toInt ≠ (0 : Int32).toInt := kd_ne c; clear c
      refine ko_steps mi_in22 2 _ (175, [(0, .int x1), (1, .int x2), (2, .int x3)], [.int x3, .int x2], (0, 0), ks i a q r) (by rfl) ?_
      refine ko_idiv mi_in22 (ax := (0, 0, 0, 0, 0)) (by rfl) (oz129 c17 kn0) ?_
      exact ko_ret mi_in22 (by rfl) (hP (x2 / x3) trivial)
    ·
      have c18 : x3.toInt = (0 : Int32).toInt := kd_neF c; clear c
      refine ko_steps mi_in22 2 _ (176, [(0, .int x1), (1, .int x2), (2, .int x3)], [.int 0], (0, 0), ks i a q r) (by rfl) ?_
      exact ko_ret mi_in22 (by rfl) (hP 0 trivial)
  by_cases w19 : x1.toInt = 60
  ·
    refine ko_eq (x1 := (1, [(0, .int x1), (1, .int x2), (2, .int x3)], [.int 60], (0, 0), ks i a q r)) (by rw [(kj_eq w19 (by decide) : x1 = 60)]) ?_
    refine ko_steps mi_in22 3 _ (122, [(0, .int x1), (1, .int x2), (2, .int x3)], [.int x3, .int x2], (0, 0), ks i a q r) (by rfl) ?_
    refine ko_if mi_in22 (decide (x3 ≤ x2)) 129 125 ([(0, .int x1), (1, .int x2), (2, .int x3)], [], (0, 0), ks i a q r) (by rfl) (fun c => ?_) (fun c => ?_)
    ·
      have c20 : x3.toInt ≤ x2.toInt := kd_le c; clear c
      refine ko_steps mi_in22 1 _ (130, [(0, .int x1), (1, .int x2), (2, .int x3)], [.int 0], (0, 0), ks i a q r) (by rfl) ?_
      exact ko_ret mi_in22 (by rfl) (hP 0 trivial)
    ·
      have c21 : x2.toInt < x3.toInt := kd_leF c; clear c
      refine ko_steps mi_in22 2 _ (130, [(0, .int x1), (1, .int x2), (2, .int x3)], [.int 1], (0, 0), ks i a q r) (by rfl) ?_
      exact ko_ret mi_in22 (by rfl) (hP 1 trivial)
  by_cases w22 : x1.toInt = 61
  ·
    refine ko_eq (x1 := (1, [(0, .int x1), (1, .int x2), (2, .int x3)], [.int 61], (0, 0), ks i a q r)) (by rw [(kj_eq w22 (by decide) : x1 = 61)]) ?_
    refine ko_steps mi_in22 3 _ (133, [(0, .int x1), (1, .int x2), (2, .int x3)], [.int x3, .int x2], (0, 0), ks i a q r) (by rfl) ?_
    refine ko_if mi_in22 (x2 != x3) 140 136 ([(0, .int x1), (1, .int x2), (2, .int x3)], [], (0, 0), ks i a q r) (by rfl) (fun c => ?_) (fun c => ?_)
    ·
      have c23 : x2.toInt ≠ x3.toInt := kd_ne c; clear c
      refine ko_steps mi_in22 1 _ (141, [(0, .int x1), (1, .int x2), (2, .int x3)], [.int 0], (0, 0), ks i a q r) (by rfl) ?_
      exact ko_ret mi_in22 (by rfl) (hP 0 trivial)
    ·
      have c24 : x2.toInt = x3.toInt := kd_neF c; clear c
      refine ko_steps mi_in22 2 _ (141, [(0, .int x1), (1, .int x2), (2, .int x3)], [.int 1], (0, 0), ks i a q r) (by rfl) ?_
      exact ko_ret mi_in22 (by rfl) (hP 1 trivial)
  by_cases w25 : x1.toInt = 62
  ·
    refine ko_eq (x1 := (1, [(0, .int x1), (1, .int x2), (2, .int x3)], [.int 62], (0, 0), ks i a q r)) (by rw [(kj_eq w25 (by decide) : x1 = 62)]) ?_
    refine ko_steps mi_in22 3 _ (144, [(0, .int x1), (1, .int x2), (2, .int x3)], [.int x3, .int x2], (0, 0), ks i a q r) (by rfl) ?_
    refine ko_if mi_in22 (decide (x2 ≤ x3)) 151 147 ([(0, .int x1), (1, .int x2), (2, .int x3)], [], (0, 0), ks i a q r) (by rfl) (fun c => ?_) (fun c => ?_)
    ·
      have c26 : x2.toInt ≤ x3.toInt := kd_le c; clear c
      refine ko_steps mi_in22 1 _ (152, [(0, .int x1), (1, .int x2), (2, .int x3)], [.int 0], (0, 0), ks i a q r) (by rfl) ?_
      exact ko_ret mi_in22 (by rfl) (hP 0 trivial)
    ·
      have c27 : x3.toInt < x2.toInt := kd_leF c; clear c
      refine ko_steps mi_in22 2 _ (152, [(0, .int x1), (1, .int x2), (2, .int x3)], [.int 1], (0, 0), ks i a q r) (by rfl) ?_
      exact ko_ret mi_in22 (by rfl) (hP 1 trivial)
  by_cases w28 : x1.toInt = 124
  ·
    refine ko_eq (x1 := (1, [(0, .int x1), (1, .int x2), (2, .int x3)], [.int 124], (0, 0), ks i a q r)) (by rw [(kj_eq w28 (by decide) : x1 = 124)]) ?_
    refine ko_steps mi_in22 2 _ (93, [(0, .int x1), (1, .int x2), (2, .int x3)], [.int x2], (0, 0), ks i a q r) (by rfl) ?_
    refine ko_if mi_in22 (x2 != 0) 100 96 ([(0, .int x1), (1, .int x2), (2, .int x3)], [], (0, 0), ks i a q r) (by rfl) (fun c => ?_) (fun c => ?_)
    ·
      have c29 : x2.toInt ≠ (0 : Int32).toInt := kd_ne c; clear c
      refine ko_steps mi_in22 2 _ (105, [(0, .int x1), (1, .int x2), (2, .int x3)], [.int 1], (0, 0), ks i a q r) (by rfl) ?_
      exact ko_ret mi_in22 (by rfl) (hP 1 trivial)
    ·
      have c30 : x2.toInt = (0 : Int32).toInt := kd_neF c; clear c
      refine ko_steps mi_in22 1 _ (97, [(0, .int x1), (1, .int x2), (2, .int x3)], [.int x3], (0, 0), ks i a q r) (by rfl) ?_
      refine ko_if mi_in22 (x3 == 0) 104 100 ([(0, .int x1), (1, .int x2), (2, .int x3)], [], (0, 0), ks i a q r) (by rfl) (fun c => ?_) (fun c => ?_)
      ·
        have c31 : x3.toInt = (0 : Int32).toInt := kd_eq c; clear c
        refine ko_steps mi_in22 1 _ (105, [(0, .int x1), (1, .int x2), (2, .int x3)], [.int 0], (0, 0), ks i a q r) (by rfl) ?_
        exact ko_ret mi_in22 (by rfl) (hP 0 trivial)
      ·
        have c32 : x3.toInt ≠ (0 : Int32).toInt := kd_eqF c; clear c
        refine ko_steps mi_in22 2 _ (105, [(0, .int x1), (1, .int x2), (2, .int x3)], [.int 1], (0, 0), ks i a q r) (by rfl) ?_
        exact ko_ret mi_in22 (by rfl) (hP 1 trivial)
  refine ko_lsw (ls := [(0, .int x1), (1, .int x2), (2, .int x3)]) (r := []) (h := ks i a q r) mi_in22 (v := x1) (i := (.lookupswitch 188 #[(37, 176), (38, 105), (42, 160), (43, 152), (45, 156), (47, 164), (60, 119), (61, 130), (62, 141), (124, 91)], 91, 0, 0, 0, 0, 0)) (by rfl) rfl (by simp only [Op.lookupswitch.offset, if_neg (Ne.symm w1), if_neg (Ne.symm w4), if_neg (Ne.symm w9), if_neg (Ne.symm w10), if_neg (Ne.symm w13), if_neg (Ne.symm w16), if_neg (Ne.symm w19), if_neg (Ne.symm w22), if_neg (Ne.symm w25), if_neg (Ne.symm w28)] <;> rfl) 189 (by rfl) ?_
  refine ko_steps mi_in22 1 _ (190, [(0, .int x1), (1, .int x2), (2, .int x3)], [.int 0], (0, 0), ks i a q r) (by rfl) ?_
  exact ko_ret mi_in22 (by rfl) (hP 0 trivial)
def w21_10_24 : kW := ([645], [13], [], [])
def w21_10_24_L9 : kW := ([645], [13], [], [])
set_option maxRecDepth 100000 in
theorem kc21_10_24 {i : Nat → Int32} {a : Nat → List Int32} {q : Nat → List Int64} {r : Nat → Nat} (hI : kI i a q) (hr : kr r)  : km 3 21 [.ref 10, .ref 24] (ks i a q r) (kVI w21_10_24 i a q r (fun v i1 a1 q1 r1 => True)) := by
  have hG := kG_self w21_10_24 hI hr
  refine km_ofI (q := (mi_h21, mi_c21)) rfl (by decide) (Nat.le_of_ble_eq_true rfl) ?_
  intro P hP
  have hJ1 := kG_i hG 645 rfl (v := 0) ⟨(oz66 kn0), (oz90 kn0)⟩
  refine ko_steps mi_in21 7 _ (9, [(3, .int 0), (2, .int 0), (0, .ref 10), (1, .ref 24)], [], (0, 0), ks (ku i 645 0) a q r) (by rfl) ?_
  have lp2 : ∀ (n : Nat) (i2 : Nat → Int32) (a2 : Nat → List Int32) (q2 : Nat → List Int64) (r2 : Nat → Nat) (l3_2 : Int32) (l2_2 : Int32), kG w21_10_24_L9 (ku i 645 0) a q r i2 a2 q2 r2 → (0 : Int) ≤ l3_2.toInt → ((121 - l3_2.toInt)).toNat < n → ko 3 (mi_h21, mi_c21) P (9, [(3, .int l3_2), (2, .int l2_2), (0, .ref 10), (1, .ref 24)], [], (0, 0), ks i2 a2 q2 r2) := by
    intro n
    induction n with
    | zero =>
      intro _ _ _ _ _ _ _ _ hm
      exact absurd hm (Nat.not_lt_zero _)
    | succ n ih2 =>
      intro i2 a2 q2 r2 l3_2 l2_2 hL2 p2_0 hm2
      refine ko_steps mi_in21 2 _ (12, [(3, .int l3_2), (2, .int l2_2), (0, .ref 10), (1, .ref 24)], [.int 121, .int l3_2], (0, 0), ks i2 a2 q2 r2) (by rfl) ?_
      refine ko_if mi_in21 (decide (121 ≤ l3_2)) 220 15 ([(3, .int l3_2), (2, .int l2_2), (0, .ref 10), (1, .ref 24)], [], (0, 0), ks i2 a2 q2 r2) (by rfl) (fun c => ?_) (fun c => ?_)
      ·
        have c3 : (121 : Int32).toInt ≤ l3_2.toInt := kd_le c; clear c
        have hG4 := kG_call hJ1 hL2 (by decide +kernel)
        refine ko_steps mi_in21 1 _ (221, [(3, .int l3_2), (2, .int l2_2), (0, .ref 10), (1, .ref 24)], [.int 0], (0, 0), ks i2 a2 q2 r2) (by rfl) ?_
        exact ko_ret mi_in21 (by rfl) (hP 0 _ _ _ _ hG4 trivial)
      ·
        have c5 : l3_2.toInt < (121 : Int32).toInt := kd_leF c; clear c
        refine ko_steps mi_in21 1 _ (16, [(3, .int l3_2), (2, .int l2_2), (0, .ref 10), (1, .ref 24)], [.int l2_2], (0, 0), ks i2 a2 q2 r2) (by rfl) ?_
        refine ko_if mi_in21 (decide (l2_2 < 0)) 220 19 ([(3, .int l3_2), (2, .int l2_2), (0, .ref 10), (1, .ref 24)], [], (0, 0), ks i2 a2 q2 r2) (by rfl) (fun c => ?_) (fun c => ?_)
        ·
          have c6 : l2_2.toInt < (0 : Int32).toInt := kd_lt c; clear c
          have hG7 := kG_call hJ1 hL2 (by decide +kernel)
          refine ko_steps mi_in21 1 _ (221, [(3, .int l3_2), (2, .int l2_2), (0, .ref 10), (1, .ref 24)], [.int 0], (0, 0), ks i2 a2 q2 r2) (by rfl) ?_
          exact ko_ret mi_in21 (by rfl) (hP 0 _ _ _ _ hG7 trivial)
        ·
          have c8 : (0 : Int32).toInt ≤ l2_2.toInt := kd_ltF c; clear c
          have fi2_643 : ((0 : Int) ≤ (i2 643).toInt) ∧ ((i2 643).toInt ≤ 121) := hL2.I.1 643
          have fi_643 : ((0 : Int) ≤ (i 643).toInt) ∧ ((i 643).toInt ≤ 121) := hJ1.I.1 643
          have efi2_643 : (i2 643).toInt = (i 643).toInt := hL2.ti 643 rfl
          refine ko_steps mi_in21 3 _ (24, [(3, .int l3_2), (2, .int l2_2), (0, .ref 10), (1, .ref 24)], [.int (i2 643), .int l2_2], (0, 0), ks i2 a2 q2 r2) (by rfl) ?_
          refine ko_if mi_in21 (decide ((i2 643) ≤ l2_2)) 220 27 ([(3, .int l3_2), (2, .int l2_2), (0, .ref 10), (1, .ref 24)], [], (0, 0), ks i2 a2 q2 r2) (by rfl) (fun c => ?_) (fun c => ?_)
          ·
            have c9 : (i2 643).toInt ≤ l2_2.toInt := kd_le c; clear c
            have hG10 := kG_call hJ1 hL2 (by decide +kernel)
            refine ko_steps mi_in21 1 _ (221, [(3, .int l3_2), (2, .int l2_2), (0, .ref 10), (1, .ref 24)], [.int 0], (0, 0), ks i2 a2 q2 r2) (by rfl) ?_
            exact ko_ret mi_in21 (by rfl) (hP 0 _ _ _ _ hG10 trivial)
          ·
            have c11 : l2_2.toInt < (i2 643).toInt := kd_leF c; clear c
            refine ko_steps mi_in21 3 _ (32, [(3, .int l3_2), (2, .int l2_2), (0, .ref 10), (1, .ref 24)], [.int l2_2, .ref 11], (0, 0), ks i2 a2 q2 r2) (by rfl) ?_
            refine ko_iald2 mi_in21 (l := a2 11) (n := 121) (c := 121) (ax := (0, 0, 0, 0, 0)) (by rfl) (by rfl) (by rfl) (hL2.I.2.1 11) rfl (oz16 c8 kn0) (oz88 c11 fi2_643.2) ?_
            refine ko_steps mi_in21 4 _ (40, [(4, .int ((a2 11).getD l2_2.toNatClampNeg 0)), (3, .int l3_2), (2, .int l2_2), (0, .ref 10), (1, .ref 24)], [.int l2_2, .ref 12], (0, 0), ks i2 a2 q2 r2) (by rfl) ?_
            refine ko_iald2 mi_in21 (l := a2 12) (n := 121) (c := 121) (ax := (0, 0, 0, 0, 0)) (by rfl) (by rfl) (by rfl) (hL2.I.2.1 12) rfl (oz16 c8 kn0) (oz88 c11 fi2_643.2) ?_
            have s12 : (l2_2 + 1).toInt = l2_2.toInt + (1 : Int32).toInt := kd_add (oz123 c8 kn0 kn1) (oz124 c11 fi2_643.2 kn1)
            refine ko_steps mi_in21 3 _ (48, [(2, .int (l2_2 + 1)), (5, .int ((a2 12).getD l2_2.toNatClampNeg 0)), (4, .int ((a2 11).getD l2_2.toNatClampNeg 0)), (3, .int l3_2), (0, .ref 10), (1, .ref 24)], [.int ((a2 11).getD l2_2.toNatClampNeg 0)], (0, 0), ks i2 a2 q2 r2) (by rfl) ?_
            by_cases w13 : ((a2 11).getD l2_2.toNatClampNeg 0).toInt = 0
            ·
              refine ko_eq (x1 := (48, [(2, .int (l2_2 + 1)), (5, .int ((a2 12).getD l2_2.toNatClampNeg 0)), (4, .int ((a2 11).getD l2_2.toNatClampNeg 0)), (3, .int l3_2), (0, .ref 10), (1, .ref 24)], [.int 0], (0, 0), ks i2 a2 q2 r2)) (by rw [(kj_eq w13 (by decide) : ((a2 11).getD l2_2.toNatClampNeg 0) = 0)]) ?_
              refine ko_steps mi_in21 3 _ (111, [(2, .int (l2_2 + 1)), (5, .int ((a2 12).getD l2_2.toNatClampNeg 0)), (4, .int ((a2 11).getD l2_2.toNatClampNeg 0)), (3, .int l3_2), (0, .ref 10), (1, .ref 24)], [.int ((a2 12).getD l2_2.toNatClampNeg 0), .ref 10], (0, 0), ks i2 a2 q2 r2) (by rfl) ?_
              refine ko_callN mi_in21 (pc := 111) (ls := [(2, .int (l2_2 + 1)), (5, .int ((a2 12).getD l2_2.toNatClampNeg 0)), (4, .int ((a2 11).getD l2_2.toNatClampNeg 0)), (3, .int l3_2), (0, .ref 10), (1, .ref 24)]) (st := [.int ((a2 12).getD l2_2.toNatClampNeg 0), .ref 10]) (h := ks i2 a2 q2 r2) (i := (.invokevirtual 32, 3, 19, 0, 9, 0, 225)) (by rfl) (by rfl) (cy := mi_c19) rfl rfl (kc19_10 hL2.I hL2.R ((a2 12).getD l2_2.toNatClampNeg 0)) (by decide) ?_
              intro ig14 ag14 qg14 rg14 kg14 hg14
              have hGg14 := kG_call hL2 kg14 (by decide +kernel)
              have s15 : (l3_2 + 1).toInt = l3_2.toInt + (1 : Int32).toInt := kd_add (oz52 p2_0 kn1) (oz125 c5 kn121 kn1)
              refine ko_steps mi_in21 3 _ (9, [(3, .int (l3_2 + 1)), (2, .int (l2_2 + 1)), (5, .int ((a2 12).getD l2_2.toNatClampNeg 0)), (4, .int ((a2 11).getD l2_2.toNatClampNeg 0)), (0, .ref 10), (1, .ref 24)], [], (0, 0), ks ig14 ag14 qg14 rg14) (by rfl) ?_
              refine ko_perm [(3, .int (l3_2 + 1)), (2, .int (l2_2 + 1)), (0, .ref 10), (1, .ref 24)] (List.forall_mem_cons.mpr ⟨(List.Mem.head _), (List.forall_mem_cons.mpr ⟨(List.Mem.tail _ (List.Mem.head _)), (List.forall_mem_cons.mpr ⟨(List.Mem.tail _ (List.Mem.tail _ (List.Mem.tail _ (List.Mem.tail _ (List.Mem.head _))))), (List.forall_mem_cons.mpr ⟨(List.Mem.tail _ (List.Mem.tail _ (List.Mem.tail _ (List.Mem.tail _ (List.Mem.tail _ (List.Mem.head _)))))), (fun _ h => absurd h List.not_mem_nil)⟩)⟩)⟩)⟩) ?_
              exact ih2 _ _ _ _ _ _ hGg14 (oz54 p2_0 s15 kn1) (kj_meas (oz126 s15 kn1) (oz127 c5 kn121) hm2)
            by_cases w16 : ((a2 11).getD l2_2.toNatClampNeg 0).toInt = 1
            ·
              refine ko_eq (x1 := (48, [(2, .int (l2_2 + 1)), (5, .int ((a2 12).getD l2_2.toNatClampNeg 0)), (4, .int ((a2 11).getD l2_2.toNatClampNeg 0)), (3, .int l3_2), (0, .ref 10), (1, .ref 24)], [.int 1], (0, 0), ks i2 a2 q2 r2)) (by rw [(kj_eq w16 (by decide) : ((a2 11).getD l2_2.toNatClampNeg 0) = 1)]) ?_
              refine ko_steps mi_in21 3 _ (120, [(2, .int (l2_2 + 1)), (5, .int ((a2 12).getD l2_2.toNatClampNeg 0)), (4, .int ((a2 11).getD l2_2.toNatClampNeg 0)), (3, .int l3_2), (0, .ref 10), (1, .ref 24)], [.int ((a2 12).getD l2_2.toNatClampNeg 0), .ref 10], (0, 0), ks i2 a2 q2 r2) (by rfl) ?_
              refine ko_if mi_in21 (decide (((a2 12).getD l2_2.toNatClampNeg 0) < 0)) 137 123 ([(2, .int (l2_2 + 1)), (5, .int ((a2 12).getD l2_2.toNatClampNeg 0)), (4, .int ((a2 11).getD l2_2.toNatClampNeg 0)), (3, .int l3_2), (0, .ref 10), (1, .ref 24)], [.ref 10], (0, 0), ks i2 a2 q2 r2) (by rfl) (fun c => ?_) (fun c => ?_)
              ·
                have c17 : ((a2 12).getD l2_2.toNatClampNeg 0).toInt < (0 : Int32).toInt := kd_lt c; clear c
                refine ko_steps mi_in21 1 _ (138, [(2, .int (l2_2 + 1)), (5, .int ((a2 12).getD l2_2.toNatClampNeg 0)), (4, .int ((a2 11).getD l2_2.toNatClampNeg 0)), (3, .int l3_2), (0, .ref 10), (1, .ref 24)], [.int 0, .ref 10], (0, 0), ks i2 a2 q2 r2) (by rfl) ?_
                refine ko_callN mi_in21 (pc := 138) (ls := [(2, .int (l2_2 + 1)), (5, .int ((a2 12).getD l2_2.toNatClampNeg 0)), (4, .int ((a2 11).getD l2_2.toNatClampNeg 0)), (3, .int l3_2), (0, .ref 10), (1, .ref 24)]) (st := [.int 0, .ref 10]) (h := ks i2 a2 q2 r2) (i := (.invokevirtual 32, 3, 19, 0, 9, 0, 225)) (by rfl) (by rfl) (cy := mi_c19) rfl rfl (kc19_10 hL2.I hL2.R 0) (by decide) ?_
                intro ig18 ag18 qg18 rg18 kg18 hg18
                have hGg18 := kG_call hL2 kg18 (by decide +kernel)
                have s19 : (l3_2 + 1).toInt = l3_2.toInt + (1 : Int32).toInt := kd_add (oz52 p2_0 kn1) (oz125 c5 kn121 kn1)
                refine ko_steps mi_in21 3 _ (9, [(3, .int (l3_2 + 1)), (2, .int (l2_2 + 1)), (5, .int ((a2 12).getD l2_2.toNatClampNeg 0)), (4, .int ((a2 11).getD l2_2.toNatClampNeg 0)), (0, .ref 10), (1, .ref 24)], [], (0, 0), ks ig18 ag18 qg18 rg18) (by rfl) ?_
                refine ko_perm [(3, .int (l3_2 + 1)), (2, .int (l2_2 + 1)), (0, .ref 10), (1, .ref 24)] (List.forall_mem_cons.mpr ⟨(List.Mem.head _), (List.forall_mem_cons.mpr ⟨(List.Mem.tail _ (List.Mem.head _)), (List.forall_mem_cons.mpr ⟨(List.Mem.tail _ (List.Mem.tail _ (List.Mem.tail _ (List.Mem.tail _ (List.Mem.head _))))), (List.forall_mem_cons.mpr ⟨(List.Mem.tail _ (List.Mem.tail _ (List.Mem.tail _ (List.Mem.tail _ (List.Mem.tail _ (List.Mem.head _)))))), (fun _ h => absurd h List.not_mem_nil)⟩)⟩)⟩)⟩) ?_
                exact ih2 _ _ _ _ _ _ hGg18 (oz54 p2_0 s19 kn1) (kj_meas (oz126 s19 kn1) (oz127 c5 kn121) hm2)
              ·
                have c20 : (0 : Int32).toInt ≤ ((a2 12).getD l2_2.toNatClampNeg 0).toInt := kd_ltF c; clear c
                refine ko_steps mi_in21 2 _ (126, [(2, .int (l2_2 + 1)), (5, .int ((a2 12).getD l2_2.toNatClampNeg 0)), (4, .int ((a2 11).getD l2_2.toNatClampNeg 0)), (3, .int l3_2), (0, .ref 10), (1, .ref 24)], [.ref 24, .int ((a2 12).getD l2_2.toNatClampNeg 0), .ref 10], (0, 0), ks i2 a2 q2 r2) (by rfl) ?_
                refine ko_alen mi_in21 (l := a2 24) (ax := (0, 0, 0, 0, 0)) (x := 6) (by rfl) (by rfl) (by rfl) (by rw [(hL2.I.2.1 24 : (a2 24).length = _)]; rfl) ?_
                refine ko_if mi_in21 (decide (6 ≤ ((a2 12).getD l2_2.toNatClampNeg 0))) 137 130 ([(2, .int (l2_2 + 1)), (5, .int ((a2 12).getD l2_2.toNatClampNeg 0)), (4, .int ((a2 11).getD l2_2.toNatClampNeg 0)), (3, .int l3_2), (0, .ref 10), (1, .ref 24)], [.ref 10], (0, 0), ks i2 a2 q2 r2) (by rfl) (fun c => ?_) (fun c => ?_)
                ·
                  have c21 : (6 : Int32).toInt ≤ ((a2 12).getD l2_2.toNatClampNeg 0).toInt := kd_le c; clear c
                  refine ko_steps mi_in21 1 _ (138, [(2, .int (l2_2 + 1)), (5, .int ((a2 12).getD l2_2.toNatClampNeg 0)), (4, .int ((a2 11).getD l2_2.toNatClampNeg 0)), (3, .int l3_2), (0, .ref 10), (1, .ref 24)], [.int 0, .ref 10], (0, 0), ks i2 a2 q2 r2) (by rfl) ?_
                  refine ko_callN mi_in21 (pc := 138) (ls := [(2, .int (l2_2 + 1)), (5, .int ((a2 12).getD l2_2.toNatClampNeg 0)), (4, .int ((a2 11).getD l2_2.toNatClampNeg 0)), (3, .int l3_2), (0, .ref 10), (1, .ref 24)]) (st := [.int 0, .ref 10]) (h := ks i2 a2 q2 r2) (i := (.invokevirtual 32, 3, 19, 0, 9, 0, 225)) (by rfl) (by rfl) (cy := mi_c19) rfl rfl (kc19_10 hL2.I hL2.R 0) (by decide) ?_
                  intro ig22 ag22 qg22 rg22 kg22 hg22
                  have hGg22 := kG_call hL2 kg22 (by decide +kernel)
                  have s23 : (l3_2 + 1).toInt = l3_2.toInt + (1 : Int32).toInt := kd_add (oz52 p2_0 kn1) (oz125 c5 kn121 kn1)
                  refine ko_steps mi_in21 3 _ (9, [(3, .int (l3_2 + 1)), (2, .int (l2_2 + 1)), (5, .int ((a2 12).getD l2_2.toNatClampNeg 0)), (4, .int ((a2 11).getD l2_2.toNatClampNeg 0)), (0, .ref 10), (1, .ref 24)], [], (0, 0), ks ig22 ag22 qg22 rg22) (by rfl) ?_
                  refine ko_perm [(3, .int (l3_2 + 1)), (2, .int (l2_2 + 1)), (0, .ref 10), (1, .ref 24)] (List.forall_mem_cons.mpr ⟨(List.Mem.head _), (List.forall_mem_cons.mpr ⟨(List.Mem.tail _ (List.Mem.head _)), (List.forall_mem_cons.mpr ⟨(List.Mem.tail _ (List.Mem.tail _ (List.Mem.tail _ (List.Mem.tail _ (List.Mem.head _))))), (List.forall_mem_cons.mpr ⟨(List.Mem.tail _ (List.Mem.tail _ (List.Mem.tail _ (List.Mem.tail _ (List.Mem.tail _ (List.Mem.head _)))))), (fun _ h => absurd h List.not_mem_nil)⟩)⟩)⟩)⟩) ?_
                  exact ih2 _ _ _ _ _ _ hGg22 (oz54 p2_0 s23 kn1) (kj_meas (oz126 s23 kn1) (oz127 c5 kn121) hm2)
                ·
                  have c24 : ((a2 12).getD l2_2.toNatClampNeg 0).toInt < (6 : Int32).toInt := kd_leF c; clear c
                  refine ko_steps mi_in21 2 _ (133, [(2, .int (l2_2 + 1)), (5, .int ((a2 12).getD l2_2.toNatClampNeg 0)), (4, .int ((a2 11).getD l2_2.toNatClampNeg 0)), (3, .int l3_2), (0, .ref 10), (1, .ref 24)], [.int ((a2 12).getD l2_2.toNatClampNeg 0), .ref 24, .ref 10], (0, 0), ks i2 a2 q2 r2) (by rfl) ?_
                  refine ko_iald2 mi_in21 (l := a2 24) (n := 6) (c := 6) (ax := (0, 0, 0, 0, 0)) (by rfl) (by rfl) (by rfl) (hL2.I.2.1 24) rfl (oz16 c20 kn0) (oz128 c24 kn6) ?_
                  refine ko_steps mi_in21 1 _ (138, [(2, .int (l2_2 + 1)), (5, .int ((a2 12).getD l2_2.toNatClampNeg 0)), (4, .int ((a2 11).getD l2_2.toNatClampNeg 0)), (3, .int l3_2), (0, .ref 10), (1, .ref 24)], [.int ((a2 24).getD ((a2 12).getD l2_2.toNatClampNeg 0).toNatClampNeg 0), .ref 10], (0, 0), ks i2 a2 q2 r2) (by rfl) ?_
                  refine ko_callN mi_in21 (pc := 138) (ls := [(2, .int (l2_2 + 1)), (5, .int ((a2 12).getD l2_2.toNatClampNeg 0)), (4, .int ((a2 11).getD l2_2.toNatClampNeg 0)), (3, .int l3_2), (0, .ref 10), (1, .ref 24)]) (st := [.int ((a2 24).getD ((a2 12).getD l2_2.toNatClampNeg 0).toNatClampNeg 0), .ref 10]) (h := ks i2 a2 q2 r2) (i := (.invokevirtual 32, 3, 19, 0, 9, 0, 225)) (by rfl) (by rfl) (cy := mi_c19) rfl rfl (kc19_10 hL2.I hL2.R ((a2 24).getD ((a2 12).getD l2_2.toNatClampNeg 0).toNatClampNeg 0)) (by decide) ?_
                  intro ig25 ag25 qg25 rg25 kg25 hg25
                  have hGg25 := kG_call hL2 kg25 (by decide +kernel)
                  have s26 : (l3_2 + 1).toInt = l3_2.toInt + (1 : Int32).toInt := kd_add (oz52 p2_0 kn1) (oz125 c5 kn121 kn1)
                  refine ko_steps mi_in21 3 _ (9, [(3, .int (l3_2 + 1)), (2, .int (l2_2 + 1)), (5, .int ((a2 12).getD l2_2.toNatClampNeg 0)), (4, .int ((a2 11).getD l2_2.toNatClampNeg 0)), (0, .ref 10), (1, .ref 24)], [], (0, 0), ks ig25 ag25 qg25 rg25) (by rfl) ?_
                  refine ko_perm [(3, .int (l3_2 + 1)), (2, .int (l2_2 + 1)), (0, .ref 10), (1, .ref 24)] (List.forall_mem_cons.mpr ⟨(List.Mem.head _), (List.forall_mem_cons.mpr ⟨(List.Mem.tail _ (List.Mem.head _)), (List.forall_mem_cons.mpr ⟨(List.Mem.tail _ (List.Mem.tail _ (List.Mem.tail _ (List.Mem.tail _ (List.Mem.head _))))), (List.forall_mem_cons.mpr ⟨(List.Mem.tail _ (List.Mem.tail _ (List.Mem.tail _ (List.Mem.tail _ (List.Mem.tail _ (List.Mem.head _)))))), (fun _ h => absurd h List.not_mem_nil)⟩)⟩)⟩)⟩) ?_
                  exact ih2 _ _ _ _ _ _ hGg25 (oz54 p2_0 s26 kn1) (kj_meas (oz126 s26 kn1) (oz127 c5 kn121) hm2)
            by_cases w27 : ((a2 11).getD l2_2.toNatClampNeg 0).toInt = 2
            ·
              refine ko_eq (x1 := (48, [(2, .int (l2_2 + 1)), (5, .int ((a2 12).getD l2_2.toNatClampNeg 0)), (4, .int ((a2 11).getD l2_2.toNatClampNeg 0)), (3, .int l3_2), (0, .ref 10), (1, .ref 24)], [.int 2], (0, 0), ks i2 a2 q2 r2)) (by rw [(kj_eq w27 (by decide) : ((a2 11).getD l2_2.toNatClampNeg 0) = 2)]) ?_
              refine ko_steps mi_in21 1 _ (144, [(2, .int (l2_2 + 1)), (5, .int ((a2 12).getD l2_2.toNatClampNeg 0)), (4, .int ((a2 11).getD l2_2.toNatClampNeg 0)), (3, .int l3_2), (0, .ref 10), (1, .ref 24)], [], (0, 0), ks i2 a2 q2 r2) (by rfl) ?_
              have hG28 := kG_call hJ1 hL2 (by decide +kernel)
              refine ko_steps mi_in21 1 _ (145, [(2, .int (l2_2 + 1)), (5, .int ((a2 12).getD l2_2.toNatClampNeg 0)), (4, .int ((a2 11).getD l2_2.toNatClampNeg 0)), (3, .int l3_2), (0, .ref 10), (1, .ref 24)], [.ref 10], (0, 0), ks i2 a2 q2 r2) (by rfl) ?_
              refine ko_callI mi_in21 (pc := 145) (ls := [(2, .int (l2_2 + 1)), (5, .int ((a2 12).getD l2_2.toNatClampNeg 0)), (4, .int ((a2 11).getD l2_2.toNatClampNeg 0)), (3, .int l3_2), (0, .ref 10), (1, .ref 24)]) (st := [.ref 10]) (h := ks i2 a2 q2 r2) (i := (.invokevirtual 36, 3, 20, 0, 9, 0, 226)) (by rfl) (by rfl) (cy := mi_c20) rfl rfl (kc20_10 hG28.I hG28.R ) (by decide) ?_
              intro vg29 ig29 ag29 qg29 rg29 kg29 hg29
              have hGg29 := kG_call hG28 kg29 (by decide +kernel)
              exact ko_ret mi_in21 (by rfl) (hP vg29 _ _ _ _ hGg29 trivial)
            by_cases w30 : ((a2 11).getD l2_2.toNatClampNeg 0).toInt = 3
            ·
              refine ko_eq (x1 := (48, [(2, .int (l2_2 + 1)), (5, .int ((a2 12).getD l2_2.toNatClampNeg 0)), (4, .int ((a2 11).getD l2_2.toNatClampNeg 0)), (3, .int l3_2), (0, .ref 10), (1, .ref 24)], [.int 3], (0, 0), ks i2 a2 q2 r2)) (by rw [(kj_eq w30 (by decide) : ((a2 11).getD l2_2.toNatClampNeg 0) = 3)]) ?_
              refine ko_steps mi_in21 2 _ (150, [(2, .int (l2_2 + 1)), (5, .int ((a2 12).getD l2_2.toNatClampNeg 0)), (4, .int ((a2 11).getD l2_2.toNatClampNeg 0)), (3, .int l3_2), (0, .ref 10), (1, .ref 24)], [.ref 10], (0, 0), ks i2 a2 q2 r2) (by rfl) ?_
              refine ko_callI mi_in21 (pc := 150) (ls := [(2, .int (l2_2 + 1)), (5, .int ((a2 12).getD l2_2.toNatClampNeg 0)), (4, .int ((a2 11).getD l2_2.toNatClampNeg 0)), (3, .int l3_2), (0, .ref 10), (1, .ref 24)]) (st := [.ref 10]) (h := ks i2 a2 q2 r2) (i := (.invokevirtual 36, 3, 20, 0, 9, 0, 226)) (by rfl) (by rfl) (cy := mi_c20) rfl rfl (kc20_10 hL2.I hL2.R ) (by decide) ?_
              intro vg31 ig31 ag31 qg31 rg31 kg31 hg31
              have hGg31 := kG_call hL2 kg31 (by decide +kernel)
              refine ko_if mi_in21 (vg31 != 0) 214 156 ([(2, .int (l2_2 + 1)), (5, .int ((a2 12).getD l2_2.toNatClampNeg 0)), (4, .int ((a2 11).getD l2_2.toNatClampNeg 0)), (3, .int l3_2), (0, .ref 10), (1, .ref 24)], [], (0, 0), ks ig31 ag31 qg31 rg31) (by rfl) (fun c => ?_) (fun c => ?_)
              ·
                have c32 : vg31.toInt ≠ (0 : Int32).toInt := kd_ne c; clear c
                have s33 : (l3_2 + 1).toInt = l3_2.toInt + (1 : Int32).toInt := kd_add (oz52 p2_0 kn1) (oz125 c5 kn121 kn1)
                refine ko_steps mi_in21 2 _ (9, [(3, .int (l3_2 + 1)), (2, .int (l2_2 + 1)), (5, .int ((a2 12).getD l2_2.toNatClampNeg 0)), (4, .int ((a2 11).getD l2_2.toNatClampNeg 0)), (0, .ref 10), (1, .ref 24)], [], (0, 0), ks ig31 ag31 qg31 rg31) (by rfl) ?_
                refine ko_perm [(3, .int (l3_2 + 1)), (2, .int (l2_2 + 1)), (0, .ref 10), (1, .ref 24)] (List.forall_mem_cons.mpr ⟨(List.Mem.head _), (List.forall_mem_cons.mpr ⟨(List.Mem.tail _ (List.Mem.head _)), (List.forall_mem_cons.mpr ⟨(List.Mem.tail _ (List.Mem.tail _ (List.Mem.tail _ (List.Mem.tail _ (List.Mem.head _))))), (List.forall_mem_cons.mpr ⟨(List.Mem.tail _ (List.Mem.tail _ (List.Mem.tail _ (List.Mem.tail _ (List.Mem.tail _ (List.Mem.head _)))))), (fun _ h => absurd h List.not_mem_nil)⟩)⟩)⟩)⟩) ?_
                exact ih2 _ _ _ _ _ _ hGg31 (oz54 p2_0 s33 kn1) (kj_meas (oz126 s33 kn1) (oz127 c5 kn121) hm2)
              ·
                have c34 : vg31.toInt = (0 : Int32).toInt := kd_neF c; clear c
                have s35 : (l3_2 + 1).toInt = l3_2.toInt + (1 : Int32).toInt := kd_add (oz52 p2_0 kn1) (oz125 c5 kn121 kn1)
                refine ko_steps mi_in21 5 _ (9, [(3, .int (l3_2 + 1)), (2, .int ((a2 12).getD l2_2.toNatClampNeg 0)), (5, .int ((a2 12).getD l2_2.toNatClampNeg 0)), (4, .int ((a2 11).getD l2_2.toNatClampNeg 0)), (0, .ref 10), (1, .ref 24)], [], (0, 0), ks ig31 ag31 qg31 rg31) (by rfl) ?_
                refine ko_perm [(3, .int (l3_2 + 1)), (2, .int ((a2 12).getD l2_2.toNatClampNeg 0)), (0, .ref 10), (1, .ref 24)] (List.forall_mem_cons.mpr ⟨(List.Mem.head _), (List.forall_mem_cons.mpr ⟨(List.Mem.tail _ (List.Mem.head _)), (List.forall_mem_cons.mpr ⟨(List.Mem.tail _ (List.Mem.tail _ (List.Mem.tail _ (List.Mem.tail _ (List.Mem.head _))))), (List.forall_mem_cons.mpr ⟨(List.Mem.tail _ (List.Mem.tail _ (List.Mem.tail _ (List.Mem.tail _ (List.Mem.tail _ (List.Mem.head _)))))), (fun _ h => absurd h List.not_mem_nil)⟩)⟩)⟩)⟩) ?_
                exact ih2 _ _ _ _ _ _ hGg31 (oz54 p2_0 s35 kn1) (kj_meas (oz126 s35 kn1) (oz127 c5 kn121) hm2)
            by_cases w36 : ((a2 11).getD l2_2.toNatClampNeg 0).toInt = 33
            ·
              refine ko_eq (x1 := (48, [(2, .int (l2_2 + 1)), (5, .int ((a2 12).getD l2_2.toNatClampNeg 0)), (4, .int ((a2 11).getD l2_2.toNatClampNeg 0)), (3, .int l3_2), (0, .ref 10), (1, .ref 24)], [.int 33], (0, 0), ks i2 a2 q2 r2)) (by rw [(kj_eq w36 (by decide) : ((a2 11).getD l2_2.toNatClampNeg 0) = 33)]) ?_
              refine ko_steps mi_in21 3 _ (164, [(2, .int (l2_2 + 1)), (5, .int ((a2 12).getD l2_2.toNatClampNeg 0)), (4, .int ((a2 11).getD l2_2.toNatClampNeg 0)), (3, .int l3_2), (0, .ref 10), (1, .ref 24)], [.ref 10, .ref 10], (0, 0), ks i2 a2 q2 r2) (by rfl) ?_
              refine ko_callI mi_in21 (pc := 164) (ls := [(2, .int (l2_2 + 1)), (5, .int ((a2 12).getD l2_2.toNatClampNeg 0)), (4, .int ((a2 11).getD l2_2.toNatClampNeg 0)), (3, .int l3_2), (0, .ref 10), (1, .ref 24)]) (st := [.ref 10, .ref 10]) (h := ks i2 a2 q2 r2) (i := (.invokevirtual 36, 3, 20, 0, 9, 0, 226)) (by rfl) (by rfl) (cy := mi_c20) rfl rfl (kc20_10 hL2.I hL2.R ) (by decide) ?_
              intro vg37 ig37 ag37 qg37 rg37 kg37 hg37
              have hGg37 := kG_call hL2 kg37 (by decide +kernel)
              refine ko_if mi_in21 (vg37 != 0) 174 170 ([(2, .int (l2_2 + 1)), (5, .int ((a2 12).getD l2_2.toNatClampNeg 0)), (4, .int ((a2 11).getD l2_2.toNatClampNeg 0)), (3, .int l3_2), (0, .ref 10), (1, .ref 24)], [.ref 10], (0, 0), ks ig37 ag37 qg37 rg37) (by rfl) (fun c => ?_) (fun c => ?_)
              ·
                have c38 : vg37.toInt ≠ (0 : Int32).toInt := kd_ne c; clear c
                refine ko_steps mi_in21 1 _ (175, [(2, .int (l2_2 + 1)), (5, .int ((a2 12).getD l2_2.toNatClampNeg 0)), (4, .int ((a2 11).getD l2_2.toNatClampNeg 0)), (3, .int l3_2), (0, .ref 10), (1, .ref 24)], [.int 0, .ref 10], (0, 0), ks ig37 ag37 qg37 rg37) (by rfl) ?_
                refine ko_callN mi_in21 (pc := 175) (ls := [(2, .int (l2_2 + 1)), (5, .int ((a2 12).getD l2_2.toNatClampNeg 0)), (4, .int ((a2 11).getD l2_2.toNatClampNeg 0)), (3, .int l3_2), (0, .ref 10), (1, .ref 24)]) (st := [.int 0, .ref 10]) (h := ks ig37 ag37 qg37 rg37) (i := (.invokevirtual 32, 3, 19, 0, 9, 0, 225)) (by rfl) (by rfl) (cy := mi_c19) rfl rfl (kc19_10 hGg37.I hGg37.R 0) (by decide) ?_
                intro ig39 ag39 qg39 rg39 kg39 hg39
                have hGg39 := kG_call hGg37 kg39 (by decide +kernel)
                have s40 : (l3_2 + 1).toInt = l3_2.toInt + (1 : Int32).toInt := kd_add (oz52 p2_0 kn1) (oz125 c5 kn121 kn1)
                refine ko_steps mi_in21 3 _ (9, [(3, .int (l3_2 + 1)), (2, .int (l2_2 + 1)), (5, .int ((a2 12).getD l2_2.toNatClampNeg 0)), (4, .int ((a2 11).getD l2_2.toNatClampNeg 0)), (0, .ref 10), (1, .ref 24)], [], (0, 0), ks ig39 ag39 qg39 rg39) (by rfl) ?_
                refine ko_perm [(3, .int (l3_2 + 1)), (2, .int (l2_2 + 1)), (0, .ref 10), (1, .ref 24)] (List.forall_mem_cons.mpr ⟨(List.Mem.head _), (List.forall_mem_cons.mpr ⟨(List.Mem.tail _ (List.Mem.head _)), (List.forall_mem_cons.mpr ⟨(List.Mem.tail _ (List.Mem.tail _ (List.Mem.tail _ (List.Mem.tail _ (List.Mem.head _))))), (List.forall_mem_cons.mpr ⟨(List.Mem.tail _ (List.Mem.tail _ (List.Mem.tail _ (List.Mem.tail _ (List.Mem.tail _ (List.Mem.head _)))))), (fun _ h => absurd h List.not_mem_nil)⟩)⟩)⟩)⟩) ?_
                exact ih2 _ _ _ _ _ _ hGg39 (oz54 p2_0 s40 kn1) (kj_meas (oz126 s40 kn1) (oz127 c5 kn121) hm2)
              ·
                have c41 : vg37.toInt = (0 : Int32).toInt := kd_neF c; clear c
                refine ko_steps mi_in21 2 _ (175, [(2, .int (l2_2 + 1)), (5, .int ((a2 12).getD l2_2.toNatClampNeg 0)), (4, .int ((a2 11).getD l2_2.toNatClampNeg 0)), (3, .int l3_2), (0, .ref 10), (1, .ref 24)], [.int 1, .ref 10], (0, 0), ks ig37 ag37 qg37 rg37) (by rfl) ?_
                refine ko_callN mi_in21 (pc := 175) (ls := [(2, .int (l2_2 + 1)), (5, .int ((a2 12).getD l2_2.toNatClampNeg 0)), (4, .int ((a2 11).getD l2_2.toNatClampNeg 0)), (3, .int l3_2), (0, .ref 10), (1, .ref 24)]) (st := [.int 1, .ref 10]) (h := ks ig37 ag37 qg37 rg37) (i := (.invokevirtual 32, 3, 19, 0, 9, 0, 225)) (by rfl) (by rfl) (cy := mi_c19) rfl rfl (kc19_10 hGg37.I hGg37.R 1) (by decide) ?_
                intro ig42 ag42 qg42 rg42 kg42 hg42
                have hGg42 := kG_call hGg37 kg42 (by decide +kernel)
                have s43 : (l3_2 + 1).toInt = l3_2.toInt + (1 : Int32).toInt := kd_add (oz52 p2_0 kn1) (oz125 c5 kn121 kn1)
                refine ko_steps mi_in21 3 _ (9, [(3, .int (l3_2 + 1)), (2, .int (l2_2 + 1)), (5, .int ((a2 12).getD l2_2.toNatClampNeg 0)), (4, .int ((a2 11).getD l2_2.toNatClampNeg 0)), (0, .ref 10), (1, .ref 24)], [], (0, 0), ks ig42 ag42 qg42 rg42) (by rfl) ?_
                refine ko_perm [(3, .int (l3_2 + 1)), (2, .int (l2_2 + 1)), (0, .ref 10), (1, .ref 24)] (List.forall_mem_cons.mpr ⟨(List.Mem.head _), (List.forall_mem_cons.mpr ⟨(List.Mem.tail _ (List.Mem.head _)), (List.forall_mem_cons.mpr ⟨(List.Mem.tail _ (List.Mem.tail _ (List.Mem.tail _ (List.Mem.tail _ (List.Mem.head _))))), (List.forall_mem_cons.mpr ⟨(List.Mem.tail _ (List.Mem.tail _ (List.Mem.tail _ (List.Mem.tail _ (List.Mem.tail _ (List.Mem.head _)))))), (fun _ h => absurd h List.not_mem_nil)⟩)⟩)⟩)⟩) ?_
                exact ih2 _ _ _ _ _ _ hGg42 (oz54 p2_0 s43 kn1) (kj_meas (oz126 s43 kn1) (oz127 c5 kn121) hm2)
            by_cases w44 : ((a2 11).getD l2_2.toNatClampNeg 0).toInt = 126
            ·
              refine ko_eq (x1 := (48, [(2, .int (l2_2 + 1)), (5, .int ((a2 12).getD l2_2.toNatClampNeg 0)), (4, .int ((a2 11).getD l2_2.toNatClampNeg 0)), (3, .int l3_2), (0, .ref 10), (1, .ref 24)], [.int 126], (0, 0), ks i2 a2 q2 r2)) (by rw [(kj_eq w44 (by decide) : ((a2 11).getD l2_2.toNatClampNeg 0) = 126)]) ?_
              refine ko_steps mi_in21 3 _ (183, [(2, .int (l2_2 + 1)), (5, .int ((a2 12).getD l2_2.toNatClampNeg 0)), (4, .int ((a2 11).getD l2_2.toNatClampNeg 0)), (3, .int l3_2), (0, .ref 10), (1, .ref 24)], [.ref 10, .ref 10], (0, 0), ks i2 a2 q2 r2) (by rfl) ?_
              refine ko_callI mi_in21 (pc := 183) (ls := [(2, .int (l2_2 + 1)), (5, .int ((a2 12).getD l2_2.toNatClampNeg 0)), (4, .int ((a2 11).getD l2_2.toNatClampNeg 0)), (3, .int l3_2), (0, .ref 10), (1, .ref 24)]) (st := [.ref 10, .ref 10]) (h := ks i2 a2 q2 r2) (i := (.invokevirtual 36, 3, 20, 0, 9, 0, 226)) (by rfl) (by rfl) (cy := mi_c20) rfl rfl (kc20_10 hL2.I hL2.R ) (by decide) ?_
              intro vg45 ig45 ag45 qg45 rg45 kg45 hg45
              have hGg45 := kG_call hL2 kg45 (by decide +kernel)
              refine ko_steps mi_in21 1 _ (187, [(2, .int (l2_2 + 1)), (5, .int ((a2 12).getD l2_2.toNatClampNeg 0)), (4, .int ((a2 11).getD l2_2.toNatClampNeg 0)), (3, .int l3_2), (0, .ref 10), (1, .ref 24)], [.int (-vg45), .ref 10], (0, 0), ks ig45 ag45 qg45 rg45) (by rfl) ?_
              refine ko_callN mi_in21 (pc := 187) (ls := [(2, .int (l2_2 + 1)), (5, .int ((a2 12).getD l2_2.toNatClampNeg 0)), (4, .int ((a2 11).getD l2_2.toNatClampNeg 0)), (3, .int l3_2), (0, .ref 10), (1, .ref 24)]) (st := [.int (-vg45), .ref 10]) (h := ks ig45 ag45 qg45 rg45) (i := (.invokevirtual 32, 3, 19, 0, 9, 0, 225)) (by rfl) (by rfl) (cy := mi_c19) rfl rfl (kc19_10 hGg45.I hGg45.R (-vg45)) (by decide) ?_
              intro ig46 ag46 qg46 rg46 kg46 hg46
              have hGg46 := kG_call hGg45 kg46 (by decide +kernel)
              have s47 : (l3_2 + 1).toInt = l3_2.toInt + (1 : Int32).toInt := kd_add (oz52 p2_0 kn1) (oz125 c5 kn121 kn1)
              refine ko_steps mi_in21 3 _ (9, [(3, .int (l3_2 + 1)), (2, .int (l2_2 + 1)), (5, .int ((a2 12).getD l2_2.toNatClampNeg 0)), (4, .int ((a2 11).getD l2_2.toNatClampNeg 0)), (0, .ref 10), (1, .ref 24)], [], (0, 0), ks ig46 ag46 qg46 rg46) (by rfl) ?_
              refine ko_perm [(3, .int (l3_2 + 1)), (2, .int (l2_2 + 1)), (0, .ref 10), (1, .ref 24)] (List.forall_mem_cons.mpr ⟨(List.Mem.head _), (List.forall_mem_cons.mpr ⟨(List.Mem.tail _ (List.Mem.head _)), (List.forall_mem_cons.mpr ⟨(List.Mem.tail _ (List.Mem.tail _ (List.Mem.tail _ (List.Mem.tail _ (List.Mem.head _))))), (List.forall_mem_cons.mpr ⟨(List.Mem.tail _ (List.Mem.tail _ (List.Mem.tail _ (List.Mem.tail _ (List.Mem.tail _ (List.Mem.head _)))))), (fun _ h => absurd h List.not_mem_nil)⟩)⟩)⟩)⟩) ?_
              exact ih2 _ _ _ _ _ _ hGg46 (oz54 p2_0 s47 kn1) (kj_meas (oz126 s47 kn1) (oz127 c5 kn121) hm2)
            refine ko_lsw (ls := [(2, .int (l2_2 + 1)), (5, .int ((a2 12).getD l2_2.toNatClampNeg 0)), (4, .int ((a2 11).getD l2_2.toNatClampNeg 0)), (3, .int l3_2), (0, .ref 10), (1, .ref 24)]) (r := []) (h := ks i2 a2 q2 r2) mi_in21 (v := ((a2 11).getD l2_2.toNatClampNeg 0)) (i := (.lookupswitch 145 #[(0, 60), (1, 69), (2, 96), (3, 101), (33, 114), (126, 133)], 60, 0, 0, 0, 0, 0)) (by rfl) rfl (by simp only [Op.lookupswitch.offset, if_neg (Ne.symm w13), if_neg (Ne.symm w16), if_neg (Ne.symm w27), if_neg (Ne.symm w30), if_neg (Ne.symm w36), if_neg (Ne.symm w44)] <;> rfl) 193 (by rfl) ?_
            refine ko_steps mi_in21 1 _ (194, [(2, .int (l2_2 + 1)), (5, .int ((a2 12).getD l2_2.toNatClampNeg 0)), (4, .int ((a2 11).getD l2_2.toNatClampNeg 0)), (3, .int l3_2), (0, .ref 10), (1, .ref 24)], [.ref 10], (0, 0), ks i2 a2 q2 r2) (by rfl) ?_
            refine ko_callI mi_in21 (pc := 194) (ls := [(2, .int (l2_2 + 1)), (5, .int ((a2 12).getD l2_2.toNatClampNeg 0)), (4, .int ((a2 11).getD l2_2.toNatClampNeg 0)), (3, .int l3_2), (0, .ref 10), (1, .ref 24)]) (st := [.ref 10]) (h := ks i2 a2 q2 r2) (i := (.invokevirtual 36, 3, 20, 0, 9, 0, 226)) (by rfl) (by rfl) (cy := mi_c20) rfl rfl (kc20_10 hL2.I hL2.R ) (by decide) ?_
            intro vg48 ig48 ag48 qg48 rg48 kg48 hg48
            have hGg48 := kG_call hL2 kg48 (by decide +kernel)
            refine ko_steps mi_in21 4 _ (203, [(6, .int vg48), (2, .int (l2_2 + 1)), (5, .int ((a2 12).getD l2_2.toNatClampNeg 0)), (4, .int ((a2 11).getD l2_2.toNatClampNeg 0)), (3, .int l3_2), (0, .ref 10), (1, .ref 24)], [.ref 10, .int ((a2 11).getD l2_2.toNatClampNeg 0), .ref 10], (0, 0), ks ig48 ag48 qg48 rg48) (by rfl) ?_
            refine ko_callI mi_in21 (pc := 203) (ls := [(6, .int vg48), (2, .int (l2_2 + 1)), (5, .int ((a2 12).getD l2_2.toNatClampNeg 0)), (4, .int ((a2 11).getD l2_2.toNatClampNeg 0)), (3, .int l3_2), (0, .ref 10), (1, .ref 24)]) (st := [.ref 10, .int ((a2 11).getD l2_2.toNatClampNeg 0), .ref 10]) (h := ks ig48 ag48 qg48 rg48) (i := (.invokevirtual 36, 3, 20, 0, 9, 0, 226)) (by rfl) (by rfl) (cy := mi_c20) rfl rfl (kc20_10 hGg48.I hGg48.R ) (by decide) ?_
            intro vg49 ig49 ag49 qg49 rg49 kg49 hg49
            have hGg49 := kG_call hGg48 kg49 (by decide +kernel)
            refine ko_steps mi_in21 1 _ (208, [(6, .int vg48), (2, .int (l2_2 + 1)), (5, .int ((a2 12).getD l2_2.toNatClampNeg 0)), (4, .int ((a2 11).getD l2_2.toNatClampNeg 0)), (3, .int l3_2), (0, .ref 10), (1, .ref 24)], [.int vg48, .int vg49, .int ((a2 11).getD l2_2.toNatClampNeg 0), .ref 10], (0, 0), ks ig49 ag49 qg49 rg49) (by rfl) ?_
            refine ko_callPI mi_in21 (pc := 208) (ls := [(6, .int vg48), (2, .int (l2_2 + 1)), (5, .int ((a2 12).getD l2_2.toNatClampNeg 0)), (4, .int ((a2 11).getD l2_2.toNatClampNeg 0)), (3, .int l3_2), (0, .ref 10), (1, .ref 24)]) (st := [.int vg48, .int vg49, .int ((a2 11).getD l2_2.toNatClampNeg 0), .ref 10]) (h := ks ig49 ag49 qg49 rg49) (i := (.invokestatic 40, 3, 22, 0, 9, 0, 227)) (by rfl) (by rfl) (cy := mi_c22) rfl rfl (kc22 hGg49.I hGg49.R ((a2 11).getD l2_2.toNatClampNeg 0) vg49 vg48) (by decide) ?_
            intro vg50 hg50
            refine ko_callN mi_in21 (pc := 211) (ls := [(6, .int vg48), (2, .int (l2_2 + 1)), (5, .int ((a2 12).getD l2_2.toNatClampNeg 0)), (4, .int ((a2 11).getD l2_2.toNatClampNeg 0)), (3, .int l3_2), (0, .ref 10), (1, .ref 24)]) (st := [.int vg50, .ref 10]) (h := ks ig49 ag49 qg49 rg49) (i := (.invokevirtual 32, 3, 19, 0, 9, 0, 225)) (by rfl) (by rfl) (cy := mi_c19) rfl rfl (kc19_10 hGg49.I hGg49.R vg50) (by decide) ?_
            intro ig51 ag51 qg51 rg51 kg51 hg51
            have hGg51 := kG_call hGg49 kg51 (by decide +kernel)
            have s52 : (l3_2 + 1).toInt = l3_2.toInt + (1 : Int32).toInt := kd_add (oz52 p2_0 kn1) (oz125 c5 kn121 kn1)
            refine ko_steps mi_in21 2 _ (9, [(3, .int (l3_2 + 1)), (6, .int vg48), (2, .int (l2_2 + 1)), (5, .int ((a2 12).getD l2_2.toNatClampNeg 0)), (4, .int ((a2 11).getD l2_2.toNatClampNeg 0)), (0, .ref 10), (1, .ref 24)], [], (0, 0), ks ig51 ag51 qg51 rg51) (by rfl) ?_
            refine ko_perm [(3, .int (l3_2 + 1)), (2, .int (l2_2 + 1)), (0, .ref 10), (1, .ref 24)] (List.forall_mem_cons.mpr ⟨(List.Mem.head _), (List.forall_mem_cons.mpr ⟨(List.Mem.tail _ (List.Mem.tail _ (List.Mem.head _))), (List.forall_mem_cons.mpr ⟨(List.Mem.tail _ (List.Mem.tail _ (List.Mem.tail _ (List.Mem.tail _ (List.Mem.tail _ (List.Mem.head _)))))), (List.forall_mem_cons.mpr ⟨(List.Mem.tail _ (List.Mem.tail _ (List.Mem.tail _ (List.Mem.tail _ (List.Mem.tail _ (List.Mem.tail _ (List.Mem.head _))))))), (fun _ h => absurd h List.not_mem_nil)⟩)⟩)⟩)⟩) ?_
            exact ih2 _ _ _ _ _ _ hGg51 (oz54 p2_0 s52 kn1) (kj_meas (oz126 s52 kn1) (oz127 c5 kn121) hm2)
  exact lp2 _ _ _ _ _ _ _ (kG_self _ hJ1.I hJ1.R) (oz66 kn0) (Nat.lt_succ_self _)
