/-! what the bench lacks -/
theorem kn33 : (33 : Int32).toInt = 33 := by decide
theorem kn63 : (63 : Int32).toInt = 63 := by decide
def yw32_50 : kW := ([3208, 3209], [55, 63], [], [])
def yw32_50_L22 : kW := ([], [55], [], [])
set_option maxRecDepth 100000 in
theorem ke32_50 {i : Nat → Int32} {a : Nat → List Int32} {q : Nat → List Int64} {r : Nat → Nat} (hI : kI i a q) (hr : kr r)  : km 1 32 [.ref 50] (ks i a q r) (kVN yw32_50 i a q r (fun i1 a1 q1 r1 => (True) ∧ (i1 3208 = sMn 99 (i 3208 + 1) ∧ i1 3209 = 0 ∧ a1 55 = List.replicate 8 0 ∧ a1 63 = (a 63).set (3 : Int32).toNatClampNeg ((a 63).getD (3 : Int32).toNatClampNeg 0 + 1)))) := by
  have hG := kG_self yw32_50 hI hr
  refine km_ofN (q := (mi_h32, mi_c32)) rfl (by decide) (Nat.le_of_ble_eq_true rfl) ?_
  intro P hP
  have b1 : ((-2147483648 : Int) ≤ (i 3208).toInt) ∧ ((i 3208).toInt ≤ 2147483647) := kd_bd (i 3208)
  refine ft_go mi_k32 6 9 [(0, .ref 50)] [.int ((i 3208) + 1), .int 99, .ref 50] i a q r (by rfl) ?_
  have m3 : (((bif decide (((i 3208) + 1) < 99) then ((i 3208) + 1) else 99).toInt ≤ (99 : Int32).toInt) ∧ ((bif decide (((i 3208) + 1) < 99) then ((i 3208) + 1) else 99).toInt ≤ ((i 3208) + 1).toInt)) ∧ ((bif decide (((i 3208) + 1) < 99) then ((i 3208) + 1) else 99).toInt = (99 : Int32).toInt ∨ (bif decide (((i 3208) + 1) < 99) then ((i 3208) + 1) else 99).toInt = ((i 3208) + 1).toInt) := kd_min
  refine ft_go mi_k32 1 12 [(0, .ref 50)] [.int (bif decide (((i 3208) + 1) < 99) then ((i 3208) + 1) else 99), .ref 50] i a q r (by rfl) ?_
  generalize hm2 : (bif decide (((i 3208) + 1) < 99) then ((i 3208) + 1) else 99) = m2 at m3 ⊢
  have qm2 := hm2.symm
  have hJ4 := kG_i hG 3208 rfl (v := m2) (kd_bd _)
  have hJ5 := kG_i hJ4 3209 rfl (v := 0) (kd_bd _)
  refine ft_go mi_k32 6 22 [(1, .int 0), (0, .ref 50)] [] (ku (ku i 3208 m2) 3209 0) a q r (by rfl) ?_
  have lp6 : ∀ (nz : Nat) (i6 : Nat → Int32) (a6 : Nat → List Int32) (q6 : Nat → List Int64) (r6 : Nat → Nat) (l1_6 : Int32), kG yw32_50_L22 (ku (ku i 3208 m2) 3209 0) a q r i6 a6 q6 r6 → (0 : Int) ≤ l1_6.toInt → kZr (a6 55) l1_6.toInt → ((8 - l1_6.toInt)).toNat < nz → ko 1 (mi_h32, mi_c32) P (22, [(1, .int l1_6), (0, .ref 50)], [], (0, 0), ks i6 a6 q6 r6) := by
    intro nz
    induction nz with
    | zero =>
      intro _ _ _ _ _ _ _ _ hm
      exact absurd hm (Nat.not_lt_zero _)
    | succ nz ih6 =>
      intro i6 a6 q6 r6 l1_6 hL6 p6_0 O6_0 hm6
      refine ft_go mi_k32 2 25 [(1, .int l1_6), (0, .ref 50)] [.int 8, .int l1_6] i6 a6 q6 r6 (by rfl) ?_
      refine ft_if mi_k32 (decide (8 ≤ l1_6)) 41 28 [(1, .int l1_6), (0, .ref 50)] [] (by rfl) (fun c => ?_) (fun c => ?_)
      ·
        have c7 : (8 : Int32).toInt ≤ l1_6.toInt := kd_le c; clear c
        have hG8 := kG_call hJ5 hL6 (by decide +kernel)
        have qz9 : a6 55 = List.replicate 8 0 := kZr_end O6_0 (hG8.I.2.1 55) (oj0 c7 koj8)
        refine ft_go mi_k32 4 47 [(1, .int l1_6), (0, .ref 50)] [.int 3, .ref 63, .int 3, .ref 63] i6 a6 q6 r6 (by rfl) ?_
        refine ko_iald3 mi_k32.1 (n := 5) (c := 5) (ax := (0, 0, 0, 0, 0)) (mi_k32.2 _ _ (by rfl)) (by rfl) (ksG63 _ _ _ _) (hG8.I.2.1 63) rfl (oj1 koj3) (oj2 koj3) ?_
        have b10 : ((-2147483648 : Int) ≤ ((a6 63).getD (3 : Int32).toNatClampNeg 0).toInt) ∧ (((a6 63).getD (3 : Int32).toNatClampNeg 0).toInt ≤ 2147483647) := kd_bd ((a6 63).getD (3 : Int32).toNatClampNeg 0)
        refine ft_go mi_k32 2 50 [(1, .int l1_6), (0, .ref 50)] [.int (((a6 63).getD (3 : Int32).toNatClampNeg 0) + 1), .int 3, .ref 63] i6 a6 q6 r6 (by rfl) ?_
        refine ko_iast3 mi_k32.1 (n := 5) (c := 5) (ax := (0, 0, 0, 0, 0)) (mi_k32.2 _ _ (by rfl)) (by rfl) (ksG63 _ _ _ _) (ksA63 _ _ _ _) (hG8.I.2.1 63) rfl (oj1 koj3) (oj2 koj3) ?_
        intro a11 ea11 fa11
        have hJ11 := kG_a3 hG8 63 rfl ea11 fa11 (kd_bd _)
        exact ft_ret mi_k32 (by rfl) (hP  _ _ _ _ hJ11 ⟨trivial, ⟨(show i6 3208 = sMn 99 (i 3208 + 1) from (by first | rfl | (simp only [(show i6 3208 = m2 from hL6.fi 3208 rfl), qm2, sMn, sMx]; done) | (simp only [(show i6 3208 = m2 from hL6.fi 3208 rfl), qm2, sMn, sMx]; rfl))), (show i6 3209 = 0 from (by first | rfl | (simp only [(show i6 3209 = (0 : Int32) from hL6.fi 3209 rfl), sMn, sMx]; done) | (simp only [(show i6 3209 = (0 : Int32) from hL6.fi 3209 rfl), sMn, sMx]; rfl))), (show a11 55 = List.replicate 8 0 from (by first | rfl | (simp only [fa11 55 (by decide), qz9, sMn, sMx]; done) | (simp only [fa11 55 (by decide), qz9, sMn, sMx]; rfl))), (show a11 63 = (a 63).set (3 : Int32).toNatClampNeg ((a 63).getD (3 : Int32).toNatClampNeg 0 + 1) from (by first | rfl | (simp only [ea11, hL6.fa 63 rfl, sMn, sMx]; done) | (simp only [ea11, hL6.fa 63 rfl, sMn, sMx]; rfl)))⟩⟩)
      ·
        have c12 : l1_6.toInt < (8 : Int32).toInt := kd_leF c; clear c
        refine ft_go mi_k32 4 34 [(1, .int l1_6), (0, .ref 50)] [.int 0, .int l1_6, .ref 55] i6 a6 q6 r6 (by rfl) ?_
        refine ko_iast3 mi_k32.1 (n := 8) (c := 8) (ax := (0, 0, 0, 0, 0)) (mi_k32.2 _ _ (by rfl)) (by rfl) (ksG55 _ _ _ _) (ksA55 _ _ _ _) (hL6.I.2.1 55) rfl (oj3 p6_0) (oj4 c12 koj8) ?_
        intro a13 ea13 fa13
        have hJ13 := kG_a3 hL6 55 rfl ea13 fa13 (kd_bd _)
        have s14 : (l1_6 + 1).toInt = l1_6.toInt + (1 : Int32).toInt := kd_add (oj5 p6_0 koj1) (oj6 c12 koj8 koj1)
        refine ft_go mi_k32 2 22 [(1, .int (l1_6 + 1)), (0, .ref 50)] [] i6 a13 q6 r6 (by rfl) ?_
        exact ih6 _ _ _ _ _ hJ13 (oj7 p6_0 s14 koj1) (kZr_step O6_0 (hL6.I.2.1 55) (oj3 p6_0) (oj8 c12 koj8) (oj9 s14 koj1) ea13) (kj_meas (oj10 s14 koj1) (oj11 c12 koj8) hm6)
  exact lp6 _ _ _ _ _ _ (kG_self _ hJ5.I hJ5.R) (oj12 koj0) (kZr_zero koj0) (Nat.lt_succ_self _)
