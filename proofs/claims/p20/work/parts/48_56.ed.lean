theorem kod0 : (0 : Int32).toInt = 0 := by decide
theorem kod121 : (121 : Int32).toInt = 121 := by decide
theorem kod1 : (1 : Int32).toInt = 1 := by decide
theorem kod6 : (6 : Int32).toInt = 6 := by decide
theorem kod2 : (2 : Int32).toInt = 2 := by decide
theorem kod3 : (3 : Int32).toInt = 3 := by decide
theorem kod5 : (5 : Int32).toInt = 5 := by decide
theorem kod4 : (4 : Int32).toInt = 4 := by decide
theorem od0 {a0 : Int} (h0 : a0 = 0) : (0 : Int) ≤ a0 := oz46 h0
theorem od1 {a0 : Int} (h0 : a0 = 0) : a0 ≤ 121 := oz1033 h0
theorem od2 {a0 a1 : Int} (h0 : a0 ≤ a1) (h1 : a0 = 121) : 121 ≤ a1 := by omega
theorem od3 {a0 a1 a2 : Int} (h0 : a0 < a1) (h1 : a1 = 0) : ¬ (0 ≤ a0 ∧ a0 < a2) := by omega
theorem od4 {a0 a1 a2 : Int} (h0 : a0 ≤ a1) (h1 : a0 = a2) : ¬ (0 ≤ a1 ∧ a1 < a2) := by omega
theorem od5 {a0 a1 : Int} (h0 : a0 ≤ a1) (h1 : a0 = 0) : (0 : Int) ≤ a1 := oz389 h0 h1
theorem od6 {a0 a1 : Int} (h0 : a0 < a1) (h1 : a1 ≤ 121) : a0 < 121 := oz1034 h0 h1
theorem od7 {a0 a1 a2 : Int} (h0 : a0 ≤ a1) (h1 : a0 = 0) (h2 : a2 = 1) : (-2147483648 : Int) ≤ a1 + a2 := oz950 h0 h1 h2
theorem od8 {a0 a1 a2 : Int} (h0 : a0 < a1) (h1 : a1 ≤ 121) (h2 : a2 = 1) : a0 + a2 ≤ 2147483647 := oz1035 h0 h1 h2
theorem od9 {a0 a1 : Int} (h0 : a0 ≤ a1) (h1 : a0 = 121) : ((a1 ≤ 120) ∧ (a1 = (a1 + 1))) ∨ (((121 : Int) ≤ a1) ∧ (a1 = a1)) := by omega
theorem od10 {a0 a1 : Int} (h0 : a0 ≤ a1) (h1 : a0 = 121) : ¬ (a1 ≤ 120) := by omega
theorem od11 {a0 : Int} (h0 : (0 : Int) ≤ a0) : (0 : Int) ≤ a0 := oz3 h0
theorem od12 {a0 a1 : Int} (h0 : a0 < a1) (h1 : a1 = 121) : a0 < 121 := oz912 h0 h1
theorem od13 {a0 a1 : Int} (h0 : (0 : Int) ≤ a0) (h1 : a1 = 1) : (-2147483648 : Int) ≤ a0 + a1 := oz12 h0 h1
theorem od14 {a0 a1 : Int} (h0 : a0 ≤ 121) (h1 : a1 = 1) : a0 + a1 ≤ 2147483647 := oz913 h0 h1
theorem od15 {a0 a1 a2 : Int} (h0 : (0 : Int) ≤ a0) (h1 : a1 = a0 + a2) (h2 : a2 = 1) : (0 : Int) ≤ a1 := oz14 h0 h1 h2
theorem od16 {a0 a1 a2 a3 : Int} (h0 : a0 < a1) (h1 : a2 = a0 + a3) (h2 : a1 = 121) (h3 : a3 = 1) : a2 ≤ 121 := oz914 h0 h1 h2 h3
theorem od17 {a0 a1 a2 a3 : Int} (h0 : a0 < a1) (h1 : a2 = a0 + a3) (h2 : a1 = 121) (h3 : a3 = 1) : ((a0 ≤ 120) ∧ (a2 = (a0 + 1))) ∨ (((121 : Int) ≤ a0) ∧ (a2 = a0)) := by omega
theorem od18 {a0 a1 : Int} (h0 : a0 < a1) (h1 : a1 = 121) : a0 ≤ 120 := by omega
theorem od19 {a0 a1 a2 : Int} (h0 : a0 < a1) (h1 : a1 = 121) (h2 : a2 = 1) : a0 + a2 ≤ 2147483647 := oz1036 h0 h1 h2
theorem od20 {a0 a1 a2 : Int} (h0 : a0 < a1) (h1 : a1 = a2) : a0 < a2 := by omega
theorem od21 {a0 a1 a2 : Int} (h0 : a0 = a1 + a2) (h1 : a2 = 1) : a0 = a1 + 1 := oz169 h0 h1
theorem od22 {a0 : Int} (h0 : a0 = 0) : a0 = 0 := oz236 h0
theorem od23 {a0 a1 a2 : Int} (h0 : a0 = a1 + a2) (h1 : a2 = 1) : (121 - a0) < (121 - a1) := oz1037 h0 h1
theorem od24 {a0 a1 : Int} (h0 : a0 < a1) (h1 : a1 = 121) : (1 : Int) ≤ (121 - a0) := oz1038 h0 h1
theorem od25 {a0 : Int} (h0 : a0 = 1) : a0 = 1 := oz1381 h0
theorem od26 {a0 a1 : Int} (h0 : a0 < a1) (h1 : a1 = 6) : a0 < 6 := oz1039 h0 h1
theorem od27 {a0 a1 a2 : Int} (h0 : a0 < a1) (h1 : a0 = 0) (h2 : a2 = 1) : (-2147483648 : Int) ≤ a1 - a2 := oz1040 h0 h1 h2
theorem od28 {a0 a1 : Int} (h0 : a0 ≤ 121) (h1 : a1 = 1) : a0 - a1 ≤ 2147483647 := oz911 h0 h1
theorem od29 {a0 a1 a2 a3 : Int} (h0 : a0 < a1) (h1 : a2 = a1 - a3) (h2 : a0 = 0) (h3 : a3 = 1) : (0 : Int) ≤ a2 := oz1041 h0 h1 h2 h3
theorem od30 {a0 a1 a2 : Int} (h0 : a0 ≤ 121) (h1 : a1 = a0 - a2) (h2 : a2 = 1) : a1 ≤ 121 := oz1042 h0 h1 h2
theorem od31 {a0 a1 a2 : Int} (h0 : a0 ≤ 121) (h1 : a1 = a0 - a2) (h2 : a2 = 1) : a1 < 121 := oz1043 h0 h1 h2
theorem od32 {a0 a1 a2 a3 : Int} (h0 : a0 < a1) (h1 : a2 = a1 - a3) (h2 : a0 = 0) (h3 : a3 = 1) : (((1 : Int) ≤ a1) ∧ (a2 = (a1 - 1))) ∨ ((a1 ≤ 0) ∧ (a2 = a1)) := by omega
theorem od33 {a0 a1 : Int} (h0 : a0 < a1) (h1 : a0 = 0) : 1 ≤ a1 := by omega
theorem od34 {a0 a1 : Int} (h0 : a0 ≤ a1) (h1 : a1 = 0) : (((1 : Int) ≤ a0) ∧ (a0 = (a0 - 1))) ∨ ((a0 ≤ 0) ∧ (a0 = a0)) := by omega
theorem od35 {a0 a1 : Int} (h0 : a0 ≤ a1) (h1 : a1 = 0) : ¬ (1 ≤ a0) := by omega
theorem od36 {a0 : Int} (h0 : a0 = 2) : a0 = 2 := oz1411 h0
theorem od37 {a0 : Int} (h0 : a0 = 3) : a0 = 3 := oz1421 h0
theorem od38 {a0 : Int} (h0 : a0 = 33) : a0 = 33 := by omega
theorem od39 {a0 : Int} (h0 : a0 = 126) : a0 = 126 := by omega
theorem od40 {a0 a1 : Int} (h0 : a0 ≠ a1) (h1 : a1 = 0) : a0 ≠ 0 := oz295 h0 h1
theorem od41 {a0 : Int} (h0 : ¬ (a0 = 0)) : a0 ≠ 0 := oz1718 h0
theorem od42 {a0 : Int} (h0 : ¬ (a0 = 0)) (h1 : ¬ (a0 = 1)) : a0 ≠ 1 := oz1719 h0 h1
theorem od43 {a0 : Int} (h0 : ¬ (a0 = 0)) (h1 : ¬ (a0 = 1)) (h2 : ¬ (a0 = 2)) : a0 ≠ 2 := oz1720 h0 h1 h2
theorem od44 {a0 : Int} (h0 : ¬ (a0 = 0)) (h1 : ¬ (a0 = 1)) (h2 : ¬ (a0 = 2)) (h3 : ¬ (a0 = 3)) : a0 ≠ 3 := by omega
theorem od45 {a0 : Int} (h0 : ¬ (a0 = 33)) : a0 ≠ 33 := by omega
theorem od46 {a0 : Int} (h0 : ¬ (a0 = 126)) : a0 ≠ 126 := by omega
theorem od47 {a0 : Int} (h0 : a0 ≤ 7) : a0 < 8 := oz1032 h0
theorem od48 {a0 a1 : Int} (h0 : a0 = a1) (h1 : (0 : Int) ≤ a0) (h2 : a1 = 0) : a0 = 0 := by omega
theorem od49 {a0 : Int} (h0 : a0 = 0) : a0 < 6 := oz255 h0
theorem od50 {a0 : Int} (h0 : a0 = 1) : (0 : Int) ≤ a0 := oz246 h0
theorem od51 {a0 : Int} (h0 : a0 = 1) : a0 < 6 := oz247 h0
theorem od52 {a0 : Int} (h0 : a0 = 2) : (0 : Int) ≤ a0 := oz256 h0
theorem od53 {a0 : Int} (h0 : a0 = 2) : a0 < 6 := oz257 h0
theorem od54 {a0 : Int} (h0 : a0 = 3) : (0 : Int) ≤ a0 := oz260 h0
theorem od55 {a0 : Int} (h0 : a0 = 3) : a0 < 6 := oz261 h0
theorem od56 {a0 : Int} (h0 : a0 = 4) : (0 : Int) ≤ a0 := oz262 h0
theorem od57 {a0 : Int} (h0 : a0 = 4) : a0 < 6 := oz263 h0
theorem od58 {a0 : Int} (h0 : a0 = 5) : (0 : Int) ≤ a0 := oz264 h0
theorem od59 {a0 : Int} (h0 : a0 = 5) : a0 < 6 := oz265 h0
theorem od60 {a0 a1 : Int} (h0 : a0 ≠ a1) (h1 : (0 : Int) ≤ a0) (h2 : a1 = 0) : ¬ (a0 = 0) := by omega
def yw19_10 : kW := ([645], [13], [], [])
set_option maxRecDepth 100000 in
theorem ke19_10 {i : Nat → Int32} {a : Nat → List Int32} {q : Nat → List Int64} {r : Nat → Nat} (hI : kI i a q) (hr : kr r) (x1 : Int32) : km 1 19 [.ref 10, .int x1] (ks i a q r) (kVN yw19_10 i a q r (fun i1 a1 q1 r1 => ((((i 645).toInt ≤ 120) ∧ ((i1 645).toInt = ((i 645).toInt + 1))) ∨ (((121 : Int) ≤ (i 645).toInt) ∧ ((i1 645).toInt = (i 645).toInt))) ∧ (a1 13, i1 645) = lPush (a 13, i 645) x1)) := by
  have hG := kG_self yw19_10 hI hr
  refine km_ofN (q := (mi_h19, mi_c19)) rfl (by decide) (Nat.le_of_ble_eq_true rfl) ?_
  intro P hP
  have fi_645 : ((0 : Int) ≤ (i 645).toInt) ∧ ((i 645).toInt ≤ 121) := hG.I.1 645
  refine ft_go mi_k19 3 6 [(0, .ref 10), (1, .int x1)] [.int 121, .int (i 645)] i a q r (by rfl) ?_
  refine ft_if mi_k19 (decide (121 ≤ (i 645))) 29 9 [(0, .ref 10), (1, .int x1)] [] (by rfl) (fun c => ?_) (fun c => ?_)
  ·
    have c1 : (121 : Int32).toInt ≤ (i 645).toInt := kd_le c; clear c
    exact ft_ret mi_k19 (by rfl) (hP  _ _ _ _ hG ⟨(od9 c1 kod121), ((show (a 13, i 645) = (a 13, i 645) from rfl).trans (if_neg (od10 c1 kod121)).symm)⟩)
  ·
    have c2 : (i 645).toInt < (121 : Int32).toInt := kd_leF c; clear c
    refine ft_go mi_k19 5 18 [(0, .ref 10), (1, .int x1)] [.int x1, .int (i 645), .ref 13] i a q r (by rfl) ?_
    refine ko_iast3 mi_k19.1 (n := 121) (c := 121) (ax := (0, 0, 0, 0, 0)) (mi_k19.2 _ _ (by rfl)) (by rfl) (ksG13 _ _ _ _) (ksA13 _ _ _ _) (hG.I.2.1 13) rfl (od11 fi_645.1) (od12 c2 kod121) ?_
    intro a3 ea3 fa3
    have hJ3 := kG_a3 hG 13 rfl ea3 fa3 (kd_bd _)
    have s4 : ((i 645) + 1).toInt = (i 645).toInt + (1 : Int32).toInt := kd_add (od13 fi_645.1 kod1) (od14 fi_645.2 kod1)
    have hJ5 := kG_i hJ3 645 rfl (v := ((i 645) + 1)) ⟨(od15 fi_645.1 s4 kod1), (od16 c2 s4 kod121 kod1)⟩
    refine ft_go mi_k19 6 29 [(0, .ref 10), (1, .int x1)] [] (ku i 645 ((i 645) + 1)) a3 q r (by rfl) ?_
    exact ft_ret mi_k19 (by rfl) (hP  _ _ _ _ hJ5 ⟨(od17 c2 s4 kod121 kod1), ((show (a3 13, ((i 645) + 1)) = ((a 13).set (i 645).toNatClampNeg x1, i 645 + 1) from by rw [ea3]).trans (if_pos (od18 c2 kod121)).symm)⟩)
def yw20_10 : kW := ([645], [], [], [])
set_option maxRecDepth 100000 in
theorem ke20_10 {i : Nat → Int32} {a : Nat → List Int32} {q : Nat → List Int64} {r : Nat → Nat} (hI : kI i a q) (hr : kr r)  : km 1 20 [.ref 10] (ks i a q r) (kVI yw20_10 i a q r (fun v i1 a1 q1 r1 => ((((1 : Int) ≤ (i 645).toInt) ∧ ((i1 645).toInt = ((i 645).toInt - 1))) ∨ (((i 645).toInt ≤ 0) ∧ ((i1 645).toInt = (i 645).toInt))) ∧ (v, (a1 13, i1 645)) = lPop (a 13, i 645))) := by
  have hG := kG_self yw20_10 hI hr
  refine km_ofI (q := (mi_h20, mi_c20)) rfl (by decide) (Nat.le_of_ble_eq_true rfl) ?_
  intro P hP
  have fi_645 : ((0 : Int) ≤ (i 645).toInt) ∧ ((i 645).toInt ≤ 121) := hG.I.1 645
  refine ft_go mi_k20 2 4 [(0, .ref 10)] [.int (i 645)] i a q r (by rfl) ?_
  refine ft_if mi_k20 (decide (0 < (i 645))) 9 7 [(0, .ref 10)] [] (by rfl) (fun c => ?_) (fun c => ?_)
  ·
    have c1 : (0 : Int32).toInt < (i 645).toInt := kd_lt c; clear c
    have s2 : ((i 645) - 1).toInt = (i 645).toInt - (1 : Int32).toInt := kd_sub (od27 c1 kod0 kod1) (od28 fi_645.2 kod1)
    have hJ3 := kG_i hG 645 rfl (v := ((i 645) - 1)) ⟨(od29 c1 s2 kod0 kod1), (od30 fi_645.2 s2 kod1)⟩
    refine ft_go mi_k20 10 27 [(0, .ref 10)] [.int ((i 645) - 1), .ref 13] (ku i 645 ((i 645) - 1)) a q r (by rfl) ?_
    refine ko_iald3 mi_k20.1 (n := 121) (c := 121) (ax := (0, 0, 0, 0, 0)) (mi_k20.2 _ _ (by rfl)) (by rfl) (ksG13 _ _ _ _) (hJ3.I.2.1 13) rfl (od29 c1 s2 kod0 kod1) (od31 fi_645.2 s2 kod1) ?_
    exact ft_ret mi_k20 (by rfl) (hP ((a 13).getD ((i 645) - 1).toNatClampNeg 0) _ _ _ _ hJ3 ⟨(od32 c1 s2 kod0 kod1), ((show (((a 13).getD ((i 645) - 1).toNatClampNeg 0), (a 13, ((i 645) - 1))) = ((a 13).getD (i 645 - 1).toNatClampNeg 0, (a 13, i 645 - 1)) from rfl).trans (if_pos (od33 c1 kod0)).symm)⟩)
  ·
    have c4 : (i 645).toInt ≤ (0 : Int32).toInt := kd_ltF c; clear c
    refine ft_go mi_k20 1 8 [(0, .ref 10)] [.int 0] i a q r (by rfl) ?_
    exact ft_ret mi_k20 (by rfl) (hP 0 _ _ _ _ hG ⟨(od34 c4 kod0), ((show ((0 : Int32), (a 13, i 645)) = (0, (a 13, i 645)) from rfl).trans (if_neg (od35 c4 kod0)).symm)⟩)
set_option maxRecDepth 100000 in
theorem ke22 {i : Nat → Int32} {a : Nat → List Int32} {q : Nat → List Int64} {r : Nat → Nat} (hI : kI i a q) (hr : kr r) (x1 : Int32) (x2 : Int32) (x3 : Int32) : km 1 22 [.int x1, .int x2, .int x3] (ks i a q r) (kPI (ks i a q r) (fun v => (True) ∧ v = cJoin x1 x2 x3)) := by
  have hG := kG_self kW0 hI hr
  refine km_ofPI (q := (mi_h22, mi_c22)) rfl (by decide) (Nat.le_of_ble_eq_true rfl) ?_
  intro P hP
  refine ft_go mi_k22 1 1 [(0, .int x1), (1, .int x2), (2, .int x3)] [.int x1] i a q r (by rfl) ?_
  by_cases w1 : x1.toInt = 37
  ·
    refine ft_swx mi_k22 (pc := 1) (v := 37) (t := 177) (kj_eq w1 (by decide) : x1 = 37) (by decide +kernel) ?_
    refine ft_go mi_k22 1 178 [(0, .int x1), (1, .int x2), (2, .int x3)] [.int x3] i a q r (by rfl) ?_
    refine ft_if mi_k22 (x3 != 0) 185 181 [(0, .int x1), (1, .int x2), (2, .int x3)] [] (by rfl) (fun c => ?_) (fun c => ?_)
    ·
      have c2 : x3.toInt ≠ (0 : Int32).toInt := kd_ne c; clear c
      refine ft_go mi_k22 2 187 [(0, .int x1), (1, .int x2), (2, .int x3)] [.int x3, .int x2] i a q r (by rfl) ?_
      refine ko_irem mi_k22.1 (ax := (0, 0, 0, 0, 0)) (mi_k22.2 _ _ (by rfl)) (od40 c2 kod0) ?_
      exact ft_ret mi_k22 (by rfl) (hP (x2 - x2 / x3 * x3) ⟨trivial, (show (x2 - x2 / x3 * x3) = cJoin x1 x2 x3 from (by have k0_ : (0 : Int32).toInt = 0 := (by decide); have k6_ : (6 : Int32).toInt = 6 := (by decide); first | (unfold cJoin; rw [if_neg (show ¬ (x1.toInt = 124) by omega), if_neg (show ¬ (x1.toInt = 38) by omega), if_neg (show ¬ (x1.toInt = 60) by omega), if_neg (show ¬ (x1.toInt = 61) by omega), if_neg (show ¬ (x1.toInt = 62) by omega), if_neg (show ¬ (x1.toInt = 43) by omega), if_neg (show ¬ (x1.toInt = 45) by omega), if_neg (show ¬ (x1.toInt = 42) by omega), if_neg (show ¬ (x1.toInt = 47) by omega), if_pos w1]; all_goals first | (split <;> first | rfl | (exfalso; omega)) | rfl) | (unfold cJoin; (repeat' split) <;> first | rfl | (exfalso; omega))))⟩)
    ·
      have c3 : x3.toInt = (0 : Int32).toInt := kd_neF c; clear c
      refine ft_go mi_k22 2 188 [(0, .int x1), (1, .int x2), (2, .int x3)] [.int 0] i a q r (by rfl) ?_
      exact ft_ret mi_k22 (by rfl) (hP 0 ⟨trivial, (show (0 : Int32) = cJoin x1 x2 x3 from (by have k0_ : (0 : Int32).toInt = 0 := (by decide); have k6_ : (6 : Int32).toInt = 6 := (by decide); first | (unfold cJoin; rw [if_neg (show ¬ (x1.toInt = 124) by omega), if_neg (show ¬ (x1.toInt = 38) by omega), if_neg (show ¬ (x1.toInt = 60) by omega), if_neg (show ¬ (x1.toInt = 61) by omega), if_neg (show ¬ (x1.toInt = 62) by omega), if_neg (show ¬ (x1.toInt = 43) by omega), if_neg (show ¬ (x1.toInt = 45) by omega), if_neg (show ¬ (x1.toInt = 42) by omega), if_neg (show ¬ (x1.toInt = 47) by omega), if_pos w1]; all_goals first | (split <;> first | rfl | (exfalso; omega)) | rfl) | (unfold cJoin; (repeat' split) <;> first | rfl | (exfalso; omega))))⟩)
  by_cases w4 : x1.toInt = 38
  ·
    refine ft_swx mi_k22 (pc := 1) (v := 38) (t := 106) (kj_eq w4 (by decide) : x1 = 38) (by decide +kernel) ?_
    refine ft_go mi_k22 1 107 [(0, .int x1), (1, .int x2), (2, .int x3)] [.int x2] i a q r (by rfl) ?_
    refine ft_if mi_k22 (x2 == 0) 118 110 [(0, .int x1), (1, .int x2), (2, .int x3)] [] (by rfl) (fun c => ?_) (fun c => ?_)
    ·
      have c5 : x2.toInt = (0 : Int32).toInt := kd_eq c; clear c
      refine ft_go mi_k22 1 119 [(0, .int x1), (1, .int x2), (2, .int x3)] [.int 0] i a q r (by rfl) ?_
      exact ft_ret mi_k22 (by rfl) (hP 0 ⟨trivial, (show (0 : Int32) = cJoin x1 x2 x3 from (by have k0_ : (0 : Int32).toInt = 0 := (by decide); have k6_ : (6 : Int32).toInt = 6 := (by decide); first | (unfold cJoin; rw [if_neg (show ¬ (x1.toInt = 124) by omega), if_pos w4]; all_goals first | (split <;> first | rfl | (exfalso; omega)) | rfl) | (unfold cJoin; (repeat' split) <;> first | rfl | (exfalso; omega))))⟩)
    ·
      have c6 : x2.toInt ≠ (0 : Int32).toInt := kd_eqF c; clear c
      refine ft_go mi_k22 1 111 [(0, .int x1), (1, .int x2), (2, .int x3)] [.int x3] i a q r (by rfl) ?_
      refine ft_if mi_k22 (x3 == 0) 118 114 [(0, .int x1), (1, .int x2), (2, .int x3)] [] (by rfl) (fun c => ?_) (fun c => ?_)
      ·
        have c7 : x3.toInt = (0 : Int32).toInt := kd_eq c; clear c
        refine ft_go mi_k22 1 119 [(0, .int x1), (1, .int x2), (2, .int x3)] [.int 0] i a q r (by rfl) ?_
        exact ft_ret mi_k22 (by rfl) (hP 0 ⟨trivial, (show (0 : Int32) = cJoin x1 x2 x3 from (by have k0_ : (0 : Int32).toInt = 0 := (by decide); have k6_ : (6 : Int32).toInt = 6 := (by decide); first | (unfold cJoin; rw [if_neg (show ¬ (x1.toInt = 124) by omega), if_pos w4]; all_goals first | (split <;> first | rfl | (exfalso; omega)) | rfl) | (unfold cJoin; (repeat' split) <;> first | rfl | (exfalso; omega))))⟩)
      ·
        have c8 : x3.toInt ≠ (0 : Int32).toInt := kd_eqF c; clear c
        refine ft_go mi_k22 2 119 [(0, .int x1), (1, .int x2), (2, .int x3)] [.int 1] i a q r (by rfl) ?_
        exact ft_ret mi_k22 (by rfl) (hP 1 ⟨trivial, (show (1 : Int32) = cJoin x1 x2 x3 from (by have k0_ : (0 : Int32).toInt = 0 := (by decide); have k6_ : (6 : Int32).toInt = 6 := (by decide); first | (unfold cJoin; rw [if_neg (show ¬ (x1.toInt = 124) by omega), if_pos w4]; all_goals first | (split <;> first | rfl | (exfalso; omega)) | rfl) | (unfold cJoin; (repeat' split) <;> first | rfl | (exfalso; omega))))⟩)
  by_cases w9 : x1.toInt = 42
  ·
    refine ft_swx mi_k22 (pc := 1) (v := 42) (t := 161) (kj_eq w9 (by decide) : x1 = 42) (by decide +kernel) ?_
    refine ft_go mi_k22 3 164 [(0, .int x1), (1, .int x2), (2, .int x3)] [.int (x2 * x3)] i a q r (by rfl) ?_
    exact ft_ret mi_k22 (by rfl) (hP (x2 * x3) ⟨trivial, (show (x2 * x3) = cJoin x1 x2 x3 from (by have k0_ : (0 : Int32).toInt = 0 := (by decide); have k6_ : (6 : Int32).toInt = 6 := (by decide); first | (unfold cJoin; rw [if_neg (show ¬ (x1.toInt = 124) by omega), if_neg w4, if_neg (show ¬ (x1.toInt = 60) by omega), if_neg (show ¬ (x1.toInt = 61) by omega), if_neg (show ¬ (x1.toInt = 62) by omega), if_neg (show ¬ (x1.toInt = 43) by omega), if_neg (show ¬ (x1.toInt = 45) by omega), if_pos w9]; all_goals first | (split <;> first | rfl | (exfalso; omega)) | rfl) | (unfold cJoin; (repeat' split) <;> first | rfl | (exfalso; omega))))⟩)
  by_cases w10 : x1.toInt = 43
  ·
    refine ko_eq (x1 := (1, [(0, .int x1), (1, .int x2), (2, .int x3)], [.int 43], (0, 0), ks i a q r)) (by rw [(kj_eq w10 (by decide) : x1 = 43)]) ?_
    have b11 : ((-2147483648 : Int) ≤ x2.toInt) ∧ (x2.toInt ≤ 2147483647) := kd_bd x2
    have b12 : ((-2147483648 : Int) ≤ x3.toInt) ∧ (x3.toInt ≤ 2147483647) := kd_bd x3
    refine ft_go mi_k22 4 156 [(0, .int x1), (1, .int x2), (2, .int x3)] [.int (x2 + x3)] i a q r (by rfl) ?_
    exact ft_ret mi_k22 (by rfl) (hP (x2 + x3) ⟨trivial, (show (x2 + x3) = cJoin x1 x2 x3 from (by have k0_ : (0 : Int32).toInt = 0 := (by decide); have k6_ : (6 : Int32).toInt = 6 := (by decide); first | (unfold cJoin; rw [if_neg (show ¬ (x1.toInt = 124) by omega), if_neg w4, if_neg (show ¬ (x1.toInt = 60) by omega), if_neg (show ¬ (x1.toInt = 61) by omega), if_neg (show ¬ (x1.toInt = 62) by omega), if_pos w10]; all_goals first | (split <;> first | rfl | (exfalso; omega)) | rfl) | (unfold cJoin; (repeat' split) <;> first | rfl | (exfalso; omega))))⟩)
  by_cases w13 : x1.toInt = 45
  ·
    refine ko_eq (x1 := (1, [(0, .int x1), (1, .int x2), (2, .int x3)], [.int 45], (0, 0), ks i a q r)) (by rw [(kj_eq w13 (by decide) : x1 = 45)]) ?_
    have b14 : ((-2147483648 : Int) ≤ x2.toInt) ∧ (x2.toInt ≤ 2147483647) := kd_bd x2
    have b15 : ((-2147483648 : Int) ≤ x3.toInt) ∧ (x3.toInt ≤ 2147483647) := kd_bd x3
    refine ft_go mi_k22 4 160 [(0, .int x1), (1, .int x2), (2, .int x3)] [.int (x2 - x3)] i a q r (by rfl) ?_
    exact ft_ret mi_k22 (by rfl) (hP (x2 - x3) ⟨trivial, (show (x2 - x3) = cJoin x1 x2 x3 from (by have k0_ : (0 : Int32).toInt = 0 := (by decide); have k6_ : (6 : Int32).toInt = 6 := (by decide); first | (unfold cJoin; rw [if_neg (show ¬ (x1.toInt = 124) by omega), if_neg w4, if_neg (show ¬ (x1.toInt = 60) by omega), if_neg (show ¬ (x1.toInt = 61) by omega), if_neg (show ¬ (x1.toInt = 62) by omega), if_neg w10, if_pos w13]; all_goals first | (split <;> first | rfl | (exfalso; omega)) | rfl) | (unfold cJoin; (repeat' split) <;> first | rfl | (exfalso; omega))))⟩)
  by_cases w16 : x1.toInt = 47
  ·
    refine ft_swx mi_k22 (pc := 1) (v := 47) (t := 165) (kj_eq w16 (by decide) : x1 = 47) (by decide +kernel) ?_
    refine ft_go mi_k22 1 166 [(0, .int x1), (1, .int x2), (2, .int x3)] [.int x3] i a q r (by rfl) ?_
    refine ft_if mi_k22 (x3 != 0) 173 169 [(0, .int x1), (1, .int x2), (2, .int x3)] [] (by rfl) (fun c => ?_) (fun c => ?_)
    ·
      have c17 : x3.toInt ≠ (0 : Int32).toInt := kd_ne c; clear c
      refine ft_go mi_k22 2 175 [(0, .int x1), (1, .int x2), (2, .int x3)] [.int x3, .int x2] i a q r (by rfl) ?_
      refine ko_idiv mi_k22.1 (ax := (0, 0, 0, 0, 0)) (mi_k22.2 _ _ (by rfl)) (od40 c17 kod0) ?_
      exact ft_ret mi_k22 (by rfl) (hP (x2 / x3) ⟨trivial, (show (x2 / x3) = cJoin x1 x2 x3 from (by have k0_ : (0 : Int32).toInt = 0 := (by decide); have k6_ : (6 : Int32).toInt = 6 := (by decide); first | (unfold cJoin; rw [if_neg (show ¬ (x1.toInt = 124) by omega), if_neg w4, if_neg (show ¬ (x1.toInt = 60) by omega), if_neg (show ¬ (x1.toInt = 61) by omega), if_neg (show ¬ (x1.toInt = 62) by omega), if_neg w10, if_neg w13, if_neg w9, if_pos w16]; all_goals first | (split <;> first | rfl | (exfalso; omega)) | rfl) | (unfold cJoin; (repeat' split) <;> first | rfl | (exfalso; omega))))⟩)
    ·
      have c18 : x3.toInt = (0 : Int32).toInt := kd_neF c; clear c
      refine ft_go mi_k22 2 176 [(0, .int x1), (1, .int x2), (2, .int x3)] [.int 0] i a q r (by rfl) ?_
      exact ft_ret mi_k22 (by rfl) (hP 0 ⟨trivial, (show (0 : Int32) = cJoin x1 x2 x3 from (by have k0_ : (0 : Int32).toInt = 0 := (by decide); have k6_ : (6 : Int32).toInt = 6 := (by decide); first | (unfold cJoin; rw [if_neg (show ¬ (x1.toInt = 124) by omega), if_neg w4, if_neg (show ¬ (x1.toInt = 60) by omega), if_neg (show ¬ (x1.toInt = 61) by omega), if_neg (show ¬ (x1.toInt = 62) by omega), if_neg w10, if_neg w13, if_neg w9, if_pos w16]; all_goals first | (split <;> first | rfl | (exfalso; omega)) | rfl) | (unfold cJoin; (repeat' split) <;> first | rfl | (exfalso; omega))))⟩)
  by_cases w19 : x1.toInt = 60
  ·
    refine ft_swx mi_k22 (pc := 1) (v := 60) (t := 120) (kj_eq w19 (by decide) : x1 = 60) (by decide +kernel) ?_
    refine ft_go mi_k22 2 122 [(0, .int x1), (1, .int x2), (2, .int x3)] [.int x3, .int x2] i a q r (by rfl) ?_
    refine ft_if mi_k22 (decide (x3 ≤ x2)) 129 125 [(0, .int x1), (1, .int x2), (2, .int x3)] [] (by rfl) (fun c => ?_) (fun c => ?_)
    ·
      have c20 : x3.toInt ≤ x2.toInt := kd_le c; clear c
      refine ft_go mi_k22 1 130 [(0, .int x1), (1, .int x2), (2, .int x3)] [.int 0] i a q r (by rfl) ?_
      exact ft_ret mi_k22 (by rfl) (hP 0 ⟨trivial, (show (0 : Int32) = cJoin x1 x2 x3 from (by have k0_ : (0 : Int32).toInt = 0 := (by decide); have k6_ : (6 : Int32).toInt = 6 := (by decide); first | (unfold cJoin; rw [if_neg (show ¬ (x1.toInt = 124) by omega), if_neg w4, if_pos w19]; all_goals first | (split <;> first | rfl | (exfalso; omega)) | rfl) | (unfold cJoin; (repeat' split) <;> first | rfl | (exfalso; omega))))⟩)
    ·
      have c21 : x2.toInt < x3.toInt := kd_leF c; clear c
      refine ft_go mi_k22 2 130 [(0, .int x1), (1, .int x2), (2, .int x3)] [.int 1] i a q r (by rfl) ?_
      exact ft_ret mi_k22 (by rfl) (hP 1 ⟨trivial, (show (1 : Int32) = cJoin x1 x2 x3 from (by have k0_ : (0 : Int32).toInt = 0 := (by decide); have k6_ : (6 : Int32).toInt = 6 := (by decide); first | (unfold cJoin; rw [if_neg (show ¬ (x1.toInt = 124) by omega), if_neg w4, if_pos w19]; all_goals first | (split <;> first | rfl | (exfalso; omega)) | rfl) | (unfold cJoin; (repeat' split) <;> first | rfl | (exfalso; omega))))⟩)
  by_cases w22 : x1.toInt = 61
  ·
    refine ft_swx mi_k22 (pc := 1) (v := 61) (t := 131) (kj_eq w22 (by decide) : x1 = 61) (by decide +kernel) ?_
    refine ft_go mi_k22 2 133 [(0, .int x1), (1, .int x2), (2, .int x3)] [.int x3, .int x2] i a q r (by rfl) ?_
    refine ft_if mi_k22 (x2 != x3) 140 136 [(0, .int x1), (1, .int x2), (2, .int x3)] [] (by rfl) (fun c => ?_) (fun c => ?_)
    ·
      have c23 : x2.toInt ≠ x3.toInt := kd_ne c; clear c
      refine ft_go mi_k22 1 141 [(0, .int x1), (1, .int x2), (2, .int x3)] [.int 0] i a q r (by rfl) ?_
      exact ft_ret mi_k22 (by rfl) (hP 0 ⟨trivial, (show (0 : Int32) = cJoin x1 x2 x3 from (by have k0_ : (0 : Int32).toInt = 0 := (by decide); have k6_ : (6 : Int32).toInt = 6 := (by decide); first | (unfold cJoin; rw [if_neg (show ¬ (x1.toInt = 124) by omega), if_neg w4, if_neg w19, if_pos w22]; all_goals first | (split <;> first | rfl | (exfalso; omega)) | rfl) | (unfold cJoin; (repeat' split) <;> first | rfl | (exfalso; omega))))⟩)
    ·
      have c24 : x2.toInt = x3.toInt := kd_neF c; clear c
      refine ft_go mi_k22 2 141 [(0, .int x1), (1, .int x2), (2, .int x3)] [.int 1] i a q r (by rfl) ?_
      exact ft_ret mi_k22 (by rfl) (hP 1 ⟨trivial, (show (1 : Int32) = cJoin x1 x2 x3 from (by have k0_ : (0 : Int32).toInt = 0 := (by decide); have k6_ : (6 : Int32).toInt = 6 := (by decide); first | (unfold cJoin; rw [if_neg (show ¬ (x1.toInt = 124) by omega), if_neg w4, if_neg w19, if_pos w22]; all_goals first | (split <;> first | rfl | (exfalso; omega)) | rfl) | (unfold cJoin; (repeat' split) <;> first | rfl | (exfalso; omega))))⟩)
  by_cases w25 : x1.toInt = 62
  ·
    refine ft_swx mi_k22 (pc := 1) (v := 62) (t := 142) (kj_eq w25 (by decide) : x1 = 62) (by decide +kernel) ?_
    refine ft_go mi_k22 2 144 [(0, .int x1), (1, .int x2), (2, .int x3)] [.int x3, .int x2] i a q r (by rfl) ?_
    refine ft_if mi_k22 (decide (x2 ≤ x3)) 151 147 [(0, .int x1), (1, .int x2), (2, .int x3)] [] (by rfl) (fun c => ?_) (fun c => ?_)
    ·
      have c26 : x2.toInt ≤ x3.toInt := kd_le c; clear c
      refine ft_go mi_k22 1 152 [(0, .int x1), (1, .int x2), (2, .int x3)] [.int 0] i a q r (by rfl) ?_
      exact ft_ret mi_k22 (by rfl) (hP 0 ⟨trivial, (show (0 : Int32) = cJoin x1 x2 x3 from (by have k0_ : (0 : Int32).toInt = 0 := (by decide); have k6_ : (6 : Int32).toInt = 6 := (by decide); first | (unfold cJoin; rw [if_neg (show ¬ (x1.toInt = 124) by omega), if_neg w4, if_neg w19, if_neg w22, if_pos w25]; all_goals first | (split <;> first | rfl | (exfalso; omega)) | rfl) | (unfold cJoin; (repeat' split) <;> first | rfl | (exfalso; omega))))⟩)
    ·
      have c27 : x3.toInt < x2.toInt := kd_leF c; clear c
      refine ft_go mi_k22 2 152 [(0, .int x1), (1, .int x2), (2, .int x3)] [.int 1] i a q r (by rfl) ?_
      exact ft_ret mi_k22 (by rfl) (hP 1 ⟨trivial, (show (1 : Int32) = cJoin x1 x2 x3 from (by have k0_ : (0 : Int32).toInt = 0 := (by decide); have k6_ : (6 : Int32).toInt = 6 := (by decide); first | (unfold cJoin; rw [if_neg (show ¬ (x1.toInt = 124) by omega), if_neg w4, if_neg w19, if_neg w22, if_pos w25]; all_goals first | (split <;> first | rfl | (exfalso; omega)) | rfl) | (unfold cJoin; (repeat' split) <;> first | rfl | (exfalso; omega))))⟩)
  by_cases w28 : x1.toInt = 124
  ·
    refine ft_swx mi_k22 (pc := 1) (v := 124) (t := 92) (kj_eq w28 (by decide) : x1 = 124) (by decide +kernel) ?_
    refine ft_go mi_k22 1 93 [(0, .int x1), (1, .int x2), (2, .int x3)] [.int x2] i a q r (by rfl) ?_
    refine ft_if mi_k22 (x2 != 0) 100 96 [(0, .int x1), (1, .int x2), (2, .int x3)] [] (by rfl) (fun c => ?_) (fun c => ?_)
    ·
      have c29 : x2.toInt ≠ (0 : Int32).toInt := kd_ne c; clear c
      refine ft_go mi_k22 2 105 [(0, .int x1), (1, .int x2), (2, .int x3)] [.int 1] i a q r (by rfl) ?_
      exact ft_ret mi_k22 (by rfl) (hP 1 ⟨trivial, (show (1 : Int32) = cJoin x1 x2 x3 from (by have k0_ : (0 : Int32).toInt = 0 := (by decide); have k6_ : (6 : Int32).toInt = 6 := (by decide); first | (unfold cJoin; rw [if_pos w28]; all_goals first | (split <;> first | rfl | (exfalso; omega)) | rfl) | (unfold cJoin; (repeat' split) <;> first | rfl | (exfalso; omega))))⟩)
    ·
      have c30 : x2.toInt = (0 : Int32).toInt := kd_neF c; clear c
      refine ft_go mi_k22 1 97 [(0, .int x1), (1, .int x2), (2, .int x3)] [.int x3] i a q r (by rfl) ?_
      refine ft_if mi_k22 (x3 == 0) 104 100 [(0, .int x1), (1, .int x2), (2, .int x3)] [] (by rfl) (fun c => ?_) (fun c => ?_)
      ·
        have c31 : x3.toInt = (0 : Int32).toInt := kd_eq c; clear c
        refine ft_go mi_k22 1 105 [(0, .int x1), (1, .int x2), (2, .int x3)] [.int 0] i a q r (by rfl) ?_
        exact ft_ret mi_k22 (by rfl) (hP 0 ⟨trivial, (show (0 : Int32) = cJoin x1 x2 x3 from (by have k0_ : (0 : Int32).toInt = 0 := (by decide); have k6_ : (6 : Int32).toInt = 6 := (by decide); first | (unfold cJoin; rw [if_pos w28]; all_goals first | (split <;> first | rfl | (exfalso; omega)) | rfl) | (unfold cJoin; (repeat' split) <;> first | rfl | (exfalso; omega))))⟩)
      ·
        have c32 : x3.toInt ≠ (0 : Int32).toInt := kd_eqF c; clear c
        refine ft_go mi_k22 2 105 [(0, .int x1), (1, .int x2), (2, .int x3)] [.int 1] i a q r (by rfl) ?_
        exact ft_ret mi_k22 (by rfl) (hP 1 ⟨trivial, (show (1 : Int32) = cJoin x1 x2 x3 from (by have k0_ : (0 : Int32).toInt = 0 := (by decide); have k6_ : (6 : Int32).toInt = 6 := (by decide); first | (unfold cJoin; rw [if_pos w28]; all_goals first | (split <;> first | rfl | (exfalso; omega)) | rfl) | (unfold cJoin; (repeat' split) <;> first | rfl | (exfalso; omega))))⟩)
  refine ko_lsw (ls := [(0, .int x1), (1, .int x2), (2, .int x3)]) (r := []) (h := ks i a q r) mi_in22 (v := x1) (i := (.lookupswitch 188 #[(37, 176), (38, 105), (42, 160), (43, 152), (45, 156), (47, 164), (60, 119), (61, 130), (62, 141), (124, 91)], 91, 0, 0, 0, 0, 0)) (by rfl) rfl (by simp only [Op.lookupswitch.offset, if_neg (Ne.symm w1), if_neg (Ne.symm w4), if_neg (Ne.symm w9), if_neg (Ne.symm w10), if_neg (Ne.symm w13), if_neg (Ne.symm w16), if_neg (Ne.symm w19), if_neg (Ne.symm w22), if_neg (Ne.symm w25), if_neg (Ne.symm w28)] <;> rfl) 189 (by rfl) ?_
  refine ft_go mi_k22 1 190 [(0, .int x1), (1, .int x2), (2, .int x3)] [.int 0] i a q r (by rfl) ?_
  exact ft_ret mi_k22 (by rfl) (hP 0 ⟨trivial, (show (0 : Int32) = cJoin x1 x2 x3 from (by have k0_ : (0 : Int32).toInt = 0 := (by decide); have k6_ : (6 : Int32).toInt = 6 := (by decide); first | (unfold cJoin; rw [if_neg w28, if_neg w4, if_neg w19, if_neg w22, if_neg w25, if_neg w10, if_neg w13, if_neg w9, if_neg w16, if_neg w1]; all_goals first | (split <;> first | rfl | (exfalso; omega)) | rfl) | (unfold cJoin; (repeat' split) <;> first | rfl | (exfalso; omega))))⟩)
def yw21_10_24 : kW := ([645], [13], [], [])
def yw21_10_24_L9 : kW := ([645], [13], [], [])
set_option maxRecDepth 100000 in
theorem ke21_10_24 {i : Nat → Int32} {a : Nat → List Int32} {q : Nat → List Int64} {r : Nat → Nat} (hI : kI i a q) (hr : kr r)  : km 3 21 [.ref 10, .ref 24] (ks i a q r) (kVI yw21_10_24 i a q r (fun v i1 a1 q1 r1 => (True) ∧ v = lRun (a 11) (a 12) (a 24) (i 643) 121 0 (a 13, 0))) := by
  have hG := kG_self yw21_10_24 hI hr
  refine km_ofI (q := (mi_h21, mi_c21)) rfl (by decide) (Nat.le_of_ble_eq_true rfl) ?_
  intro P hP
  have hJ1 := kG_i hG 645 rfl (v := 0) ⟨(od0 kod0), (od1 kod0)⟩
  first | refine ft_go mi_k21 7 9 [(3, .int 0), (2, .int 0), (0, .ref 10), (1, .ref 24)] [] (ku i 645 0) a q r (by rfl) ?_ | refine ko_steps mi_in21 7 _ (9, [(3, .int 0), (2, .int 0), (0, .ref 10), (1, .ref 24)], [], (0, 0), ks (ku i 645 0) a q r) (by rfl) ?_
  have lp2 : ∀ (nz : Nat) (i2 : Nat → Int32) (a2 : Nat → List Int32) (q2 : Nat → List Int64) (r2 : Nat → Nat) (l3_2 : Int32) (l2_2 : Int32), kG yw21_10_24_L9 (ku i 645 0) a q r i2 a2 q2 r2 → (0 : Int) ≤ l3_2.toInt → lRun (a 11) (a 12) (a 24) (i 643) (121 - l3_2.toInt).toNat l2_2 (a2 13, i2 645) = lRun (a 11) (a 12) (a 24) (i 643) 121 0 (a 13, 0) → ((121 - l3_2.toInt)).toNat < nz → ko 3 (mi_h21, mi_c21) P (9, [(3, .int l3_2), (2, .int l2_2), (0, .ref 10), (1, .ref 24)], [], (0, 0), ks i2 a2 q2 r2) := by
    intro nz
    induction nz with
    | zero =>
      intro _ _ _ _ _ _ _ _ _ hm
      exact absurd hm (Nat.not_lt_zero _)
    | succ nz ih2 =>
      intro i2 a2 q2 r2 l3_2 l2_2 hL2 p2_0 O2_0 hm2
      first | refine ft_go mi_k21 2 12 [(3, .int l3_2), (2, .int l2_2), (0, .ref 10), (1, .ref 24)] [.int 121, .int l3_2] i2 a2 q2 r2 (by rfl) ?_ | refine ko_steps mi_in21 2 _ (12, [(3, .int l3_2), (2, .int l2_2), (0, .ref 10), (1, .ref 24)], [.int 121, .int l3_2], (0, 0), ks i2 a2 q2 r2) (by rfl) ?_
      refine ft_if mi_k21 (decide (121 ≤ l3_2)) 220 15 [(3, .int l3_2), (2, .int l2_2), (0, .ref 10), (1, .ref 24)] [] (by rfl) (fun c => ?_) (fun c => ?_)
      ·
        have c3 : (121 : Int32).toInt ≤ l3_2.toInt := kd_le c; clear c
        have hG4 := kG_call hJ1 hL2 (by decide +kernel)
        first | refine ft_go mi_k21 1 221 [(3, .int l3_2), (2, .int l2_2), (0, .ref 10), (1, .ref 24)] [.int 0] i2 a2 q2 r2 (by rfl) ?_ | refine ko_steps mi_in21 1 _ (221, [(3, .int l3_2), (2, .int l2_2), (0, .ref 10), (1, .ref 24)], [.int 0], (0, 0), ks i2 a2 q2 r2) (by rfl) ?_
        exact ft_ret mi_k21 (by rfl) (hP 0 _ _ _ _ hG4 ⟨trivial, (show (0 : Int32) = lRun (a 11) (a 12) (a 24) (i 643) 121 0 (a 13, 0) from (lRun_end O2_0 (kj_none (od2 c3 kod121))).symm)⟩)
      ·
        have c5 : l3_2.toInt < (121 : Int32).toInt := kd_leF c; clear c
        first | refine ft_go mi_k21 1 16 [(3, .int l3_2), (2, .int l2_2), (0, .ref 10), (1, .ref 24)] [.int l2_2] i2 a2 q2 r2 (by rfl) ?_ | refine ko_steps mi_in21 1 _ (16, [(3, .int l3_2), (2, .int l2_2), (0, .ref 10), (1, .ref 24)], [.int l2_2], (0, 0), ks i2 a2 q2 r2) (by rfl) ?_
        refine ft_if mi_k21 (decide (l2_2 < 0)) 220 19 [(3, .int l3_2), (2, .int l2_2), (0, .ref 10), (1, .ref 24)] [] (by rfl) (fun c => ?_) (fun c => ?_)
        ·
          have c6 : l2_2.toInt < (0 : Int32).toInt := kd_lt c; clear c
          have hG7 := kG_call hJ1 hL2 (by decide +kernel)
          first | refine ft_go mi_k21 1 221 [(3, .int l3_2), (2, .int l2_2), (0, .ref 10), (1, .ref 24)] [.int 0] i2 a2 q2 r2 (by rfl) ?_ | refine ko_steps mi_in21 1 _ (221, [(3, .int l3_2), (2, .int l2_2), (0, .ref 10), (1, .ref 24)], [.int 0], (0, 0), ks i2 a2 q2 r2) (by rfl) ?_
          exact ft_ret mi_k21 (by rfl) (hP 0 _ _ _ _ hG7 ⟨trivial, (show (0 : Int32) = lRun (a 11) (a 12) (a 24) (i 643) 121 0 (a 13, 0) from (lRun_out O2_0 (od3 c6 kod0)).symm)⟩)
        ·
          have c8 : (0 : Int32).toInt ≤ l2_2.toInt := kd_ltF c; clear c
          have fi2_643 : ((0 : Int) ≤ (i2 643).toInt) ∧ ((i2 643).toInt ≤ 121) := hL2.I.1 643
          have fi_643 : ((0 : Int) ≤ (i 643).toInt) ∧ ((i 643).toInt ≤ 121) := hJ1.I.1 643
          have efi2_643 : (i2 643).toInt = (i 643).toInt := hL2.ti 643 rfl
          first | refine ft_go mi_k21 3 24 [(3, .int l3_2), (2, .int l2_2), (0, .ref 10), (1, .ref 24)] [.int (i2 643), .int l2_2] i2 a2 q2 r2 (by rfl) ?_ | refine ko_steps mi_in21 3 _ (24, [(3, .int l3_2), (2, .int l2_2), (0, .ref 10), (1, .ref 24)], [.int (i2 643), .int l2_2], (0, 0), ks i2 a2 q2 r2) (by rfl) ?_
          refine ft_if mi_k21 (decide ((i2 643) ≤ l2_2)) 220 27 [(3, .int l3_2), (2, .int l2_2), (0, .ref 10), (1, .ref 24)] [] (by rfl) (fun c => ?_) (fun c => ?_)
          ·
            have c9 : (i2 643).toInt ≤ l2_2.toInt := kd_le c; clear c
            have hG10 := kG_call hJ1 hL2 (by decide +kernel)
            first | refine ft_go mi_k21 1 221 [(3, .int l3_2), (2, .int l2_2), (0, .ref 10), (1, .ref 24)] [.int 0] i2 a2 q2 r2 (by rfl) ?_ | refine ko_steps mi_in21 1 _ (221, [(3, .int l3_2), (2, .int l2_2), (0, .ref 10), (1, .ref 24)], [.int 0], (0, 0), ks i2 a2 q2 r2) (by rfl) ?_
            exact ft_ret mi_k21 (by rfl) (hP 0 _ _ _ _ hG10 ⟨trivial, (show (0 : Int32) = lRun (a 11) (a 12) (a 24) (i 643) 121 0 (a 13, 0) from (lRun_out O2_0 (od4 c9 efi2_643)).symm)⟩)
          ·
            have c11 : l2_2.toInt < (i2 643).toInt := kd_leF c; clear c
            first | refine ft_go mi_k21 3 32 [(3, .int l3_2), (2, .int l2_2), (0, .ref 10), (1, .ref 24)] [.int l2_2, .ref 11] i2 a2 q2 r2 (by rfl) ?_ | refine ko_steps mi_in21 3 _ (32, [(3, .int l3_2), (2, .int l2_2), (0, .ref 10), (1, .ref 24)], [.int l2_2, .ref 11], (0, 0), ks i2 a2 q2 r2) (by rfl) ?_
            refine ko_iald3 mi_k21.1 (n := 121) (c := 121) (ax := (0, 0, 0, 0, 0)) (mi_k21.2 _ _ (by rfl)) (by rfl) (ksG11 _ _ _ _) (hL2.I.2.1 11) rfl (od5 c8 kod0) (od6 c11 fi2_643.2) ?_
            first | refine ft_go mi_k21 4 40 [(4, .int ((a2 11).getD l2_2.toNatClampNeg 0)), (3, .int l3_2), (2, .int l2_2), (0, .ref 10), (1, .ref 24)] [.int l2_2, .ref 12] i2 a2 q2 r2 (by rfl) ?_ | refine ko_steps mi_in21 4 _ (40, [(4, .int ((a2 11).getD l2_2.toNatClampNeg 0)), (3, .int l3_2), (2, .int l2_2), (0, .ref 10), (1, .ref 24)], [.int l2_2, .ref 12], (0, 0), ks i2 a2 q2 r2) (by rfl) ?_
            refine ko_iald3 mi_k21.1 (n := 121) (c := 121) (ax := (0, 0, 0, 0, 0)) (mi_k21.2 _ _ (by rfl)) (by rfl) (ksG12 _ _ _ _) (hL2.I.2.1 12) rfl (od5 c8 kod0) (od6 c11 fi2_643.2) ?_
            have s12 : (l2_2 + 1).toInt = l2_2.toInt + (1 : Int32).toInt := kd_add (od7 c8 kod0 kod1) (od8 c11 fi2_643.2 kod1)
            first | refine ft_go mi_k21 3 48 [(2, .int (l2_2 + 1)), (5, .int ((a2 12).getD l2_2.toNatClampNeg 0)), (4, .int ((a2 11).getD l2_2.toNatClampNeg 0)), (3, .int l3_2), (0, .ref 10), (1, .ref 24)] [.int ((a2 11).getD l2_2.toNatClampNeg 0)] i2 a2 q2 r2 (by rfl) ?_ | refine ko_steps mi_in21 3 _ (48, [(2, .int (l2_2 + 1)), (5, .int ((a2 12).getD l2_2.toNatClampNeg 0)), (4, .int ((a2 11).getD l2_2.toNatClampNeg 0)), (3, .int l3_2), (0, .ref 10), (1, .ref 24)], [.int ((a2 11).getD l2_2.toNatClampNeg 0)], (0, 0), ks i2 a2 q2 r2) (by rfl) ?_
            by_cases w13 : ((a2 11).getD l2_2.toNatClampNeg 0).toInt = 0
            ·
              refine ft_swx mi_k21 (pc := 48) (v := 0) (t := 108) (kj_eq w13 (by decide) : ((a2 11).getD l2_2.toNatClampNeg 0) = 0) (by decide +kernel) ?_
              first | refine ft_go mi_k21 2 111 [(2, .int (l2_2 + 1)), (5, .int ((a2 12).getD l2_2.toNatClampNeg 0)), (4, .int ((a2 11).getD l2_2.toNatClampNeg 0)), (3, .int l3_2), (0, .ref 10), (1, .ref 24)] [.int ((a2 12).getD l2_2.toNatClampNeg 0), .ref 10] i2 a2 q2 r2 (by rfl) ?_ | refine ko_steps mi_in21 2 _ (111, [(2, .int (l2_2 + 1)), (5, .int ((a2 12).getD l2_2.toNatClampNeg 0)), (4, .int ((a2 11).getD l2_2.toNatClampNeg 0)), (3, .int l3_2), (0, .ref 10), (1, .ref 24)], [.int ((a2 12).getD l2_2.toNatClampNeg 0), .ref 10], (0, 0), ks i2 a2 q2 r2) (by rfl) ?_
              refine ko_callN mi_k21.1 (pc := 111) (ls := [(2, .int (l2_2 + 1)), (5, .int ((a2 12).getD l2_2.toNatClampNeg 0)), (4, .int ((a2 11).getD l2_2.toNatClampNeg 0)), (3, .int l3_2), (0, .ref 10), (1, .ref 24)]) (st := [.int ((a2 12).getD l2_2.toNatClampNeg 0), .ref 10]) (h := ks i2 a2 q2 r2) (i := (.invokevirtual 32, 3, 19, 0, 9, 0, 225)) (mi_k21.2 _ _ (by rfl)) (ft_invS mi_pq19 (by rfl)) (cy := mi_c19) mi_pq19 rfl (ke19_10 hL2.I hL2.R ((a2 12).getD l2_2.toNatClampNeg 0)) (by decide) ?_
              intro ig14 ag14 qg14 rg14 kg14 hg14
              have hGg14 := kG_call hL2 kg14 (by decide +kernel)
              obtain ⟨hg14, og14⟩ := hg14
              have s16 : (l3_2 + 1).toInt = l3_2.toInt + (1 : Int32).toInt := kd_add (od13 p2_0 kod1) (od19 c5 kod121 kod1)
              first | refine ft_go mi_k21 3 9 [(3, .int (l3_2 + 1)), (2, .int (l2_2 + 1)), (5, .int ((a2 12).getD l2_2.toNatClampNeg 0)), (4, .int ((a2 11).getD l2_2.toNatClampNeg 0)), (0, .ref 10), (1, .ref 24)] [] ig14 ag14 qg14 rg14 (by rfl) ?_ | refine ko_steps mi_in21 3 _ (9, [(3, .int (l3_2 + 1)), (2, .int (l2_2 + 1)), (5, .int ((a2 12).getD l2_2.toNatClampNeg 0)), (4, .int ((a2 11).getD l2_2.toNatClampNeg 0)), (0, .ref 10), (1, .ref 24)], [], (0, 0), ks ig14 ag14 qg14 rg14) (by rfl) ?_
              refine ko_perm [(3, .int (l3_2 + 1)), (2, .int (l2_2 + 1)), (0, .ref 10), (1, .ref 24)] (List.forall_mem_cons.mpr ⟨(List.Mem.head _), (List.forall_mem_cons.mpr ⟨(List.Mem.tail _ (List.Mem.head _)), (List.forall_mem_cons.mpr ⟨(List.Mem.tail _ (List.Mem.tail _ (List.Mem.tail _ (List.Mem.tail _ (List.Mem.head _))))), (List.forall_mem_cons.mpr ⟨(List.Mem.tail _ (List.Mem.tail _ (List.Mem.tail _ (List.Mem.tail _ (List.Mem.tail _ (List.Mem.head _)))))), (fun _ h => absurd h List.not_mem_nil)⟩)⟩)⟩)⟩) ?_
              exact ih2 _ _ _ _ _ _ hGg14 (od15 p2_0 s16 kod1) (lRun_num O2_0 (kj_left (od12 c5 kod121) (od21 s16 kod1)) ⟨(od5 c8 kod0), (od20 c11 efi2_643)⟩ (kL_cast (hL2.fa 11 rfl) (od22 w13)) (congrArg (fun z : List Int32 => z.getD l2_2.toNatClampNeg 0) (hL2.fa 12 rfl)) og14) (kj_meas (od23 s16 kod1) (od24 c5 kod121) hm2)
            by_cases w17 : ((a2 11).getD l2_2.toNatClampNeg 0).toInt = 1
            ·
              refine ft_swx mi_k21 (pc := 48) (v := 1) (t := 117) (kj_eq w17 (by decide) : ((a2 11).getD l2_2.toNatClampNeg 0) = 1) (by decide +kernel) ?_
              first | refine ft_go mi_k21 2 120 [(2, .int (l2_2 + 1)), (5, .int ((a2 12).getD l2_2.toNatClampNeg 0)), (4, .int ((a2 11).getD l2_2.toNatClampNeg 0)), (3, .int l3_2), (0, .ref 10), (1, .ref 24)] [.int ((a2 12).getD l2_2.toNatClampNeg 0), .ref 10] i2 a2 q2 r2 (by rfl) ?_ | refine ko_steps mi_in21 2 _ (120, [(2, .int (l2_2 + 1)), (5, .int ((a2 12).getD l2_2.toNatClampNeg 0)), (4, .int ((a2 11).getD l2_2.toNatClampNeg 0)), (3, .int l3_2), (0, .ref 10), (1, .ref 24)], [.int ((a2 12).getD l2_2.toNatClampNeg 0), .ref 10], (0, 0), ks i2 a2 q2 r2) (by rfl) ?_
              refine ft_if mi_k21 (decide (((a2 12).getD l2_2.toNatClampNeg 0) < 0)) 137 123 [(2, .int (l2_2 + 1)), (5, .int ((a2 12).getD l2_2.toNatClampNeg 0)), (4, .int ((a2 11).getD l2_2.toNatClampNeg 0)), (3, .int l3_2), (0, .ref 10), (1, .ref 24)] [.ref 10] (by rfl) (fun c => ?_) (fun c => ?_)
              ·
                have c18 : ((a2 12).getD l2_2.toNatClampNeg 0).toInt < (0 : Int32).toInt := kd_lt c; clear c
                first | refine ft_go mi_k21 1 138 [(2, .int (l2_2 + 1)), (5, .int ((a2 12).getD l2_2.toNatClampNeg 0)), (4, .int ((a2 11).getD l2_2.toNatClampNeg 0)), (3, .int l3_2), (0, .ref 10), (1, .ref 24)] [.int 0, .ref 10] i2 a2 q2 r2 (by rfl) ?_ | refine ko_steps mi_in21 1 _ (138, [(2, .int (l2_2 + 1)), (5, .int ((a2 12).getD l2_2.toNatClampNeg 0)), (4, .int ((a2 11).getD l2_2.toNatClampNeg 0)), (3, .int l3_2), (0, .ref 10), (1, .ref 24)], [.int 0, .ref 10], (0, 0), ks i2 a2 q2 r2) (by rfl) ?_
                refine ko_callN mi_k21.1 (pc := 138) (ls := [(2, .int (l2_2 + 1)), (5, .int ((a2 12).getD l2_2.toNatClampNeg 0)), (4, .int ((a2 11).getD l2_2.toNatClampNeg 0)), (3, .int l3_2), (0, .ref 10), (1, .ref 24)]) (st := [.int 0, .ref 10]) (h := ks i2 a2 q2 r2) (i := (.invokevirtual 32, 3, 19, 0, 9, 0, 225)) (mi_k21.2 _ _ (by rfl)) (ft_invS mi_pq19 (by rfl)) (cy := mi_c19) mi_pq19 rfl (ke19_10 hL2.I hL2.R 0) (by decide) ?_
                intro ig19 ag19 qg19 rg19 kg19 hg19
                have hGg19 := kG_call hL2 kg19 (by decide +kernel)
                obtain ⟨hg19, og19⟩ := hg19
                have fi2_645 : ((0 : Int) ≤ (i2 645).toInt) ∧ ((i2 645).toInt ≤ 121) := hL2.I.1 645
                have fig19_645 : ((0 : Int) ≤ (ig19 645).toInt) ∧ ((ig19 645).toInt ≤ 121) := hGg19.I.1 645
                have z20 : (((i2 645).toInt ≤ 120) ∧ ((ig19 645).toInt = ((i2 645).toInt + 1))) ∨ (((121 : Int) ≤ (i2 645).toInt) ∧ ((ig19 645).toInt = (i2 645).toInt)) := hg19
                have s21 : (l3_2 + 1).toInt = l3_2.toInt + (1 : Int32).toInt := kd_add (od13 p2_0 kod1) (od19 c5 kod121 kod1)
                first | refine ft_go mi_k21 3 9 [(3, .int (l3_2 + 1)), (2, .int (l2_2 + 1)), (5, .int ((a2 12).getD l2_2.toNatClampNeg 0)), (4, .int ((a2 11).getD l2_2.toNatClampNeg 0)), (0, .ref 10), (1, .ref 24)] [] ig19 ag19 qg19 rg19 (by rfl) ?_ | refine ko_steps mi_in21 3 _ (9, [(3, .int (l3_2 + 1)), (2, .int (l2_2 + 1)), (5, .int ((a2 12).getD l2_2.toNatClampNeg 0)), (4, .int ((a2 11).getD l2_2.toNatClampNeg 0)), (0, .ref 10), (1, .ref 24)], [], (0, 0), ks ig19 ag19 qg19 rg19) (by rfl) ?_
                refine ko_perm [(3, .int (l3_2 + 1)), (2, .int (l2_2 + 1)), (0, .ref 10), (1, .ref 24)] (List.forall_mem_cons.mpr ⟨(List.Mem.head _), (List.forall_mem_cons.mpr ⟨(List.Mem.tail _ (List.Mem.head _)), (List.forall_mem_cons.mpr ⟨(List.Mem.tail _ (List.Mem.tail _ (List.Mem.tail _ (List.Mem.tail _ (List.Mem.head _))))), (List.forall_mem_cons.mpr ⟨(List.Mem.tail _ (List.Mem.tail _ (List.Mem.tail _ (List.Mem.tail _ (List.Mem.tail _ (List.Mem.head _)))))), (fun _ h => absurd h List.not_mem_nil)⟩)⟩)⟩)⟩) ?_
                exact ih2 _ _ _ _ _ _ hGg19 (od15 p2_0 s21 kod1) (lRun_name O2_0 (kj_left (od12 c5 kod121) (od21 s21 kod1)) ⟨(od5 c8 kod0), (od20 c11 efi2_643)⟩ (kL_cast (hL2.fa 11 rfl) (od25 w17)) (by have k0_ : (0 : Int32).toInt = 0 := (by decide); have k6_ : (6 : Int32).toInt = 6 := (by decide); rw [← ((hL2.fa 12 rfl) : a2 12 = a 12), ← ((hL2.fa 24 rfl) : a2 24 = a 24)]; split <;> first | rfl | (exfalso; omega)) og19) (kj_meas (od23 s21 kod1) (od24 c5 kod121) hm2)
              ·
                have c22 : (0 : Int32).toInt ≤ ((a2 12).getD l2_2.toNatClampNeg 0).toInt := kd_ltF c; clear c
                first | refine ft_go mi_k21 2 126 [(2, .int (l2_2 + 1)), (5, .int ((a2 12).getD l2_2.toNatClampNeg 0)), (4, .int ((a2 11).getD l2_2.toNatClampNeg 0)), (3, .int l3_2), (0, .ref 10), (1, .ref 24)] [.ref 24, .int ((a2 12).getD l2_2.toNatClampNeg 0), .ref 10] i2 a2 q2 r2 (by rfl) ?_ | refine ko_steps mi_in21 2 _ (126, [(2, .int (l2_2 + 1)), (5, .int ((a2 12).getD l2_2.toNatClampNeg 0)), (4, .int ((a2 11).getD l2_2.toNatClampNeg 0)), (3, .int l3_2), (0, .ref 10), (1, .ref 24)], [.ref 24, .int ((a2 12).getD l2_2.toNatClampNeg 0), .ref 10], (0, 0), ks i2 a2 q2 r2) (by rfl) ?_
                refine ko_alen mi_k21.1 (l := a2 24) (ax := (0, 0, 0, 0, 0)) (x := 6) (mi_k21.2 _ _ (by rfl)) (by rfl) (by rfl) (by rw [(hL2.I.2.1 24 : (a2 24).length = _)]; rfl) ?_
                refine ft_if mi_k21 (decide (6 ≤ ((a2 12).getD l2_2.toNatClampNeg 0))) 137 130 [(2, .int (l2_2 + 1)), (5, .int ((a2 12).getD l2_2.toNatClampNeg 0)), (4, .int ((a2 11).getD l2_2.toNatClampNeg 0)), (3, .int l3_2), (0, .ref 10), (1, .ref 24)] [.ref 10] (by rfl) (fun c => ?_) (fun c => ?_)
                ·
                  have c23 : (6 : Int32).toInt ≤ ((a2 12).getD l2_2.toNatClampNeg 0).toInt := kd_le c; clear c
                  first | refine ft_go mi_k21 1 138 [(2, .int (l2_2 + 1)), (5, .int ((a2 12).getD l2_2.toNatClampNeg 0)), (4, .int ((a2 11).getD l2_2.toNatClampNeg 0)), (3, .int l3_2), (0, .ref 10), (1, .ref 24)] [.int 0, .ref 10] i2 a2 q2 r2 (by rfl) ?_ | refine ko_steps mi_in21 1 _ (138, [(2, .int (l2_2 + 1)), (5, .int ((a2 12).getD l2_2.toNatClampNeg 0)), (4, .int ((a2 11).getD l2_2.toNatClampNeg 0)), (3, .int l3_2), (0, .ref 10), (1, .ref 24)], [.int 0, .ref 10], (0, 0), ks i2 a2 q2 r2) (by rfl) ?_
                  refine ko_callN mi_k21.1 (pc := 138) (ls := [(2, .int (l2_2 + 1)), (5, .int ((a2 12).getD l2_2.toNatClampNeg 0)), (4, .int ((a2 11).getD l2_2.toNatClampNeg 0)), (3, .int l3_2), (0, .ref 10), (1, .ref 24)]) (st := [.int 0, .ref 10]) (h := ks i2 a2 q2 r2) (i := (.invokevirtual 32, 3, 19, 0, 9, 0, 225)) (mi_k21.2 _ _ (by rfl)) (ft_invS mi_pq19 (by rfl)) (cy := mi_c19) mi_pq19 rfl (ke19_10 hL2.I hL2.R 0) (by decide) ?_
                  intro ig24 ag24 qg24 rg24 kg24 hg24
                  have hGg24 := kG_call hL2 kg24 (by decide +kernel)
                  obtain ⟨hg24, og24⟩ := hg24
                  have fi2_645 : ((0 : Int) ≤ (i2 645).toInt) ∧ ((i2 645).toInt ≤ 121) := hL2.I.1 645
                  have fig24_645 : ((0 : Int) ≤ (ig24 645).toInt) ∧ ((ig24 645).toInt ≤ 121) := hGg24.I.1 645
                  have z25 : (((i2 645).toInt ≤ 120) ∧ ((ig24 645).toInt = ((i2 645).toInt + 1))) ∨ (((121 : Int) ≤ (i2 645).toInt) ∧ ((ig24 645).toInt = (i2 645).toInt)) := hg24
                  have s26 : (l3_2 + 1).toInt = l3_2.toInt + (1 : Int32).toInt := kd_add (od13 p2_0 kod1) (od19 c5 kod121 kod1)
                  first | refine ft_go mi_k21 3 9 [(3, .int (l3_2 + 1)), (2, .int (l2_2 + 1)), (5, .int ((a2 12).getD l2_2.toNatClampNeg 0)), (4, .int ((a2 11).getD l2_2.toNatClampNeg 0)), (0, .ref 10), (1, .ref 24)] [] ig24 ag24 qg24 rg24 (by rfl) ?_ | refine ko_steps mi_in21 3 _ (9, [(3, .int (l3_2 + 1)), (2, .int (l2_2 + 1)), (5, .int ((a2 12).getD l2_2.toNatClampNeg 0)), (4, .int ((a2 11).getD l2_2.toNatClampNeg 0)), (0, .ref 10), (1, .ref 24)], [], (0, 0), ks ig24 ag24 qg24 rg24) (by rfl) ?_
                  refine ko_perm [(3, .int (l3_2 + 1)), (2, .int (l2_2 + 1)), (0, .ref 10), (1, .ref 24)] (List.forall_mem_cons.mpr ⟨(List.Mem.head _), (List.forall_mem_cons.mpr ⟨(List.Mem.tail _ (List.Mem.head _)), (List.forall_mem_cons.mpr ⟨(List.Mem.tail _ (List.Mem.tail _ (List.Mem.tail _ (List.Mem.tail _ (List.Mem.head _))))), (List.forall_mem_cons.mpr ⟨(List.Mem.tail _ (List.Mem.tail _ (List.Mem.tail _ (List.Mem.tail _ (List.Mem.tail _ (List.Mem.head _)))))), (fun _ h => absurd h List.not_mem_nil)⟩)⟩)⟩)⟩) ?_
                  exact ih2 _ _ _ _ _ _ hGg24 (od15 p2_0 s26 kod1) (lRun_name O2_0 (kj_left (od12 c5 kod121) (od21 s26 kod1)) ⟨(od5 c8 kod0), (od20 c11 efi2_643)⟩ (kL_cast (hL2.fa 11 rfl) (od25 w17)) (by have k0_ : (0 : Int32).toInt = 0 := (by decide); have k6_ : (6 : Int32).toInt = 6 := (by decide); rw [← ((hL2.fa 12 rfl) : a2 12 = a 12), ← ((hL2.fa 24 rfl) : a2 24 = a 24)]; split <;> first | rfl | (exfalso; omega)) og24) (kj_meas (od23 s26 kod1) (od24 c5 kod121) hm2)
                ·
                  have c27 : ((a2 12).getD l2_2.toNatClampNeg 0).toInt < (6 : Int32).toInt := kd_leF c; clear c
                  first | refine ft_go mi_k21 2 133 [(2, .int (l2_2 + 1)), (5, .int ((a2 12).getD l2_2.toNatClampNeg 0)), (4, .int ((a2 11).getD l2_2.toNatClampNeg 0)), (3, .int l3_2), (0, .ref 10), (1, .ref 24)] [.int ((a2 12).getD l2_2.toNatClampNeg 0), .ref 24, .ref 10] i2 a2 q2 r2 (by rfl) ?_ | refine ko_steps mi_in21 2 _ (133, [(2, .int (l2_2 + 1)), (5, .int ((a2 12).getD l2_2.toNatClampNeg 0)), (4, .int ((a2 11).getD l2_2.toNatClampNeg 0)), (3, .int l3_2), (0, .ref 10), (1, .ref 24)], [.int ((a2 12).getD l2_2.toNatClampNeg 0), .ref 24, .ref 10], (0, 0), ks i2 a2 q2 r2) (by rfl) ?_
                  refine ko_iald3 mi_k21.1 (n := 6) (c := 6) (ax := (0, 0, 0, 0, 0)) (mi_k21.2 _ _ (by rfl)) (by rfl) (ksG24 _ _ _ _) (hL2.I.2.1 24) rfl (od5 c22 kod0) (od26 c27 kod6) ?_
                  first | refine ft_go mi_k21 1 138 [(2, .int (l2_2 + 1)), (5, .int ((a2 12).getD l2_2.toNatClampNeg 0)), (4, .int ((a2 11).getD l2_2.toNatClampNeg 0)), (3, .int l3_2), (0, .ref 10), (1, .ref 24)] [.int ((a2 24).getD ((a2 12).getD l2_2.toNatClampNeg 0).toNatClampNeg 0), .ref 10] i2 a2 q2 r2 (by rfl) ?_ | refine ko_steps mi_in21 1 _ (138, [(2, .int (l2_2 + 1)), (5, .int ((a2 12).getD l2_2.toNatClampNeg 0)), (4, .int ((a2 11).getD l2_2.toNatClampNeg 0)), (3, .int l3_2), (0, .ref 10), (1, .ref 24)], [.int ((a2 24).getD ((a2 12).getD l2_2.toNatClampNeg 0).toNatClampNeg 0), .ref 10], (0, 0), ks i2 a2 q2 r2) (by rfl) ?_
                  refine ko_callN mi_k21.1 (pc := 138) (ls := [(2, .int (l2_2 + 1)), (5, .int ((a2 12).getD l2_2.toNatClampNeg 0)), (4, .int ((a2 11).getD l2_2.toNatClampNeg 0)), (3, .int l3_2), (0, .ref 10), (1, .ref 24)]) (st := [.int ((a2 24).getD ((a2 12).getD l2_2.toNatClampNeg 0).toNatClampNeg 0), .ref 10]) (h := ks i2 a2 q2 r2) (i := (.invokevirtual 32, 3, 19, 0, 9, 0, 225)) (mi_k21.2 _ _ (by rfl)) (ft_invS mi_pq19 (by rfl)) (cy := mi_c19) mi_pq19 rfl (ke19_10 hL2.I hL2.R ((a2 24).getD ((a2 12).getD l2_2.toNatClampNeg 0).toNatClampNeg 0)) (by decide) ?_
                  intro ig28 ag28 qg28 rg28 kg28 hg28
                  have hGg28 := kG_call hL2 kg28 (by decide +kernel)
                  obtain ⟨hg28, og28⟩ := hg28
                  have fi2_645 : ((0 : Int) ≤ (i2 645).toInt) ∧ ((i2 645).toInt ≤ 121) := hL2.I.1 645
                  have fig28_645 : ((0 : Int) ≤ (ig28 645).toInt) ∧ ((ig28 645).toInt ≤ 121) := hGg28.I.1 645
                  have z29 : (((i2 645).toInt ≤ 120) ∧ ((ig28 645).toInt = ((i2 645).toInt + 1))) ∨ (((121 : Int) ≤ (i2 645).toInt) ∧ ((ig28 645).toInt = (i2 645).toInt)) := hg28
                  have s30 : (l3_2 + 1).toInt = l3_2.toInt + (1 : Int32).toInt := kd_add (od13 p2_0 kod1) (od19 c5 kod121 kod1)
                  first | refine ft_go mi_k21 3 9 [(3, .int (l3_2 + 1)), (2, .int (l2_2 + 1)), (5, .int ((a2 12).getD l2_2.toNatClampNeg 0)), (4, .int ((a2 11).getD l2_2.toNatClampNeg 0)), (0, .ref 10), (1, .ref 24)] [] ig28 ag28 qg28 rg28 (by rfl) ?_ | refine ko_steps mi_in21 3 _ (9, [(3, .int (l3_2 + 1)), (2, .int (l2_2 + 1)), (5, .int ((a2 12).getD l2_2.toNatClampNeg 0)), (4, .int ((a2 11).getD l2_2.toNatClampNeg 0)), (0, .ref 10), (1, .ref 24)], [], (0, 0), ks ig28 ag28 qg28 rg28) (by rfl) ?_
                  refine ko_perm [(3, .int (l3_2 + 1)), (2, .int (l2_2 + 1)), (0, .ref 10), (1, .ref 24)] (List.forall_mem_cons.mpr ⟨(List.Mem.head _), (List.forall_mem_cons.mpr ⟨(List.Mem.tail _ (List.Mem.head _)), (List.forall_mem_cons.mpr ⟨(List.Mem.tail _ (List.Mem.tail _ (List.Mem.tail _ (List.Mem.tail _ (List.Mem.head _))))), (List.forall_mem_cons.mpr ⟨(List.Mem.tail _ (List.Mem.tail _ (List.Mem.tail _ (List.Mem.tail _ (List.Mem.tail _ (List.Mem.head _)))))), (fun _ h => absurd h List.not_mem_nil)⟩)⟩)⟩)⟩) ?_
                  exact ih2 _ _ _ _ _ _ hGg28 (od15 p2_0 s30 kod1) (lRun_name O2_0 (kj_left (od12 c5 kod121) (od21 s30 kod1)) ⟨(od5 c8 kod0), (od20 c11 efi2_643)⟩ (kL_cast (hL2.fa 11 rfl) (od25 w17)) (by have k0_ : (0 : Int32).toInt = 0 := (by decide); have k6_ : (6 : Int32).toInt = 6 := (by decide); rw [← ((hL2.fa 12 rfl) : a2 12 = a 12), ← ((hL2.fa 24 rfl) : a2 24 = a 24)]; split <;> first | rfl | (exfalso; omega)) og28) (kj_meas (od23 s30 kod1) (od24 c5 kod121) hm2)
            by_cases w31 : ((a2 11).getD l2_2.toNatClampNeg 0).toInt = 2
            ·
              refine ft_swx mi_k21 (pc := 48) (v := 2) (t := 144) (kj_eq w31 (by decide) : ((a2 11).getD l2_2.toNatClampNeg 0) = 2) (by decide +kernel) ?_
              have hG32 := kG_call hJ1 hL2 (by decide +kernel)
              first | refine ft_go mi_k21 1 145 [(2, .int (l2_2 + 1)), (5, .int ((a2 12).getD l2_2.toNatClampNeg 0)), (4, .int ((a2 11).getD l2_2.toNatClampNeg 0)), (3, .int l3_2), (0, .ref 10), (1, .ref 24)] [.ref 10] i2 a2 q2 r2 (by rfl) ?_ | refine ko_steps mi_in21 1 _ (145, [(2, .int (l2_2 + 1)), (5, .int ((a2 12).getD l2_2.toNatClampNeg 0)), (4, .int ((a2 11).getD l2_2.toNatClampNeg 0)), (3, .int l3_2), (0, .ref 10), (1, .ref 24)], [.ref 10], (0, 0), ks i2 a2 q2 r2) (by rfl) ?_
              refine ko_callI mi_k21.1 (pc := 145) (ls := [(2, .int (l2_2 + 1)), (5, .int ((a2 12).getD l2_2.toNatClampNeg 0)), (4, .int ((a2 11).getD l2_2.toNatClampNeg 0)), (3, .int l3_2), (0, .ref 10), (1, .ref 24)]) (st := [.ref 10]) (h := ks i2 a2 q2 r2) (i := (.invokevirtual 36, 3, 20, 0, 9, 0, 226)) (mi_k21.2 _ _ (by rfl)) (ft_invS mi_pq20 (by rfl)) (cy := mi_c20) mi_pq20 rfl (ke20_10 hG32.I hG32.R ) (by decide) ?_
              intro vg33 ig33 ag33 qg33 rg33 kg33 hg33
              have hGg33 := kG_call hG32 kg33 (by decide +kernel)
              obtain ⟨hg33, og33⟩ := hg33
              exact ft_ret mi_k21 (by rfl) (hP vg33 _ _ _ _ hGg33 ⟨trivial, (show vg33 = lRun (a 11) (a 12) (a 24) (i 643) 121 0 (a 13, 0) from (lRun_ans (n := (120 - l3_2.toInt).toNat) O2_0 (kj_left2 (od12 c5 kod121)) ⟨(od5 c8 kod0), (od20 c11 efi2_643)⟩ (kL_cast (hL2.fa 11 rfl) (od36 w31)) og33))⟩)
            by_cases w35 : ((a2 11).getD l2_2.toNatClampNeg 0).toInt = 3
            ·
              refine ft_swx mi_k21 (pc := 48) (v := 3) (t := 149) (kj_eq w35 (by decide) : ((a2 11).getD l2_2.toNatClampNeg 0) = 3) (by decide +kernel) ?_
              first | refine ft_go mi_k21 1 150 [(2, .int (l2_2 + 1)), (5, .int ((a2 12).getD l2_2.toNatClampNeg 0)), (4, .int ((a2 11).getD l2_2.toNatClampNeg 0)), (3, .int l3_2), (0, .ref 10), (1, .ref 24)] [.ref 10] i2 a2 q2 r2 (by rfl) ?_ | refine ko_steps mi_in21 1 _ (150, [(2, .int (l2_2 + 1)), (5, .int ((a2 12).getD l2_2.toNatClampNeg 0)), (4, .int ((a2 11).getD l2_2.toNatClampNeg 0)), (3, .int l3_2), (0, .ref 10), (1, .ref 24)], [.ref 10], (0, 0), ks i2 a2 q2 r2) (by rfl) ?_
              refine ko_callI mi_k21.1 (pc := 150) (ls := [(2, .int (l2_2 + 1)), (5, .int ((a2 12).getD l2_2.toNatClampNeg 0)), (4, .int ((a2 11).getD l2_2.toNatClampNeg 0)), (3, .int l3_2), (0, .ref 10), (1, .ref 24)]) (st := [.ref 10]) (h := ks i2 a2 q2 r2) (i := (.invokevirtual 36, 3, 20, 0, 9, 0, 226)) (mi_k21.2 _ _ (by rfl)) (ft_invS mi_pq20 (by rfl)) (cy := mi_c20) mi_pq20 rfl (ke20_10 hL2.I hL2.R ) (by decide) ?_
              intro vg36 ig36 ag36 qg36 rg36 kg36 hg36
              have hGg36 := kG_call hL2 kg36 (by decide +kernel)
              obtain ⟨hg36, og36⟩ := hg36
              have fi2_645 : ((0 : Int) ≤ (i2 645).toInt) ∧ ((i2 645).toInt ≤ 121) := hL2.I.1 645
              have fig36_645 : ((0 : Int) ≤ (ig36 645).toInt) ∧ ((ig36 645).toInt ≤ 121) := hGg36.I.1 645
              have z37 : (((1 : Int) ≤ (i2 645).toInt) ∧ ((ig36 645).toInt = ((i2 645).toInt - 1))) ∨ (((i2 645).toInt ≤ 0) ∧ ((ig36 645).toInt = (i2 645).toInt)) := hg36
              refine ft_if mi_k21 (vg36 != 0) 214 156 [(2, .int (l2_2 + 1)), (5, .int ((a2 12).getD l2_2.toNatClampNeg 0)), (4, .int ((a2 11).getD l2_2.toNatClampNeg 0)), (3, .int l3_2), (0, .ref 10), (1, .ref 24)] [] (by rfl) (fun c => ?_) (fun c => ?_)
              ·
                have c38 : vg36.toInt ≠ (0 : Int32).toInt := kd_ne c; clear c
                have s39 : (l3_2 + 1).toInt = l3_2.toInt + (1 : Int32).toInt := kd_add (od13 p2_0 kod1) (od19 c5 kod121 kod1)
                first | refine ft_go mi_k21 2 9 [(3, .int (l3_2 + 1)), (2, .int (l2_2 + 1)), (5, .int ((a2 12).getD l2_2.toNatClampNeg 0)), (4, .int ((a2 11).getD l2_2.toNatClampNeg 0)), (0, .ref 10), (1, .ref 24)] [] ig36 ag36 qg36 rg36 (by rfl) ?_ | refine ko_steps mi_in21 2 _ (9, [(3, .int (l3_2 + 1)), (2, .int (l2_2 + 1)), (5, .int ((a2 12).getD l2_2.toNatClampNeg 0)), (4, .int ((a2 11).getD l2_2.toNatClampNeg 0)), (0, .ref 10), (1, .ref 24)], [], (0, 0), ks ig36 ag36 qg36 rg36) (by rfl) ?_
                refine ko_perm [(3, .int (l3_2 + 1)), (2, .int (l2_2 + 1)), (0, .ref 10), (1, .ref 24)] (List.forall_mem_cons.mpr ⟨(List.Mem.head _), (List.forall_mem_cons.mpr ⟨(List.Mem.tail _ (List.Mem.head _)), (List.forall_mem_cons.mpr ⟨(List.Mem.tail _ (List.Mem.tail _ (List.Mem.tail _ (List.Mem.tail _ (List.Mem.head _))))), (List.forall_mem_cons.mpr ⟨(List.Mem.tail _ (List.Mem.tail _ (List.Mem.tail _ (List.Mem.tail _ (List.Mem.tail _ (List.Mem.head _)))))), (fun _ h => absurd h List.not_mem_nil)⟩)⟩)⟩)⟩) ?_
                exact ih2 _ _ _ _ _ _ hGg36 (od15 p2_0 s39 kod1) (lRun_skip O2_0 (kj_left (od12 c5 kod121) (od21 s39 kod1)) ⟨(od5 c8 kod0), (od20 c11 efi2_643)⟩ (kL_cast (hL2.fa 11 rfl) (od37 w35)) og36 (by have k0_ : (0 : Int32).toInt = 0 := (by decide); have k6_ : (6 : Int32).toInt = 6 := (by decide); rw [← ((hL2.fa 12 rfl) : a2 12 = a 12)]; split <;> first | rfl | (exfalso; omega))) (kj_meas (od23 s39 kod1) (od24 c5 kod121) hm2)
              ·
                have c40 : vg36.toInt = (0 : Int32).toInt := kd_neF c; clear c
                have s41 : (l3_2 + 1).toInt = l3_2.toInt + (1 : Int32).toInt := kd_add (od13 p2_0 kod1) (od19 c5 kod121 kod1)
                first | refine ft_go mi_k21 5 9 [(3, .int (l3_2 + 1)), (2, .int ((a2 12).getD l2_2.toNatClampNeg 0)), (5, .int ((a2 12).getD l2_2.toNatClampNeg 0)), (4, .int ((a2 11).getD l2_2.toNatClampNeg 0)), (0, .ref 10), (1, .ref 24)] [] ig36 ag36 qg36 rg36 (by rfl) ?_ | refine ko_steps mi_in21 5 _ (9, [(3, .int (l3_2 + 1)), (2, .int ((a2 12).getD l2_2.toNatClampNeg 0)), (5, .int ((a2 12).getD l2_2.toNatClampNeg 0)), (4, .int ((a2 11).getD l2_2.toNatClampNeg 0)), (0, .ref 10), (1, .ref 24)], [], (0, 0), ks ig36 ag36 qg36 rg36) (by rfl) ?_
                refine ko_perm [(3, .int (l3_2 + 1)), (2, .int ((a2 12).getD l2_2.toNatClampNeg 0)), (0, .ref 10), (1, .ref 24)] (List.forall_mem_cons.mpr ⟨(List.Mem.head _), (List.forall_mem_cons.mpr ⟨(List.Mem.tail _ (List.Mem.head _)), (List.forall_mem_cons.mpr ⟨(List.Mem.tail _ (List.Mem.tail _ (List.Mem.tail _ (List.Mem.tail _ (List.Mem.head _))))), (List.forall_mem_cons.mpr ⟨(List.Mem.tail _ (List.Mem.tail _ (List.Mem.tail _ (List.Mem.tail _ (List.Mem.tail _ (List.Mem.head _)))))), (fun _ h => absurd h List.not_mem_nil)⟩)⟩)⟩)⟩) ?_
                exact ih2 _ _ _ _ _ _ hGg36 (od15 p2_0 s41 kod1) (lRun_skip O2_0 (kj_left (od12 c5 kod121) (od21 s41 kod1)) ⟨(od5 c8 kod0), (od20 c11 efi2_643)⟩ (kL_cast (hL2.fa 11 rfl) (od37 w35)) og36 (by have k0_ : (0 : Int32).toInt = 0 := (by decide); have k6_ : (6 : Int32).toInt = 6 := (by decide); rw [← ((hL2.fa 12 rfl) : a2 12 = a 12)]; split <;> first | rfl | (exfalso; omega))) (kj_meas (od23 s41 kod1) (od24 c5 kod121) hm2)
            by_cases w42 : ((a2 11).getD l2_2.toNatClampNeg 0).toInt = 33
            ·
              refine ft_swx mi_k21 (pc := 48) (v := 33) (t := 162) (kj_eq w42 (by decide) : ((a2 11).getD l2_2.toNatClampNeg 0) = 33) (by decide +kernel) ?_
              first | refine ft_go mi_k21 2 164 [(2, .int (l2_2 + 1)), (5, .int ((a2 12).getD l2_2.toNatClampNeg 0)), (4, .int ((a2 11).getD l2_2.toNatClampNeg 0)), (3, .int l3_2), (0, .ref 10), (1, .ref 24)] [.ref 10, .ref 10] i2 a2 q2 r2 (by rfl) ?_ | refine ko_steps mi_in21 2 _ (164, [(2, .int (l2_2 + 1)), (5, .int ((a2 12).getD l2_2.toNatClampNeg 0)), (4, .int ((a2 11).getD l2_2.toNatClampNeg 0)), (3, .int l3_2), (0, .ref 10), (1, .ref 24)], [.ref 10, .ref 10], (0, 0), ks i2 a2 q2 r2) (by rfl) ?_
              refine ko_callI mi_k21.1 (pc := 164) (ls := [(2, .int (l2_2 + 1)), (5, .int ((a2 12).getD l2_2.toNatClampNeg 0)), (4, .int ((a2 11).getD l2_2.toNatClampNeg 0)), (3, .int l3_2), (0, .ref 10), (1, .ref 24)]) (st := [.ref 10, .ref 10]) (h := ks i2 a2 q2 r2) (i := (.invokevirtual 36, 3, 20, 0, 9, 0, 226)) (mi_k21.2 _ _ (by rfl)) (ft_invS mi_pq20 (by rfl)) (cy := mi_c20) mi_pq20 rfl (ke20_10 hL2.I hL2.R ) (by decide) ?_
              intro vg43 ig43 ag43 qg43 rg43 kg43 hg43
              have hGg43 := kG_call hL2 kg43 (by decide +kernel)
              obtain ⟨hg43, og43⟩ := hg43
              have fi2_645 : ((0 : Int) ≤ (i2 645).toInt) ∧ ((i2 645).toInt ≤ 121) := hL2.I.1 645
              have fig43_645 : ((0 : Int) ≤ (ig43 645).toInt) ∧ ((ig43 645).toInt ≤ 121) := hGg43.I.1 645
              have z44 : (((1 : Int) ≤ (i2 645).toInt) ∧ ((ig43 645).toInt = ((i2 645).toInt - 1))) ∨ (((i2 645).toInt ≤ 0) ∧ ((ig43 645).toInt = (i2 645).toInt)) := hg43
              refine ft_if mi_k21 (vg43 != 0) 174 170 [(2, .int (l2_2 + 1)), (5, .int ((a2 12).getD l2_2.toNatClampNeg 0)), (4, .int ((a2 11).getD l2_2.toNatClampNeg 0)), (3, .int l3_2), (0, .ref 10), (1, .ref 24)] [.ref 10] (by rfl) (fun c => ?_) (fun c => ?_)
              ·
                have c45 : vg43.toInt ≠ (0 : Int32).toInt := kd_ne c; clear c
                first | refine ft_go mi_k21 1 175 [(2, .int (l2_2 + 1)), (5, .int ((a2 12).getD l2_2.toNatClampNeg 0)), (4, .int ((a2 11).getD l2_2.toNatClampNeg 0)), (3, .int l3_2), (0, .ref 10), (1, .ref 24)] [.int 0, .ref 10] ig43 ag43 qg43 rg43 (by rfl) ?_ | refine ko_steps mi_in21 1 _ (175, [(2, .int (l2_2 + 1)), (5, .int ((a2 12).getD l2_2.toNatClampNeg 0)), (4, .int ((a2 11).getD l2_2.toNatClampNeg 0)), (3, .int l3_2), (0, .ref 10), (1, .ref 24)], [.int 0, .ref 10], (0, 0), ks ig43 ag43 qg43 rg43) (by rfl) ?_
                refine ko_callN mi_k21.1 (pc := 175) (ls := [(2, .int (l2_2 + 1)), (5, .int ((a2 12).getD l2_2.toNatClampNeg 0)), (4, .int ((a2 11).getD l2_2.toNatClampNeg 0)), (3, .int l3_2), (0, .ref 10), (1, .ref 24)]) (st := [.int 0, .ref 10]) (h := ks ig43 ag43 qg43 rg43) (i := (.invokevirtual 32, 3, 19, 0, 9, 0, 225)) (mi_k21.2 _ _ (by rfl)) (ft_invS mi_pq19 (by rfl)) (cy := mi_c19) mi_pq19 rfl (ke19_10 hGg43.I hGg43.R 0) (by decide) ?_
                intro ig46 ag46 qg46 rg46 kg46 hg46
                have hGg46 := kG_call hGg43 kg46 (by decide +kernel)
                obtain ⟨hg46, og46⟩ := hg46
                have fig46_645 : ((0 : Int) ≤ (ig46 645).toInt) ∧ ((ig46 645).toInt ≤ 121) := hGg46.I.1 645
                have z47 : (((ig43 645).toInt ≤ 120) ∧ ((ig46 645).toInt = ((ig43 645).toInt + 1))) ∨ (((121 : Int) ≤ (ig43 645).toInt) ∧ ((ig46 645).toInt = (ig43 645).toInt)) := hg46
                have s48 : (l3_2 + 1).toInt = l3_2.toInt + (1 : Int32).toInt := kd_add (od13 p2_0 kod1) (od19 c5 kod121 kod1)
                first | refine ft_go mi_k21 3 9 [(3, .int (l3_2 + 1)), (2, .int (l2_2 + 1)), (5, .int ((a2 12).getD l2_2.toNatClampNeg 0)), (4, .int ((a2 11).getD l2_2.toNatClampNeg 0)), (0, .ref 10), (1, .ref 24)] [] ig46 ag46 qg46 rg46 (by rfl) ?_ | refine ko_steps mi_in21 3 _ (9, [(3, .int (l3_2 + 1)), (2, .int (l2_2 + 1)), (5, .int ((a2 12).getD l2_2.toNatClampNeg 0)), (4, .int ((a2 11).getD l2_2.toNatClampNeg 0)), (0, .ref 10), (1, .ref 24)], [], (0, 0), ks ig46 ag46 qg46 rg46) (by rfl) ?_
                refine ko_perm [(3, .int (l3_2 + 1)), (2, .int (l2_2 + 1)), (0, .ref 10), (1, .ref 24)] (List.forall_mem_cons.mpr ⟨(List.Mem.head _), (List.forall_mem_cons.mpr ⟨(List.Mem.tail _ (List.Mem.head _)), (List.forall_mem_cons.mpr ⟨(List.Mem.tail _ (List.Mem.tail _ (List.Mem.tail _ (List.Mem.tail _ (List.Mem.head _))))), (List.forall_mem_cons.mpr ⟨(List.Mem.tail _ (List.Mem.tail _ (List.Mem.tail _ (List.Mem.tail _ (List.Mem.tail _ (List.Mem.head _)))))), (fun _ h => absurd h List.not_mem_nil)⟩)⟩)⟩)⟩) ?_
                exact ih2 _ _ _ _ _ _ hGg46 (od15 p2_0 s48 kod1) (lRun_not O2_0 (kj_left (od12 c5 kod121) (od21 s48 kod1)) ⟨(od5 c8 kod0), (od20 c11 efi2_643)⟩ (kL_cast (hL2.fa 11 rfl) (od38 w42)) og43 (by have k0_ : (0 : Int32).toInt = 0 := (by decide); have k6_ : (6 : Int32).toInt = 6 := (by decide); split <;> first | rfl | (exfalso; omega)) og46) (kj_meas (od23 s48 kod1) (od24 c5 kod121) hm2)
              ·
                have c49 : vg43.toInt = (0 : Int32).toInt := kd_neF c; clear c
                first | refine ft_go mi_k21 2 175 [(2, .int (l2_2 + 1)), (5, .int ((a2 12).getD l2_2.toNatClampNeg 0)), (4, .int ((a2 11).getD l2_2.toNatClampNeg 0)), (3, .int l3_2), (0, .ref 10), (1, .ref 24)] [.int 1, .ref 10] ig43 ag43 qg43 rg43 (by rfl) ?_ | refine ko_steps mi_in21 2 _ (175, [(2, .int (l2_2 + 1)), (5, .int ((a2 12).getD l2_2.toNatClampNeg 0)), (4, .int ((a2 11).getD l2_2.toNatClampNeg 0)), (3, .int l3_2), (0, .ref 10), (1, .ref 24)], [.int 1, .ref 10], (0, 0), ks ig43 ag43 qg43 rg43) (by rfl) ?_
                refine ko_callN mi_k21.1 (pc := 175) (ls := [(2, .int (l2_2 + 1)), (5, .int ((a2 12).getD l2_2.toNatClampNeg 0)), (4, .int ((a2 11).getD l2_2.toNatClampNeg 0)), (3, .int l3_2), (0, .ref 10), (1, .ref 24)]) (st := [.int 1, .ref 10]) (h := ks ig43 ag43 qg43 rg43) (i := (.invokevirtual 32, 3, 19, 0, 9, 0, 225)) (mi_k21.2 _ _ (by rfl)) (ft_invS mi_pq19 (by rfl)) (cy := mi_c19) mi_pq19 rfl (ke19_10 hGg43.I hGg43.R 1) (by decide) ?_
                intro ig50 ag50 qg50 rg50 kg50 hg50
                have hGg50 := kG_call hGg43 kg50 (by decide +kernel)
                obtain ⟨hg50, og50⟩ := hg50
                have fig50_645 : ((0 : Int) ≤ (ig50 645).toInt) ∧ ((ig50 645).toInt ≤ 121) := hGg50.I.1 645
                have z51 : (((ig43 645).toInt ≤ 120) ∧ ((ig50 645).toInt = ((ig43 645).toInt + 1))) ∨ (((121 : Int) ≤ (ig43 645).toInt) ∧ ((ig50 645).toInt = (ig43 645).toInt)) := hg50
                have s52 : (l3_2 + 1).toInt = l3_2.toInt + (1 : Int32).toInt := kd_add (od13 p2_0 kod1) (od19 c5 kod121 kod1)
                first | refine ft_go mi_k21 3 9 [(3, .int (l3_2 + 1)), (2, .int (l2_2 + 1)), (5, .int ((a2 12).getD l2_2.toNatClampNeg 0)), (4, .int ((a2 11).getD l2_2.toNatClampNeg 0)), (0, .ref 10), (1, .ref 24)] [] ig50 ag50 qg50 rg50 (by rfl) ?_ | refine ko_steps mi_in21 3 _ (9, [(3, .int (l3_2 + 1)), (2, .int (l2_2 + 1)), (5, .int ((a2 12).getD l2_2.toNatClampNeg 0)), (4, .int ((a2 11).getD l2_2.toNatClampNeg 0)), (0, .ref 10), (1, .ref 24)], [], (0, 0), ks ig50 ag50 qg50 rg50) (by rfl) ?_
                refine ko_perm [(3, .int (l3_2 + 1)), (2, .int (l2_2 + 1)), (0, .ref 10), (1, .ref 24)] (List.forall_mem_cons.mpr ⟨(List.Mem.head _), (List.forall_mem_cons.mpr ⟨(List.Mem.tail _ (List.Mem.head _)), (List.forall_mem_cons.mpr ⟨(List.Mem.tail _ (List.Mem.tail _ (List.Mem.tail _ (List.Mem.tail _ (List.Mem.head _))))), (List.forall_mem_cons.mpr ⟨(List.Mem.tail _ (List.Mem.tail _ (List.Mem.tail _ (List.Mem.tail _ (List.Mem.tail _ (List.Mem.head _)))))), (fun _ h => absurd h List.not_mem_nil)⟩)⟩)⟩)⟩) ?_
                exact ih2 _ _ _ _ _ _ hGg50 (od15 p2_0 s52 kod1) (lRun_not O2_0 (kj_left (od12 c5 kod121) (od21 s52 kod1)) ⟨(od5 c8 kod0), (od20 c11 efi2_643)⟩ (kL_cast (hL2.fa 11 rfl) (od38 w42)) og43 (by have k0_ : (0 : Int32).toInt = 0 := (by decide); have k6_ : (6 : Int32).toInt = 6 := (by decide); split <;> first | rfl | (exfalso; omega)) og50) (kj_meas (od23 s52 kod1) (od24 c5 kod121) hm2)
            by_cases w53 : ((a2 11).getD l2_2.toNatClampNeg 0).toInt = 126
            ·
              refine ft_swx mi_k21 (pc := 48) (v := 126) (t := 181) (kj_eq w53 (by decide) : ((a2 11).getD l2_2.toNatClampNeg 0) = 126) (by decide +kernel) ?_
              first | refine ft_go mi_k21 2 183 [(2, .int (l2_2 + 1)), (5, .int ((a2 12).getD l2_2.toNatClampNeg 0)), (4, .int ((a2 11).getD l2_2.toNatClampNeg 0)), (3, .int l3_2), (0, .ref 10), (1, .ref 24)] [.ref 10, .ref 10] i2 a2 q2 r2 (by rfl) ?_ | refine ko_steps mi_in21 2 _ (183, [(2, .int (l2_2 + 1)), (5, .int ((a2 12).getD l2_2.toNatClampNeg 0)), (4, .int ((a2 11).getD l2_2.toNatClampNeg 0)), (3, .int l3_2), (0, .ref 10), (1, .ref 24)], [.ref 10, .ref 10], (0, 0), ks i2 a2 q2 r2) (by rfl) ?_
              refine ko_callI mi_k21.1 (pc := 183) (ls := [(2, .int (l2_2 + 1)), (5, .int ((a2 12).getD l2_2.toNatClampNeg 0)), (4, .int ((a2 11).getD l2_2.toNatClampNeg 0)), (3, .int l3_2), (0, .ref 10), (1, .ref 24)]) (st := [.ref 10, .ref 10]) (h := ks i2 a2 q2 r2) (i := (.invokevirtual 36, 3, 20, 0, 9, 0, 226)) (mi_k21.2 _ _ (by rfl)) (ft_invS mi_pq20 (by rfl)) (cy := mi_c20) mi_pq20 rfl (ke20_10 hL2.I hL2.R ) (by decide) ?_
              intro vg54 ig54 ag54 qg54 rg54 kg54 hg54
              have hGg54 := kG_call hL2 kg54 (by decide +kernel)
              obtain ⟨hg54, og54⟩ := hg54
              first | refine ft_go mi_k21 1 187 [(2, .int (l2_2 + 1)), (5, .int ((a2 12).getD l2_2.toNatClampNeg 0)), (4, .int ((a2 11).getD l2_2.toNatClampNeg 0)), (3, .int l3_2), (0, .ref 10), (1, .ref 24)] [.int (-vg54), .ref 10] ig54 ag54 qg54 rg54 (by rfl) ?_ | refine ko_steps mi_in21 1 _ (187, [(2, .int (l2_2 + 1)), (5, .int ((a2 12).getD l2_2.toNatClampNeg 0)), (4, .int ((a2 11).getD l2_2.toNatClampNeg 0)), (3, .int l3_2), (0, .ref 10), (1, .ref 24)], [.int (-vg54), .ref 10], (0, 0), ks ig54 ag54 qg54 rg54) (by rfl) ?_
              refine ko_callN mi_k21.1 (pc := 187) (ls := [(2, .int (l2_2 + 1)), (5, .int ((a2 12).getD l2_2.toNatClampNeg 0)), (4, .int ((a2 11).getD l2_2.toNatClampNeg 0)), (3, .int l3_2), (0, .ref 10), (1, .ref 24)]) (st := [.int (-vg54), .ref 10]) (h := ks ig54 ag54 qg54 rg54) (i := (.invokevirtual 32, 3, 19, 0, 9, 0, 225)) (mi_k21.2 _ _ (by rfl)) (ft_invS mi_pq19 (by rfl)) (cy := mi_c19) mi_pq19 rfl (ke19_10 hGg54.I hGg54.R (-vg54)) (by decide) ?_
              intro ig56 ag56 qg56 rg56 kg56 hg56
              have hGg56 := kG_call hGg54 kg56 (by decide +kernel)
              obtain ⟨hg56, og56⟩ := hg56
              have s58 : (l3_2 + 1).toInt = l3_2.toInt + (1 : Int32).toInt := kd_add (od13 p2_0 kod1) (od19 c5 kod121 kod1)
              first | refine ft_go mi_k21 3 9 [(3, .int (l3_2 + 1)), (2, .int (l2_2 + 1)), (5, .int ((a2 12).getD l2_2.toNatClampNeg 0)), (4, .int ((a2 11).getD l2_2.toNatClampNeg 0)), (0, .ref 10), (1, .ref 24)] [] ig56 ag56 qg56 rg56 (by rfl) ?_ | refine ko_steps mi_in21 3 _ (9, [(3, .int (l3_2 + 1)), (2, .int (l2_2 + 1)), (5, .int ((a2 12).getD l2_2.toNatClampNeg 0)), (4, .int ((a2 11).getD l2_2.toNatClampNeg 0)), (0, .ref 10), (1, .ref 24)], [], (0, 0), ks ig56 ag56 qg56 rg56) (by rfl) ?_
              refine ko_perm [(3, .int (l3_2 + 1)), (2, .int (l2_2 + 1)), (0, .ref 10), (1, .ref 24)] (List.forall_mem_cons.mpr ⟨(List.Mem.head _), (List.forall_mem_cons.mpr ⟨(List.Mem.tail _ (List.Mem.head _)), (List.forall_mem_cons.mpr ⟨(List.Mem.tail _ (List.Mem.tail _ (List.Mem.tail _ (List.Mem.tail _ (List.Mem.head _))))), (List.forall_mem_cons.mpr ⟨(List.Mem.tail _ (List.Mem.tail _ (List.Mem.tail _ (List.Mem.tail _ (List.Mem.tail _ (List.Mem.head _)))))), (fun _ h => absurd h List.not_mem_nil)⟩)⟩)⟩)⟩) ?_
              exact ih2 _ _ _ _ _ _ hGg56 (od15 p2_0 s58 kod1) (lRun_neg O2_0 (kj_left (od12 c5 kod121) (od21 s58 kod1)) ⟨(od5 c8 kod0), (od20 c11 efi2_643)⟩ (kL_cast (hL2.fa 11 rfl) (od39 w53)) og54 rfl og56) (kj_meas (od23 s58 kod1) (od24 c5 kod121) hm2)
            refine ko_lsw (ls := [(2, .int (l2_2 + 1)), (5, .int ((a2 12).getD l2_2.toNatClampNeg 0)), (4, .int ((a2 11).getD l2_2.toNatClampNeg 0)), (3, .int l3_2), (0, .ref 10), (1, .ref 24)]) (r := []) (h := ks i2 a2 q2 r2) mi_in21 (v := ((a2 11).getD l2_2.toNatClampNeg 0)) (i := (.lookupswitch 145 #[(0, 60), (1, 69), (2, 96), (3, 101), (33, 114), (126, 133)], 60, 0, 0, 0, 0, 0)) (by rfl) rfl (by simp only [Op.lookupswitch.offset, if_neg (Ne.symm w13), if_neg (Ne.symm w17), if_neg (Ne.symm w31), if_neg (Ne.symm w35), if_neg (Ne.symm w42), if_neg (Ne.symm w53)] <;> rfl) 193 (by rfl) ?_
            first | refine ft_go mi_k21 1 194 [(2, .int (l2_2 + 1)), (5, .int ((a2 12).getD l2_2.toNatClampNeg 0)), (4, .int ((a2 11).getD l2_2.toNatClampNeg 0)), (3, .int l3_2), (0, .ref 10), (1, .ref 24)] [.ref 10] i2 a2 q2 r2 (by rfl) ?_ | refine ko_steps mi_in21 1 _ (194, [(2, .int (l2_2 + 1)), (5, .int ((a2 12).getD l2_2.toNatClampNeg 0)), (4, .int ((a2 11).getD l2_2.toNatClampNeg 0)), (3, .int l3_2), (0, .ref 10), (1, .ref 24)], [.ref 10], (0, 0), ks i2 a2 q2 r2) (by rfl) ?_
            refine ko_callI mi_k21.1 (pc := 194) (ls := [(2, .int (l2_2 + 1)), (5, .int ((a2 12).getD l2_2.toNatClampNeg 0)), (4, .int ((a2 11).getD l2_2.toNatClampNeg 0)), (3, .int l3_2), (0, .ref 10), (1, .ref 24)]) (st := [.ref 10]) (h := ks i2 a2 q2 r2) (i := (.invokevirtual 36, 3, 20, 0, 9, 0, 226)) (mi_k21.2 _ _ (by rfl)) (ft_invS mi_pq20 (by rfl)) (cy := mi_c20) mi_pq20 rfl (ke20_10 hL2.I hL2.R ) (by decide) ?_
            intro vg59 ig59 ag59 qg59 rg59 kg59 hg59
            have hGg59 := kG_call hL2 kg59 (by decide +kernel)
            obtain ⟨hg59, og59⟩ := hg59
            first | refine ft_go mi_k21 4 203 [(6, .int vg59), (2, .int (l2_2 + 1)), (5, .int ((a2 12).getD l2_2.toNatClampNeg 0)), (4, .int ((a2 11).getD l2_2.toNatClampNeg 0)), (3, .int l3_2), (0, .ref 10), (1, .ref 24)] [.ref 10, .int ((a2 11).getD l2_2.toNatClampNeg 0), .ref 10] ig59 ag59 qg59 rg59 (by rfl) ?_ | refine ko_steps mi_in21 4 _ (203, [(6, .int vg59), (2, .int (l2_2 + 1)), (5, .int ((a2 12).getD l2_2.toNatClampNeg 0)), (4, .int ((a2 11).getD l2_2.toNatClampNeg 0)), (3, .int l3_2), (0, .ref 10), (1, .ref 24)], [.ref 10, .int ((a2 11).getD l2_2.toNatClampNeg 0), .ref 10], (0, 0), ks ig59 ag59 qg59 rg59) (by rfl) ?_
            refine ko_callI mi_k21.1 (pc := 203) (ls := [(6, .int vg59), (2, .int (l2_2 + 1)), (5, .int ((a2 12).getD l2_2.toNatClampNeg 0)), (4, .int ((a2 11).getD l2_2.toNatClampNeg 0)), (3, .int l3_2), (0, .ref 10), (1, .ref 24)]) (st := [.ref 10, .int ((a2 11).getD l2_2.toNatClampNeg 0), .ref 10]) (h := ks ig59 ag59 qg59 rg59) (i := (.invokevirtual 36, 3, 20, 0, 9, 0, 226)) (mi_k21.2 _ _ (by rfl)) (ft_invS mi_pq20 (by rfl)) (cy := mi_c20) mi_pq20 rfl (ke20_10 hGg59.I hGg59.R ) (by decide) ?_
            intro vg61 ig61 ag61 qg61 rg61 kg61 hg61
            have hGg61 := kG_call hGg59 kg61 (by decide +kernel)
            obtain ⟨hg61, og61⟩ := hg61
            first | refine ft_go mi_k21 1 208 [(6, .int vg59), (2, .int (l2_2 + 1)), (5, .int ((a2 12).getD l2_2.toNatClampNeg 0)), (4, .int ((a2 11).getD l2_2.toNatClampNeg 0)), (3, .int l3_2), (0, .ref 10), (1, .ref 24)] [.int vg59, .int vg61, .int ((a2 11).getD l2_2.toNatClampNeg 0), .ref 10] ig61 ag61 qg61 rg61 (by rfl) ?_ | refine ko_steps mi_in21 1 _ (208, [(6, .int vg59), (2, .int (l2_2 + 1)), (5, .int ((a2 12).getD l2_2.toNatClampNeg 0)), (4, .int ((a2 11).getD l2_2.toNatClampNeg 0)), (3, .int l3_2), (0, .ref 10), (1, .ref 24)], [.int vg59, .int vg61, .int ((a2 11).getD l2_2.toNatClampNeg 0), .ref 10], (0, 0), ks ig61 ag61 qg61 rg61) (by rfl) ?_
            refine ko_callPI mi_k21.1 (pc := 208) (ls := [(6, .int vg59), (2, .int (l2_2 + 1)), (5, .int ((a2 12).getD l2_2.toNatClampNeg 0)), (4, .int ((a2 11).getD l2_2.toNatClampNeg 0)), (3, .int l3_2), (0, .ref 10), (1, .ref 24)]) (st := [.int vg59, .int vg61, .int ((a2 11).getD l2_2.toNatClampNeg 0), .ref 10]) (h := ks ig61 ag61 qg61 rg61) (i := (.invokestatic 40, 3, 22, 0, 9, 0, 227)) (mi_k21.2 _ _ (by rfl)) (ft_invS mi_pq22 (by rfl)) (cy := mi_c22) mi_pq22 rfl (ke22 hGg61.I hGg61.R ((a2 11).getD l2_2.toNatClampNeg 0) vg61 vg59) (by decide) ?_
            intro vg63 hg63
            obtain ⟨hg63, og63⟩ := hg63
            have q64 : vg63 = cJoin ((a2 11).getD l2_2.toNatClampNeg 0) vg61 vg59 := og63
            refine ko_callN mi_k21.1 (pc := 211) (ls := [(6, .int vg59), (2, .int (l2_2 + 1)), (5, .int ((a2 12).getD l2_2.toNatClampNeg 0)), (4, .int ((a2 11).getD l2_2.toNatClampNeg 0)), (3, .int l3_2), (0, .ref 10), (1, .ref 24)]) (st := [.int vg63, .ref 10]) (h := ks ig61 ag61 qg61 rg61) (i := (.invokevirtual 32, 3, 19, 0, 9, 0, 225)) (mi_k21.2 _ _ (by rfl)) (ft_invS mi_pq19 (by rfl)) (cy := mi_c19) mi_pq19 rfl (ke19_10 hGg61.I hGg61.R vg63) (by decide) ?_
            intro ig65 ag65 qg65 rg65 kg65 hg65
            have hGg65 := kG_call hGg61 kg65 (by decide +kernel)
            obtain ⟨hg65, og65⟩ := hg65
            have s67 : (l3_2 + 1).toInt = l3_2.toInt + (1 : Int32).toInt := kd_add (od13 p2_0 kod1) (od19 c5 kod121 kod1)
            first | refine ft_go mi_k21 2 9 [(3, .int (l3_2 + 1)), (6, .int vg59), (2, .int (l2_2 + 1)), (5, .int ((a2 12).getD l2_2.toNatClampNeg 0)), (4, .int ((a2 11).getD l2_2.toNatClampNeg 0)), (0, .ref 10), (1, .ref 24)] [] ig65 ag65 qg65 rg65 (by rfl) ?_ | refine ko_steps mi_in21 2 _ (9, [(3, .int (l3_2 + 1)), (6, .int vg59), (2, .int (l2_2 + 1)), (5, .int ((a2 12).getD l2_2.toNatClampNeg 0)), (4, .int ((a2 11).getD l2_2.toNatClampNeg 0)), (0, .ref 10), (1, .ref 24)], [], (0, 0), ks ig65 ag65 qg65 rg65) (by rfl) ?_
            refine ko_perm [(3, .int (l3_2 + 1)), (2, .int (l2_2 + 1)), (0, .ref 10), (1, .ref 24)] (List.forall_mem_cons.mpr ⟨(List.Mem.head _), (List.forall_mem_cons.mpr ⟨(List.Mem.tail _ (List.Mem.tail _ (List.Mem.head _))), (List.forall_mem_cons.mpr ⟨(List.Mem.tail _ (List.Mem.tail _ (List.Mem.tail _ (List.Mem.tail _ (List.Mem.tail _ (List.Mem.head _)))))), (List.forall_mem_cons.mpr ⟨(List.Mem.tail _ (List.Mem.tail _ (List.Mem.tail _ (List.Mem.tail _ (List.Mem.tail _ (List.Mem.tail _ (List.Mem.head _))))))), (fun _ h => absurd h List.not_mem_nil)⟩)⟩)⟩)⟩) ?_
            exact ih2 _ _ _ _ _ _ hGg65 (od15 p2_0 s67 kod1) (lRun_bin O2_0 (kj_left (od12 c5 kod121) (od21 s67 kod1)) ⟨(od5 c8 kod0), (od20 c11 efi2_643)⟩ (kL_castn (hL2.fa 11 rfl) (od41 w13)) (kL_castn (hL2.fa 11 rfl) (od42 w13 w17)) (kL_castn (hL2.fa 11 rfl) (od43 w13 w17 w31)) (kL_castn (hL2.fa 11 rfl) (od44 w13 w17 w31 w35)) (kL_castn (hL2.fa 11 rfl) (od45 w42)) (kL_castn (hL2.fa 11 rfl) (od46 w53)) og59 og61 (og63.trans (congrArg (fun z : List Int32 => cJoin (z.getD l2_2.toNatClampNeg 0) _ _) (hL2.fa 11 rfl))) og65) (kj_meas (od23 s67 kod1) (od24 c5 kod121) hm2)
  exact lp2 _ _ _ _ _ _ _ (kG_self _ hJ1.I hJ1.R) (od0 kod0) (by rw [kod0]; rfl) (Nat.lt_succ_self _)
def yw19_100 : kW := ([6405], [103], [], [])
set_option maxRecDepth 100000 in
theorem ke19_100 {i : Nat → Int32} {a : Nat → List Int32} {q : Nat → List Int64} {r : Nat → Nat} (hI : kI i a q) (hr : kr r) (x1 : Int32) : km 1 19 [.ref 100, .int x1] (ks i a q r) (kVN yw19_100 i a q r (fun i1 a1 q1 r1 => ((((i 6405).toInt ≤ 120) ∧ ((i1 6405).toInt = ((i 6405).toInt + 1))) ∨ (((121 : Int) ≤ (i 6405).toInt) ∧ ((i1 6405).toInt = (i 6405).toInt))) ∧ (a1 103, i1 6405) = lPush (a 103, i 6405) x1)) := by
  have hG := kG_self yw19_100 hI hr
  refine km_ofN (q := (mi_h19, mi_c19)) rfl (by decide) (Nat.le_of_ble_eq_true rfl) ?_
  intro P hP
  have fi_6405 : ((0 : Int) ≤ (i 6405).toInt) ∧ ((i 6405).toInt ≤ 121) := hG.I.1 6405
  refine ft_go mi_k19 3 6 [(0, .ref 100), (1, .int x1)] [.int 121, .int (i 6405)] i a q r (by rfl) ?_
  refine ft_if mi_k19 (decide (121 ≤ (i 6405))) 29 9 [(0, .ref 100), (1, .int x1)] [] (by rfl) (fun c => ?_) (fun c => ?_)
  ·
    have c1 : (121 : Int32).toInt ≤ (i 6405).toInt := kd_le c; clear c
    exact ft_ret mi_k19 (by rfl) (hP  _ _ _ _ hG ⟨(od9 c1 kod121), ((show (a 103, i 6405) = (a 103, i 6405) from rfl).trans (if_neg (od10 c1 kod121)).symm)⟩)
  ·
    have c2 : (i 6405).toInt < (121 : Int32).toInt := kd_leF c; clear c
    refine ft_go mi_k19 5 18 [(0, .ref 100), (1, .int x1)] [.int x1, .int (i 6405), .ref 103] i a q r (by rfl) ?_
    refine ko_iast3 mi_k19.1 (n := 121) (c := 121) (ax := (0, 0, 0, 0, 0)) (mi_k19.2 _ _ (by rfl)) (by rfl) (ksG103 _ _ _ _) (ksA103 _ _ _ _) (hG.I.2.1 103) rfl (od11 fi_6405.1) (od12 c2 kod121) ?_
    intro a3 ea3 fa3
    have hJ3 := kG_a3 hG 103 rfl ea3 fa3 (kd_bd _)
    have s4 : ((i 6405) + 1).toInt = (i 6405).toInt + (1 : Int32).toInt := kd_add (od13 fi_6405.1 kod1) (od14 fi_6405.2 kod1)
    have hJ5 := kG_i hJ3 6405 rfl (v := ((i 6405) + 1)) ⟨(od15 fi_6405.1 s4 kod1), (od16 c2 s4 kod121 kod1)⟩
    refine ft_go mi_k19 6 29 [(0, .ref 100), (1, .int x1)] [] (ku i 6405 ((i 6405) + 1)) a3 q r (by rfl) ?_
    exact ft_ret mi_k19 (by rfl) (hP  _ _ _ _ hJ5 ⟨(od17 c2 s4 kod121 kod1), ((show (a3 103, ((i 6405) + 1)) = ((a 103).set (i 6405).toNatClampNeg x1, i 6405 + 1) from by rw [ea3]).trans (if_pos (od18 c2 kod121)).symm)⟩)
def yw20_100 : kW := ([6405], [], [], [])
set_option maxRecDepth 100000 in
theorem ke20_100 {i : Nat → Int32} {a : Nat → List Int32} {q : Nat → List Int64} {r : Nat → Nat} (hI : kI i a q) (hr : kr r)  : km 1 20 [.ref 100] (ks i a q r) (kVI yw20_100 i a q r (fun v i1 a1 q1 r1 => ((((1 : Int) ≤ (i 6405).toInt) ∧ ((i1 6405).toInt = ((i 6405).toInt - 1))) ∨ (((i 6405).toInt ≤ 0) ∧ ((i1 6405).toInt = (i 6405).toInt))) ∧ (v, (a1 103, i1 6405)) = lPop (a 103, i 6405))) := by
  have hG := kG_self yw20_100 hI hr
  refine km_ofI (q := (mi_h20, mi_c20)) rfl (by decide) (Nat.le_of_ble_eq_true rfl) ?_
  intro P hP
  have fi_6405 : ((0 : Int) ≤ (i 6405).toInt) ∧ ((i 6405).toInt ≤ 121) := hG.I.1 6405
  refine ft_go mi_k20 2 4 [(0, .ref 100)] [.int (i 6405)] i a q r (by rfl) ?_
  refine ft_if mi_k20 (decide (0 < (i 6405))) 9 7 [(0, .ref 100)] [] (by rfl) (fun c => ?_) (fun c => ?_)
  ·
    have c1 : (0 : Int32).toInt < (i 6405).toInt := kd_lt c; clear c
    have s2 : ((i 6405) - 1).toInt = (i 6405).toInt - (1 : Int32).toInt := kd_sub (od27 c1 kod0 kod1) (od28 fi_6405.2 kod1)
    have hJ3 := kG_i hG 6405 rfl (v := ((i 6405) - 1)) ⟨(od29 c1 s2 kod0 kod1), (od30 fi_6405.2 s2 kod1)⟩
    refine ft_go mi_k20 10 27 [(0, .ref 100)] [.int ((i 6405) - 1), .ref 103] (ku i 6405 ((i 6405) - 1)) a q r (by rfl) ?_
    refine ko_iald3 mi_k20.1 (n := 121) (c := 121) (ax := (0, 0, 0, 0, 0)) (mi_k20.2 _ _ (by rfl)) (by rfl) (ksG103 _ _ _ _) (hJ3.I.2.1 103) rfl (od29 c1 s2 kod0 kod1) (od31 fi_6405.2 s2 kod1) ?_
    exact ft_ret mi_k20 (by rfl) (hP ((a 103).getD ((i 6405) - 1).toNatClampNeg 0) _ _ _ _ hJ3 ⟨(od32 c1 s2 kod0 kod1), ((show (((a 103).getD ((i 6405) - 1).toNatClampNeg 0), (a 103, ((i 6405) - 1))) = ((a 103).getD (i 6405 - 1).toNatClampNeg 0, (a 103, i 6405 - 1)) from rfl).trans (if_pos (od33 c1 kod0)).symm)⟩)
  ·
    have c4 : (i 6405).toInt ≤ (0 : Int32).toInt := kd_ltF c; clear c
    refine ft_go mi_k20 1 8 [(0, .ref 100)] [.int 0] i a q r (by rfl) ?_
    exact ft_ret mi_k20 (by rfl) (hP 0 _ _ _ _ hG ⟨(od34 c4 kod0), ((show ((0 : Int32), (a 103, i 6405)) = (0, (a 103, i 6405)) from rfl).trans (if_neg (od35 c4 kod0)).symm)⟩)
def yw21_100_24 : kW := ([6405], [103], [], [])
def yw21_100_24_L9 : kW := ([6405], [103], [], [])
set_option maxRecDepth 100000 in
theorem ke21_100_24 {i : Nat → Int32} {a : Nat → List Int32} {q : Nat → List Int64} {r : Nat → Nat} (hI : kI i a q) (hr : kr r)  : km 3 21 [.ref 100, .ref 24] (ks i a q r) (kVI yw21_100_24 i a q r (fun v i1 a1 q1 r1 => (True) ∧ v = lRun (a 101) (a 102) (a 24) (i 6403) 121 0 (a 103, 0))) := by
  have hG := kG_self yw21_100_24 hI hr
  refine km_ofI (q := (mi_h21, mi_c21)) rfl (by decide) (Nat.le_of_ble_eq_true rfl) ?_
  intro P hP
  have hJ1 := kG_i hG 6405 rfl (v := 0) ⟨(od0 kod0), (od1 kod0)⟩
  first | refine ft_go mi_k21 7 9 [(3, .int 0), (2, .int 0), (0, .ref 100), (1, .ref 24)] [] (ku i 6405 0) a q r (by rfl) ?_ | refine ko_steps mi_in21 7 _ (9, [(3, .int 0), (2, .int 0), (0, .ref 100), (1, .ref 24)], [], (0, 0), ks (ku i 6405 0) a q r) (by rfl) ?_
  have lp2 : ∀ (nz : Nat) (i2 : Nat → Int32) (a2 : Nat → List Int32) (q2 : Nat → List Int64) (r2 : Nat → Nat) (l3_2 : Int32) (l2_2 : Int32), kG yw21_100_24_L9 (ku i 6405 0) a q r i2 a2 q2 r2 → (0 : Int) ≤ l3_2.toInt → lRun (a 101) (a 102) (a 24) (i 6403) (121 - l3_2.toInt).toNat l2_2 (a2 103, i2 6405) = lRun (a 101) (a 102) (a 24) (i 6403) 121 0 (a 103, 0) → ((121 - l3_2.toInt)).toNat < nz → ko 3 (mi_h21, mi_c21) P (9, [(3, .int l3_2), (2, .int l2_2), (0, .ref 100), (1, .ref 24)], [], (0, 0), ks i2 a2 q2 r2) := by
    intro nz
    induction nz with
    | zero =>
      intro _ _ _ _ _ _ _ _ _ hm
      exact absurd hm (Nat.not_lt_zero _)
    | succ nz ih2 =>
      intro i2 a2 q2 r2 l3_2 l2_2 hL2 p2_0 O2_0 hm2
      first | refine ft_go mi_k21 2 12 [(3, .int l3_2), (2, .int l2_2), (0, .ref 100), (1, .ref 24)] [.int 121, .int l3_2] i2 a2 q2 r2 (by rfl) ?_ | refine ko_steps mi_in21 2 _ (12, [(3, .int l3_2), (2, .int l2_2), (0, .ref 100), (1, .ref 24)], [.int 121, .int l3_2], (0, 0), ks i2 a2 q2 r2) (by rfl) ?_
      refine ft_if mi_k21 (decide (121 ≤ l3_2)) 220 15 [(3, .int l3_2), (2, .int l2_2), (0, .ref 100), (1, .ref 24)] [] (by rfl) (fun c => ?_) (fun c => ?_)
      ·
        have c3 : (121 : Int32).toInt ≤ l3_2.toInt := kd_le c; clear c
        have hG4 := kG_call hJ1 hL2 (by decide +kernel)
        first | refine ft_go mi_k21 1 221 [(3, .int l3_2), (2, .int l2_2), (0, .ref 100), (1, .ref 24)] [.int 0] i2 a2 q2 r2 (by rfl) ?_ | refine ko_steps mi_in21 1 _ (221, [(3, .int l3_2), (2, .int l2_2), (0, .ref 100), (1, .ref 24)], [.int 0], (0, 0), ks i2 a2 q2 r2) (by rfl) ?_
        exact ft_ret mi_k21 (by rfl) (hP 0 _ _ _ _ hG4 ⟨trivial, (show (0 : Int32) = lRun (a 101) (a 102) (a 24) (i 6403) 121 0 (a 103, 0) from (lRun_end O2_0 (kj_none (od2 c3 kod121))).symm)⟩)
      ·
        have c5 : l3_2.toInt < (121 : Int32).toInt := kd_leF c; clear c
        first | refine ft_go mi_k21 1 16 [(3, .int l3_2), (2, .int l2_2), (0, .ref 100), (1, .ref 24)] [.int l2_2] i2 a2 q2 r2 (by rfl) ?_ | refine ko_steps mi_in21 1 _ (16, [(3, .int l3_2), (2, .int l2_2), (0, .ref 100), (1, .ref 24)], [.int l2_2], (0, 0), ks i2 a2 q2 r2) (by rfl) ?_
        refine ft_if mi_k21 (decide (l2_2 < 0)) 220 19 [(3, .int l3_2), (2, .int l2_2), (0, .ref 100), (1, .ref 24)] [] (by rfl) (fun c => ?_) (fun c => ?_)
        ·
          have c6 : l2_2.toInt < (0 : Int32).toInt := kd_lt c; clear c
          have hG7 := kG_call hJ1 hL2 (by decide +kernel)
          first | refine ft_go mi_k21 1 221 [(3, .int l3_2), (2, .int l2_2), (0, .ref 100), (1, .ref 24)] [.int 0] i2 a2 q2 r2 (by rfl) ?_ | refine ko_steps mi_in21 1 _ (221, [(3, .int l3_2), (2, .int l2_2), (0, .ref 100), (1, .ref 24)], [.int 0], (0, 0), ks i2 a2 q2 r2) (by rfl) ?_
          exact ft_ret mi_k21 (by rfl) (hP 0 _ _ _ _ hG7 ⟨trivial, (show (0 : Int32) = lRun (a 101) (a 102) (a 24) (i 6403) 121 0 (a 103, 0) from (lRun_out O2_0 (od3 c6 kod0)).symm)⟩)
        ·
          have c8 : (0 : Int32).toInt ≤ l2_2.toInt := kd_ltF c; clear c
          have fi2_6403 : ((0 : Int) ≤ (i2 6403).toInt) ∧ ((i2 6403).toInt ≤ 121) := hL2.I.1 6403
          have fi_6403 : ((0 : Int) ≤ (i 6403).toInt) ∧ ((i 6403).toInt ≤ 121) := hJ1.I.1 6403
          have efi2_6403 : (i2 6403).toInt = (i 6403).toInt := hL2.ti 6403 rfl
          first | refine ft_go mi_k21 3 24 [(3, .int l3_2), (2, .int l2_2), (0, .ref 100), (1, .ref 24)] [.int (i2 6403), .int l2_2] i2 a2 q2 r2 (by rfl) ?_ | refine ko_steps mi_in21 3 _ (24, [(3, .int l3_2), (2, .int l2_2), (0, .ref 100), (1, .ref 24)], [.int (i2 6403), .int l2_2], (0, 0), ks i2 a2 q2 r2) (by rfl) ?_
          refine ft_if mi_k21 (decide ((i2 6403) ≤ l2_2)) 220 27 [(3, .int l3_2), (2, .int l2_2), (0, .ref 100), (1, .ref 24)] [] (by rfl) (fun c => ?_) (fun c => ?_)
          ·
            have c9 : (i2 6403).toInt ≤ l2_2.toInt := kd_le c; clear c
            have hG10 := kG_call hJ1 hL2 (by decide +kernel)
            first | refine ft_go mi_k21 1 221 [(3, .int l3_2), (2, .int l2_2), (0, .ref 100), (1, .ref 24)] [.int 0] i2 a2 q2 r2 (by rfl) ?_ | refine ko_steps mi_in21 1 _ (221, [(3, .int l3_2), (2, .int l2_2), (0, .ref 100), (1, .ref 24)], [.int 0], (0, 0), ks i2 a2 q2 r2) (by rfl) ?_
            exact ft_ret mi_k21 (by rfl) (hP 0 _ _ _ _ hG10 ⟨trivial, (show (0 : Int32) = lRun (a 101) (a 102) (a 24) (i 6403) 121 0 (a 103, 0) from (lRun_out O2_0 (od4 c9 efi2_6403)).symm)⟩)
          ·
            have c11 : l2_2.toInt < (i2 6403).toInt := kd_leF c; clear c
            first | refine ft_go mi_k21 3 32 [(3, .int l3_2), (2, .int l2_2), (0, .ref 100), (1, .ref 24)] [.int l2_2, .ref 101] i2 a2 q2 r2 (by rfl) ?_ | refine ko_steps mi_in21 3 _ (32, [(3, .int l3_2), (2, .int l2_2), (0, .ref 100), (1, .ref 24)], [.int l2_2, .ref 101], (0, 0), ks i2 a2 q2 r2) (by rfl) ?_
            refine ko_iald3 mi_k21.1 (n := 121) (c := 121) (ax := (0, 0, 0, 0, 0)) (mi_k21.2 _ _ (by rfl)) (by rfl) (ksG101 _ _ _ _) (hL2.I.2.1 101) rfl (od5 c8 kod0) (od6 c11 fi2_6403.2) ?_
            first | refine ft_go mi_k21 4 40 [(4, .int ((a2 101).getD l2_2.toNatClampNeg 0)), (3, .int l3_2), (2, .int l2_2), (0, .ref 100), (1, .ref 24)] [.int l2_2, .ref 102] i2 a2 q2 r2 (by rfl) ?_ | refine ko_steps mi_in21 4 _ (40, [(4, .int ((a2 101).getD l2_2.toNatClampNeg 0)), (3, .int l3_2), (2, .int l2_2), (0, .ref 100), (1, .ref 24)], [.int l2_2, .ref 102], (0, 0), ks i2 a2 q2 r2) (by rfl) ?_
            refine ko_iald3 mi_k21.1 (n := 121) (c := 121) (ax := (0, 0, 0, 0, 0)) (mi_k21.2 _ _ (by rfl)) (by rfl) (ksG102 _ _ _ _) (hL2.I.2.1 102) rfl (od5 c8 kod0) (od6 c11 fi2_6403.2) ?_
            have s12 : (l2_2 + 1).toInt = l2_2.toInt + (1 : Int32).toInt := kd_add (od7 c8 kod0 kod1) (od8 c11 fi2_6403.2 kod1)
            first | refine ft_go mi_k21 3 48 [(2, .int (l2_2 + 1)), (5, .int ((a2 102).getD l2_2.toNatClampNeg 0)), (4, .int ((a2 101).getD l2_2.toNatClampNeg 0)), (3, .int l3_2), (0, .ref 100), (1, .ref 24)] [.int ((a2 101).getD l2_2.toNatClampNeg 0)] i2 a2 q2 r2 (by rfl) ?_ | refine ko_steps mi_in21 3 _ (48, [(2, .int (l2_2 + 1)), (5, .int ((a2 102).getD l2_2.toNatClampNeg 0)), (4, .int ((a2 101).getD l2_2.toNatClampNeg 0)), (3, .int l3_2), (0, .ref 100), (1, .ref 24)], [.int ((a2 101).getD l2_2.toNatClampNeg 0)], (0, 0), ks i2 a2 q2 r2) (by rfl) ?_
            by_cases w13 : ((a2 101).getD l2_2.toNatClampNeg 0).toInt = 0
            ·
              refine ft_swx mi_k21 (pc := 48) (v := 0) (t := 108) (kj_eq w13 (by decide) : ((a2 101).getD l2_2.toNatClampNeg 0) = 0) (by decide +kernel) ?_
              first | refine ft_go mi_k21 2 111 [(2, .int (l2_2 + 1)), (5, .int ((a2 102).getD l2_2.toNatClampNeg 0)), (4, .int ((a2 101).getD l2_2.toNatClampNeg 0)), (3, .int l3_2), (0, .ref 100), (1, .ref 24)] [.int ((a2 102).getD l2_2.toNatClampNeg 0), .ref 100] i2 a2 q2 r2 (by rfl) ?_ | refine ko_steps mi_in21 2 _ (111, [(2, .int (l2_2 + 1)), (5, .int ((a2 102).getD l2_2.toNatClampNeg 0)), (4, .int ((a2 101).getD l2_2.toNatClampNeg 0)), (3, .int l3_2), (0, .ref 100), (1, .ref 24)], [.int ((a2 102).getD l2_2.toNatClampNeg 0), .ref 100], (0, 0), ks i2 a2 q2 r2) (by rfl) ?_
              refine ko_callN mi_k21.1 (pc := 111) (ls := [(2, .int (l2_2 + 1)), (5, .int ((a2 102).getD l2_2.toNatClampNeg 0)), (4, .int ((a2 101).getD l2_2.toNatClampNeg 0)), (3, .int l3_2), (0, .ref 100), (1, .ref 24)]) (st := [.int ((a2 102).getD l2_2.toNatClampNeg 0), .ref 100]) (h := ks i2 a2 q2 r2) (i := (.invokevirtual 32, 3, 19, 0, 9, 0, 225)) (mi_k21.2 _ _ (by rfl)) (ft_invS mi_pq19 (by rfl)) (cy := mi_c19) mi_pq19 rfl (ke19_100 hL2.I hL2.R ((a2 102).getD l2_2.toNatClampNeg 0)) (by decide) ?_
              intro ig14 ag14 qg14 rg14 kg14 hg14
              have hGg14 := kG_call hL2 kg14 (by decide +kernel)
              obtain ⟨hg14, og14⟩ := hg14
              have s16 : (l3_2 + 1).toInt = l3_2.toInt + (1 : Int32).toInt := kd_add (od13 p2_0 kod1) (od19 c5 kod121 kod1)
              first | refine ft_go mi_k21 3 9 [(3, .int (l3_2 + 1)), (2, .int (l2_2 + 1)), (5, .int ((a2 102).getD l2_2.toNatClampNeg 0)), (4, .int ((a2 101).getD l2_2.toNatClampNeg 0)), (0, .ref 100), (1, .ref 24)] [] ig14 ag14 qg14 rg14 (by rfl) ?_ | refine ko_steps mi_in21 3 _ (9, [(3, .int (l3_2 + 1)), (2, .int (l2_2 + 1)), (5, .int ((a2 102).getD l2_2.toNatClampNeg 0)), (4, .int ((a2 101).getD l2_2.toNatClampNeg 0)), (0, .ref 100), (1, .ref 24)], [], (0, 0), ks ig14 ag14 qg14 rg14) (by rfl) ?_
              refine ko_perm [(3, .int (l3_2 + 1)), (2, .int (l2_2 + 1)), (0, .ref 100), (1, .ref 24)] (List.forall_mem_cons.mpr ⟨(List.Mem.head _), (List.forall_mem_cons.mpr ⟨(List.Mem.tail _ (List.Mem.head _)), (List.forall_mem_cons.mpr ⟨(List.Mem.tail _ (List.Mem.tail _ (List.Mem.tail _ (List.Mem.tail _ (List.Mem.head _))))), (List.forall_mem_cons.mpr ⟨(List.Mem.tail _ (List.Mem.tail _ (List.Mem.tail _ (List.Mem.tail _ (List.Mem.tail _ (List.Mem.head _)))))), (fun _ h => absurd h List.not_mem_nil)⟩)⟩)⟩)⟩) ?_
              exact ih2 _ _ _ _ _ _ hGg14 (od15 p2_0 s16 kod1) (lRun_num O2_0 (kj_left (od12 c5 kod121) (od21 s16 kod1)) ⟨(od5 c8 kod0), (od20 c11 efi2_6403)⟩ (kL_cast (hL2.fa 101 rfl) (od22 w13)) (congrArg (fun z : List Int32 => z.getD l2_2.toNatClampNeg 0) (hL2.fa 102 rfl)) og14) (kj_meas (od23 s16 kod1) (od24 c5 kod121) hm2)
            by_cases w17 : ((a2 101).getD l2_2.toNatClampNeg 0).toInt = 1
            ·
              refine ft_swx mi_k21 (pc := 48) (v := 1) (t := 117) (kj_eq w17 (by decide) : ((a2 101).getD l2_2.toNatClampNeg 0) = 1) (by decide +kernel) ?_
              first | refine ft_go mi_k21 2 120 [(2, .int (l2_2 + 1)), (5, .int ((a2 102).getD l2_2.toNatClampNeg 0)), (4, .int ((a2 101).getD l2_2.toNatClampNeg 0)), (3, .int l3_2), (0, .ref 100), (1, .ref 24)] [.int ((a2 102).getD l2_2.toNatClampNeg 0), .ref 100] i2 a2 q2 r2 (by rfl) ?_ | refine ko_steps mi_in21 2 _ (120, [(2, .int (l2_2 + 1)), (5, .int ((a2 102).getD l2_2.toNatClampNeg 0)), (4, .int ((a2 101).getD l2_2.toNatClampNeg 0)), (3, .int l3_2), (0, .ref 100), (1, .ref 24)], [.int ((a2 102).getD l2_2.toNatClampNeg 0), .ref 100], (0, 0), ks i2 a2 q2 r2) (by rfl) ?_
              refine ft_if mi_k21 (decide (((a2 102).getD l2_2.toNatClampNeg 0) < 0)) 137 123 [(2, .int (l2_2 + 1)), (5, .int ((a2 102).getD l2_2.toNatClampNeg 0)), (4, .int ((a2 101).getD l2_2.toNatClampNeg 0)), (3, .int l3_2), (0, .ref 100), (1, .ref 24)] [.ref 100] (by rfl) (fun c => ?_) (fun c => ?_)
              ·
                have c18 : ((a2 102).getD l2_2.toNatClampNeg 0).toInt < (0 : Int32).toInt := kd_lt c; clear c
                first | refine ft_go mi_k21 1 138 [(2, .int (l2_2 + 1)), (5, .int ((a2 102).getD l2_2.toNatClampNeg 0)), (4, .int ((a2 101).getD l2_2.toNatClampNeg 0)), (3, .int l3_2), (0, .ref 100), (1, .ref 24)] [.int 0, .ref 100] i2 a2 q2 r2 (by rfl) ?_ | refine ko_steps mi_in21 1 _ (138, [(2, .int (l2_2 + 1)), (5, .int ((a2 102).getD l2_2.toNatClampNeg 0)), (4, .int ((a2 101).getD l2_2.toNatClampNeg 0)), (3, .int l3_2), (0, .ref 100), (1, .ref 24)], [.int 0, .ref 100], (0, 0), ks i2 a2 q2 r2) (by rfl) ?_
                refine ko_callN mi_k21.1 (pc := 138) (ls := [(2, .int (l2_2 + 1)), (5, .int ((a2 102).getD l2_2.toNatClampNeg 0)), (4, .int ((a2 101).getD l2_2.toNatClampNeg 0)), (3, .int l3_2), (0, .ref 100), (1, .ref 24)]) (st := [.int 0, .ref 100]) (h := ks i2 a2 q2 r2) (i := (.invokevirtual 32, 3, 19, 0, 9, 0, 225)) (mi_k21.2 _ _ (by rfl)) (ft_invS mi_pq19 (by rfl)) (cy := mi_c19) mi_pq19 rfl (ke19_100 hL2.I hL2.R 0) (by decide) ?_
                intro ig19 ag19 qg19 rg19 kg19 hg19
                have hGg19 := kG_call hL2 kg19 (by decide +kernel)
                obtain ⟨hg19, og19⟩ := hg19
                have fi2_6405 : ((0 : Int) ≤ (i2 6405).toInt) ∧ ((i2 6405).toInt ≤ 121) := hL2.I.1 6405
                have fig19_6405 : ((0 : Int) ≤ (ig19 6405).toInt) ∧ ((ig19 6405).toInt ≤ 121) := hGg19.I.1 6405
                have z20 : (((i2 6405).toInt ≤ 120) ∧ ((ig19 6405).toInt = ((i2 6405).toInt + 1))) ∨ (((121 : Int) ≤ (i2 6405).toInt) ∧ ((ig19 6405).toInt = (i2 6405).toInt)) := hg19
                have s21 : (l3_2 + 1).toInt = l3_2.toInt + (1 : Int32).toInt := kd_add (od13 p2_0 kod1) (od19 c5 kod121 kod1)
                first | refine ft_go mi_k21 3 9 [(3, .int (l3_2 + 1)), (2, .int (l2_2 + 1)), (5, .int ((a2 102).getD l2_2.toNatClampNeg 0)), (4, .int ((a2 101).getD l2_2.toNatClampNeg 0)), (0, .ref 100), (1, .ref 24)] [] ig19 ag19 qg19 rg19 (by rfl) ?_ | refine ko_steps mi_in21 3 _ (9, [(3, .int (l3_2 + 1)), (2, .int (l2_2 + 1)), (5, .int ((a2 102).getD l2_2.toNatClampNeg 0)), (4, .int ((a2 101).getD l2_2.toNatClampNeg 0)), (0, .ref 100), (1, .ref 24)], [], (0, 0), ks ig19 ag19 qg19 rg19) (by rfl) ?_
                refine ko_perm [(3, .int (l3_2 + 1)), (2, .int (l2_2 + 1)), (0, .ref 100), (1, .ref 24)] (List.forall_mem_cons.mpr ⟨(List.Mem.head _), (List.forall_mem_cons.mpr ⟨(List.Mem.tail _ (List.Mem.head _)), (List.forall_mem_cons.mpr ⟨(List.Mem.tail _ (List.Mem.tail _ (List.Mem.tail _ (List.Mem.tail _ (List.Mem.head _))))), (List.forall_mem_cons.mpr ⟨(List.Mem.tail _ (List.Mem.tail _ (List.Mem.tail _ (List.Mem.tail _ (List.Mem.tail _ (List.Mem.head _)))))), (fun _ h => absurd h List.not_mem_nil)⟩)⟩)⟩)⟩) ?_
                exact ih2 _ _ _ _ _ _ hGg19 (od15 p2_0 s21 kod1) (lRun_name O2_0 (kj_left (od12 c5 kod121) (od21 s21 kod1)) ⟨(od5 c8 kod0), (od20 c11 efi2_6403)⟩ (kL_cast (hL2.fa 101 rfl) (od25 w17)) (by have k0_ : (0 : Int32).toInt = 0 := (by decide); have k6_ : (6 : Int32).toInt = 6 := (by decide); rw [← ((hL2.fa 102 rfl) : a2 102 = a 102), ← ((hL2.fa 24 rfl) : a2 24 = a 24)]; split <;> first | rfl | (exfalso; omega)) og19) (kj_meas (od23 s21 kod1) (od24 c5 kod121) hm2)
              ·
                have c22 : (0 : Int32).toInt ≤ ((a2 102).getD l2_2.toNatClampNeg 0).toInt := kd_ltF c; clear c
                first | refine ft_go mi_k21 2 126 [(2, .int (l2_2 + 1)), (5, .int ((a2 102).getD l2_2.toNatClampNeg 0)), (4, .int ((a2 101).getD l2_2.toNatClampNeg 0)), (3, .int l3_2), (0, .ref 100), (1, .ref 24)] [.ref 24, .int ((a2 102).getD l2_2.toNatClampNeg 0), .ref 100] i2 a2 q2 r2 (by rfl) ?_ | refine ko_steps mi_in21 2 _ (126, [(2, .int (l2_2 + 1)), (5, .int ((a2 102).getD l2_2.toNatClampNeg 0)), (4, .int ((a2 101).getD l2_2.toNatClampNeg 0)), (3, .int l3_2), (0, .ref 100), (1, .ref 24)], [.ref 24, .int ((a2 102).getD l2_2.toNatClampNeg 0), .ref 100], (0, 0), ks i2 a2 q2 r2) (by rfl) ?_
                refine ko_alen mi_k21.1 (l := a2 24) (ax := (0, 0, 0, 0, 0)) (x := 6) (mi_k21.2 _ _ (by rfl)) (by rfl) (by rfl) (by rw [(hL2.I.2.1 24 : (a2 24).length = _)]; rfl) ?_
                refine ft_if mi_k21 (decide (6 ≤ ((a2 102).getD l2_2.toNatClampNeg 0))) 137 130 [(2, .int (l2_2 + 1)), (5, .int ((a2 102).getD l2_2.toNatClampNeg 0)), (4, .int ((a2 101).getD l2_2.toNatClampNeg 0)), (3, .int l3_2), (0, .ref 100), (1, .ref 24)] [.ref 100] (by rfl) (fun c => ?_) (fun c => ?_)
                ·
                  have c23 : (6 : Int32).toInt ≤ ((a2 102).getD l2_2.toNatClampNeg 0).toInt := kd_le c; clear c
                  first | refine ft_go mi_k21 1 138 [(2, .int (l2_2 + 1)), (5, .int ((a2 102).getD l2_2.toNatClampNeg 0)), (4, .int ((a2 101).getD l2_2.toNatClampNeg 0)), (3, .int l3_2), (0, .ref 100), (1, .ref 24)] [.int 0, .ref 100] i2 a2 q2 r2 (by rfl) ?_ | refine ko_steps mi_in21 1 _ (138, [(2, .int (l2_2 + 1)), (5, .int ((a2 102).getD l2_2.toNatClampNeg 0)), (4, .int ((a2 101).getD l2_2.toNatClampNeg 0)), (3, .int l3_2), (0, .ref 100), (1, .ref 24)], [.int 0, .ref 100], (0, 0), ks i2 a2 q2 r2) (by rfl) ?_
                  refine ko_callN mi_k21.1 (pc := 138) (ls := [(2, .int (l2_2 + 1)), (5, .int ((a2 102).getD l2_2.toNatClampNeg 0)), (4, .int ((a2 101).getD l2_2.toNatClampNeg 0)), (3, .int l3_2), (0, .ref 100), (1, .ref 24)]) (st := [.int 0, .ref 100]) (h := ks i2 a2 q2 r2) (i := (.invokevirtual 32, 3, 19, 0, 9, 0, 225)) (mi_k21.2 _ _ (by rfl)) (ft_invS mi_pq19 (by rfl)) (cy := mi_c19) mi_pq19 rfl (ke19_100 hL2.I hL2.R 0) (by decide) ?_
                  intro ig24 ag24 qg24 rg24 kg24 hg24
                  have hGg24 := kG_call hL2 kg24 (by decide +kernel)
                  obtain ⟨hg24, og24⟩ := hg24
                  have fi2_6405 : ((0 : Int) ≤ (i2 6405).toInt) ∧ ((i2 6405).toInt ≤ 121) := hL2.I.1 6405
                  have fig24_6405 : ((0 : Int) ≤ (ig24 6405).toInt) ∧ ((ig24 6405).toInt ≤ 121) := hGg24.I.1 6405
                  have z25 : (((i2 6405).toInt ≤ 120) ∧ ((ig24 6405).toInt = ((i2 6405).toInt + 1))) ∨ (((121 : Int) ≤ (i2 6405).toInt) ∧ ((ig24 6405).toInt = (i2 6405).toInt)) := hg24
                  have s26 : (l3_2 + 1).toInt = l3_2.toInt + (1 : Int32).toInt := kd_add (od13 p2_0 kod1) (od19 c5 kod121 kod1)
                  first | refine ft_go mi_k21 3 9 [(3, .int (l3_2 + 1)), (2, .int (l2_2 + 1)), (5, .int ((a2 102).getD l2_2.toNatClampNeg 0)), (4, .int ((a2 101).getD l2_2.toNatClampNeg 0)), (0, .ref 100), (1, .ref 24)] [] ig24 ag24 qg24 rg24 (by rfl) ?_ | refine ko_steps mi_in21 3 _ (9, [(3, .int (l3_2 + 1)), (2, .int (l2_2 + 1)), (5, .int ((a2 102).getD l2_2.toNatClampNeg 0)), (4, .int ((a2 101).getD l2_2.toNatClampNeg 0)), (0, .ref 100), (1, .ref 24)], [], (0, 0), ks ig24 ag24 qg24 rg24) (by rfl) ?_
                  refine ko_perm [(3, .int (l3_2 + 1)), (2, .int (l2_2 + 1)), (0, .ref 100), (1, .ref 24)] (List.forall_mem_cons.mpr ⟨(List.Mem.head _), (List.forall_mem_cons.mpr ⟨(List.Mem.tail _ (List.Mem.head _)), (List.forall_mem_cons.mpr ⟨(List.Mem.tail _ (List.Mem.tail _ (List.Mem.tail _ (List.Mem.tail _ (List.Mem.head _))))), (List.forall_mem_cons.mpr ⟨(List.Mem.tail _ (List.Mem.tail _ (List.Mem.tail _ (List.Mem.tail _ (List.Mem.tail _ (List.Mem.head _)))))), (fun _ h => absurd h List.not_mem_nil)⟩)⟩)⟩)⟩) ?_
                  exact ih2 _ _ _ _ _ _ hGg24 (od15 p2_0 s26 kod1) (lRun_name O2_0 (kj_left (od12 c5 kod121) (od21 s26 kod1)) ⟨(od5 c8 kod0), (od20 c11 efi2_6403)⟩ (kL_cast (hL2.fa 101 rfl) (od25 w17)) (by have k0_ : (0 : Int32).toInt = 0 := (by decide); have k6_ : (6 : Int32).toInt = 6 := (by decide); rw [← ((hL2.fa 102 rfl) : a2 102 = a 102), ← ((hL2.fa 24 rfl) : a2 24 = a 24)]; split <;> first | rfl | (exfalso; omega)) og24) (kj_meas (od23 s26 kod1) (od24 c5 kod121) hm2)
                ·
                  have c27 : ((a2 102).getD l2_2.toNatClampNeg 0).toInt < (6 : Int32).toInt := kd_leF c; clear c
                  first | refine ft_go mi_k21 2 133 [(2, .int (l2_2 + 1)), (5, .int ((a2 102).getD l2_2.toNatClampNeg 0)), (4, .int ((a2 101).getD l2_2.toNatClampNeg 0)), (3, .int l3_2), (0, .ref 100), (1, .ref 24)] [.int ((a2 102).getD l2_2.toNatClampNeg 0), .ref 24, .ref 100] i2 a2 q2 r2 (by rfl) ?_ | refine ko_steps mi_in21 2 _ (133, [(2, .int (l2_2 + 1)), (5, .int ((a2 102).getD l2_2.toNatClampNeg 0)), (4, .int ((a2 101).getD l2_2.toNatClampNeg 0)), (3, .int l3_2), (0, .ref 100), (1, .ref 24)], [.int ((a2 102).getD l2_2.toNatClampNeg 0), .ref 24, .ref 100], (0, 0), ks i2 a2 q2 r2) (by rfl) ?_
                  refine ko_iald3 mi_k21.1 (n := 6) (c := 6) (ax := (0, 0, 0, 0, 0)) (mi_k21.2 _ _ (by rfl)) (by rfl) (ksG24 _ _ _ _) (hL2.I.2.1 24) rfl (od5 c22 kod0) (od26 c27 kod6) ?_
                  first | refine ft_go mi_k21 1 138 [(2, .int (l2_2 + 1)), (5, .int ((a2 102).getD l2_2.toNatClampNeg 0)), (4, .int ((a2 101).getD l2_2.toNatClampNeg 0)), (3, .int l3_2), (0, .ref 100), (1, .ref 24)] [.int ((a2 24).getD ((a2 102).getD l2_2.toNatClampNeg 0).toNatClampNeg 0), .ref 100] i2 a2 q2 r2 (by rfl) ?_ | refine ko_steps mi_in21 1 _ (138, [(2, .int (l2_2 + 1)), (5, .int ((a2 102).getD l2_2.toNatClampNeg 0)), (4, .int ((a2 101).getD l2_2.toNatClampNeg 0)), (3, .int l3_2), (0, .ref 100), (1, .ref 24)], [.int ((a2 24).getD ((a2 102).getD l2_2.toNatClampNeg 0).toNatClampNeg 0), .ref 100], (0, 0), ks i2 a2 q2 r2) (by rfl) ?_
                  refine ko_callN mi_k21.1 (pc := 138) (ls := [(2, .int (l2_2 + 1)), (5, .int ((a2 102).getD l2_2.toNatClampNeg 0)), (4, .int ((a2 101).getD l2_2.toNatClampNeg 0)), (3, .int l3_2), (0, .ref 100), (1, .ref 24)]) (st := [.int ((a2 24).getD ((a2 102).getD l2_2.toNatClampNeg 0).toNatClampNeg 0), .ref 100]) (h := ks i2 a2 q2 r2) (i := (.invokevirtual 32, 3, 19, 0, 9, 0, 225)) (mi_k21.2 _ _ (by rfl)) (ft_invS mi_pq19 (by rfl)) (cy := mi_c19) mi_pq19 rfl (ke19_100 hL2.I hL2.R ((a2 24).getD ((a2 102).getD l2_2.toNatClampNeg 0).toNatClampNeg 0)) (by decide) ?_
                  intro ig28 ag28 qg28 rg28 kg28 hg28
                  have hGg28 := kG_call hL2 kg28 (by decide +kernel)
                  obtain ⟨hg28, og28⟩ := hg28
                  have fi2_6405 : ((0 : Int) ≤ (i2 6405).toInt) ∧ ((i2 6405).toInt ≤ 121) := hL2.I.1 6405
                  have fig28_6405 : ((0 : Int) ≤ (ig28 6405).toInt) ∧ ((ig28 6405).toInt ≤ 121) := hGg28.I.1 6405
                  have z29 : (((i2 6405).toInt ≤ 120) ∧ ((ig28 6405).toInt = ((i2 6405).toInt + 1))) ∨ (((121 : Int) ≤ (i2 6405).toInt) ∧ ((ig28 6405).toInt = (i2 6405).toInt)) := hg28
                  have s30 : (l3_2 + 1).toInt = l3_2.toInt + (1 : Int32).toInt := kd_add (od13 p2_0 kod1) (od19 c5 kod121 kod1)
                  first | refine ft_go mi_k21 3 9 [(3, .int (l3_2 + 1)), (2, .int (l2_2 + 1)), (5, .int ((a2 102).getD l2_2.toNatClampNeg 0)), (4, .int ((a2 101).getD l2_2.toNatClampNeg 0)), (0, .ref 100), (1, .ref 24)] [] ig28 ag28 qg28 rg28 (by rfl) ?_ | refine ko_steps mi_in21 3 _ (9, [(3, .int (l3_2 + 1)), (2, .int (l2_2 + 1)), (5, .int ((a2 102).getD l2_2.toNatClampNeg 0)), (4, .int ((a2 101).getD l2_2.toNatClampNeg 0)), (0, .ref 100), (1, .ref 24)], [], (0, 0), ks ig28 ag28 qg28 rg28) (by rfl) ?_
                  refine ko_perm [(3, .int (l3_2 + 1)), (2, .int (l2_2 + 1)), (0, .ref 100), (1, .ref 24)] (List.forall_mem_cons.mpr ⟨(List.Mem.head _), (List.forall_mem_cons.mpr ⟨(List.Mem.tail _ (List.Mem.head _)), (List.forall_mem_cons.mpr ⟨(List.Mem.tail _ (List.Mem.tail _ (List.Mem.tail _ (List.Mem.tail _ (List.Mem.head _))))), (List.forall_mem_cons.mpr ⟨(List.Mem.tail _ (List.Mem.tail _ (List.Mem.tail _ (List.Mem.tail _ (List.Mem.tail _ (List.Mem.head _)))))), (fun _ h => absurd h List.not_mem_nil)⟩)⟩)⟩)⟩) ?_
                  exact ih2 _ _ _ _ _ _ hGg28 (od15 p2_0 s30 kod1) (lRun_name O2_0 (kj_left (od12 c5 kod121) (od21 s30 kod1)) ⟨(od5 c8 kod0), (od20 c11 efi2_6403)⟩ (kL_cast (hL2.fa 101 rfl) (od25 w17)) (by have k0_ : (0 : Int32).toInt = 0 := (by decide); have k6_ : (6 : Int32).toInt = 6 := (by decide); rw [← ((hL2.fa 102 rfl) : a2 102 = a 102), ← ((hL2.fa 24 rfl) : a2 24 = a 24)]; split <;> first | rfl | (exfalso; omega)) og28) (kj_meas (od23 s30 kod1) (od24 c5 kod121) hm2)
            by_cases w31 : ((a2 101).getD l2_2.toNatClampNeg 0).toInt = 2
            ·
              refine ft_swx mi_k21 (pc := 48) (v := 2) (t := 144) (kj_eq w31 (by decide) : ((a2 101).getD l2_2.toNatClampNeg 0) = 2) (by decide +kernel) ?_
              have hG32 := kG_call hJ1 hL2 (by decide +kernel)
              first | refine ft_go mi_k21 1 145 [(2, .int (l2_2 + 1)), (5, .int ((a2 102).getD l2_2.toNatClampNeg 0)), (4, .int ((a2 101).getD l2_2.toNatClampNeg 0)), (3, .int l3_2), (0, .ref 100), (1, .ref 24)] [.ref 100] i2 a2 q2 r2 (by rfl) ?_ | refine ko_steps mi_in21 1 _ (145, [(2, .int (l2_2 + 1)), (5, .int ((a2 102).getD l2_2.toNatClampNeg 0)), (4, .int ((a2 101).getD l2_2.toNatClampNeg 0)), (3, .int l3_2), (0, .ref 100), (1, .ref 24)], [.ref 100], (0, 0), ks i2 a2 q2 r2) (by rfl) ?_
              refine ko_callI mi_k21.1 (pc := 145) (ls := [(2, .int (l2_2 + 1)), (5, .int ((a2 102).getD l2_2.toNatClampNeg 0)), (4, .int ((a2 101).getD l2_2.toNatClampNeg 0)), (3, .int l3_2), (0, .ref 100), (1, .ref 24)]) (st := [.ref 100]) (h := ks i2 a2 q2 r2) (i := (.invokevirtual 36, 3, 20, 0, 9, 0, 226)) (mi_k21.2 _ _ (by rfl)) (ft_invS mi_pq20 (by rfl)) (cy := mi_c20) mi_pq20 rfl (ke20_100 hG32.I hG32.R ) (by decide) ?_
              intro vg33 ig33 ag33 qg33 rg33 kg33 hg33
              have hGg33 := kG_call hG32 kg33 (by decide +kernel)
              obtain ⟨hg33, og33⟩ := hg33
              exact ft_ret mi_k21 (by rfl) (hP vg33 _ _ _ _ hGg33 ⟨trivial, (show vg33 = lRun (a 101) (a 102) (a 24) (i 6403) 121 0 (a 103, 0) from (lRun_ans (n := (120 - l3_2.toInt).toNat) O2_0 (kj_left2 (od12 c5 kod121)) ⟨(od5 c8 kod0), (od20 c11 efi2_6403)⟩ (kL_cast (hL2.fa 101 rfl) (od36 w31)) og33))⟩)
            by_cases w35 : ((a2 101).getD l2_2.toNatClampNeg 0).toInt = 3
            ·
              refine ft_swx mi_k21 (pc := 48) (v := 3) (t := 149) (kj_eq w35 (by decide) : ((a2 101).getD l2_2.toNatClampNeg 0) = 3) (by decide +kernel) ?_
              first | refine ft_go mi_k21 1 150 [(2, .int (l2_2 + 1)), (5, .int ((a2 102).getD l2_2.toNatClampNeg 0)), (4, .int ((a2 101).getD l2_2.toNatClampNeg 0)), (3, .int l3_2), (0, .ref 100), (1, .ref 24)] [.ref 100] i2 a2 q2 r2 (by rfl) ?_ | refine ko_steps mi_in21 1 _ (150, [(2, .int (l2_2 + 1)), (5, .int ((a2 102).getD l2_2.toNatClampNeg 0)), (4, .int ((a2 101).getD l2_2.toNatClampNeg 0)), (3, .int l3_2), (0, .ref 100), (1, .ref 24)], [.ref 100], (0, 0), ks i2 a2 q2 r2) (by rfl) ?_
              refine ko_callI mi_k21.1 (pc := 150) (ls := [(2, .int (l2_2 + 1)), (5, .int ((a2 102).getD l2_2.toNatClampNeg 0)), (4, .int ((a2 101).getD l2_2.toNatClampNeg 0)), (3, .int l3_2), (0, .ref 100), (1, .ref 24)]) (st := [.ref 100]) (h := ks i2 a2 q2 r2) (i := (.invokevirtual 36, 3, 20, 0, 9, 0, 226)) (mi_k21.2 _ _ (by rfl)) (ft_invS mi_pq20 (by rfl)) (cy := mi_c20) mi_pq20 rfl (ke20_100 hL2.I hL2.R ) (by decide) ?_
              intro vg36 ig36 ag36 qg36 rg36 kg36 hg36
              have hGg36 := kG_call hL2 kg36 (by decide +kernel)
              obtain ⟨hg36, og36⟩ := hg36
              have fi2_6405 : ((0 : Int) ≤ (i2 6405).toInt) ∧ ((i2 6405).toInt ≤ 121) := hL2.I.1 6405
              have fig36_6405 : ((0 : Int) ≤ (ig36 6405).toInt) ∧ ((ig36 6405).toInt ≤ 121) := hGg36.I.1 6405
              have z37 : (((1 : Int) ≤ (i2 6405).toInt) ∧ ((ig36 6405).toInt = ((i2 6405).toInt - 1))) ∨ (((i2 6405).toInt ≤ 0) ∧ ((ig36 6405).toInt = (i2 6405).toInt)) := hg36
              refine ft_if mi_k21 (vg36 != 0) 214 156 [(2, .int (l2_2 + 1)), (5, .int ((a2 102).getD l2_2.toNatClampNeg 0)), (4, .int ((a2 101).getD l2_2.toNatClampNeg 0)), (3, .int l3_2), (0, .ref 100), (1, .ref 24)] [] (by rfl) (fun c => ?_) (fun c => ?_)
              ·
                have c38 : vg36.toInt ≠ (0 : Int32).toInt := kd_ne c; clear c
                have s39 : (l3_2 + 1).toInt = l3_2.toInt + (1 : Int32).toInt := kd_add (od13 p2_0 kod1) (od19 c5 kod121 kod1)
                first | refine ft_go mi_k21 2 9 [(3, .int (l3_2 + 1)), (2, .int (l2_2 + 1)), (5, .int ((a2 102).getD l2_2.toNatClampNeg 0)), (4, .int ((a2 101).getD l2_2.toNatClampNeg 0)), (0, .ref 100), (1, .ref 24)] [] ig36 ag36 qg36 rg36 (by rfl) ?_ | refine ko_steps mi_in21 2 _ (9, [(3, .int (l3_2 + 1)), (2, .int (l2_2 + 1)), (5, .int ((a2 102).getD l2_2.toNatClampNeg 0)), (4, .int ((a2 101).getD l2_2.toNatClampNeg 0)), (0, .ref 100), (1, .ref 24)], [], (0, 0), ks ig36 ag36 qg36 rg36) (by rfl) ?_
                refine ko_perm [(3, .int (l3_2 + 1)), (2, .int (l2_2 + 1)), (0, .ref 100), (1, .ref 24)] (List.forall_mem_cons.mpr ⟨(List.Mem.head _), (List.forall_mem_cons.mpr ⟨(List.Mem.tail _ (List.Mem.head _)), (List.forall_mem_cons.mpr ⟨(List.Mem.tail _ (List.Mem.tail _ (List.Mem.tail _ (List.Mem.tail _ (List.Mem.head _))))), (List.forall_mem_cons.mpr ⟨(List.Mem.tail _ (List.Mem.tail _ (List.Mem.tail _ (List.Mem.tail _ (List.Mem.tail _ (List.Mem.head _)))))), (fun _ h => absurd h List.not_mem_nil)⟩)⟩)⟩)⟩) ?_
                exact ih2 _ _ _ _ _ _ hGg36 (od15 p2_0 s39 kod1) (lRun_skip O2_0 (kj_left (od12 c5 kod121) (od21 s39 kod1)) ⟨(od5 c8 kod0), (od20 c11 efi2_6403)⟩ (kL_cast (hL2.fa 101 rfl) (od37 w35)) og36 (by have k0_ : (0 : Int32).toInt = 0 := (by decide); have k6_ : (6 : Int32).toInt = 6 := (by decide); rw [← ((hL2.fa 102 rfl) : a2 102 = a 102)]; split <;> first | rfl | (exfalso; omega))) (kj_meas (od23 s39 kod1) (od24 c5 kod121) hm2)
              ·
                have c40 : vg36.toInt = (0 : Int32).toInt := kd_neF c; clear c
                have s41 : (l3_2 + 1).toInt = l3_2.toInt + (1 : Int32).toInt := kd_add (od13 p2_0 kod1) (od19 c5 kod121 kod1)
                first | refine ft_go mi_k21 5 9 [(3, .int (l3_2 + 1)), (2, .int ((a2 102).getD l2_2.toNatClampNeg 0)), (5, .int ((a2 102).getD l2_2.toNatClampNeg 0)), (4, .int ((a2 101).getD l2_2.toNatClampNeg 0)), (0, .ref 100), (1, .ref 24)] [] ig36 ag36 qg36 rg36 (by rfl) ?_ | refine ko_steps mi_in21 5 _ (9, [(3, .int (l3_2 + 1)), (2, .int ((a2 102).getD l2_2.toNatClampNeg 0)), (5, .int ((a2 102).getD l2_2.toNatClampNeg 0)), (4, .int ((a2 101).getD l2_2.toNatClampNeg 0)), (0, .ref 100), (1, .ref 24)], [], (0, 0), ks ig36 ag36 qg36 rg36) (by rfl) ?_
                refine ko_perm [(3, .int (l3_2 + 1)), (2, .int ((a2 102).getD l2_2.toNatClampNeg 0)), (0, .ref 100), (1, .ref 24)] (List.forall_mem_cons.mpr ⟨(List.Mem.head _), (List.forall_mem_cons.mpr ⟨(List.Mem.tail _ (List.Mem.head _)), (List.forall_mem_cons.mpr ⟨(List.Mem.tail _ (List.Mem.tail _ (List.Mem.tail _ (List.Mem.tail _ (List.Mem.head _))))), (List.forall_mem_cons.mpr ⟨(List.Mem.tail _ (List.Mem.tail _ (List.Mem.tail _ (List.Mem.tail _ (List.Mem.tail _ (List.Mem.head _)))))), (fun _ h => absurd h List.not_mem_nil)⟩)⟩)⟩)⟩) ?_
                exact ih2 _ _ _ _ _ _ hGg36 (od15 p2_0 s41 kod1) (lRun_skip O2_0 (kj_left (od12 c5 kod121) (od21 s41 kod1)) ⟨(od5 c8 kod0), (od20 c11 efi2_6403)⟩ (kL_cast (hL2.fa 101 rfl) (od37 w35)) og36 (by have k0_ : (0 : Int32).toInt = 0 := (by decide); have k6_ : (6 : Int32).toInt = 6 := (by decide); rw [← ((hL2.fa 102 rfl) : a2 102 = a 102)]; split <;> first | rfl | (exfalso; omega))) (kj_meas (od23 s41 kod1) (od24 c5 kod121) hm2)
            by_cases w42 : ((a2 101).getD l2_2.toNatClampNeg 0).toInt = 33
            ·
              refine ft_swx mi_k21 (pc := 48) (v := 33) (t := 162) (kj_eq w42 (by decide) : ((a2 101).getD l2_2.toNatClampNeg 0) = 33) (by decide +kernel) ?_
              first | refine ft_go mi_k21 2 164 [(2, .int (l2_2 + 1)), (5, .int ((a2 102).getD l2_2.toNatClampNeg 0)), (4, .int ((a2 101).getD l2_2.toNatClampNeg 0)), (3, .int l3_2), (0, .ref 100), (1, .ref 24)] [.ref 100, .ref 100] i2 a2 q2 r2 (by rfl) ?_ | refine ko_steps mi_in21 2 _ (164, [(2, .int (l2_2 + 1)), (5, .int ((a2 102).getD l2_2.toNatClampNeg 0)), (4, .int ((a2 101).getD l2_2.toNatClampNeg 0)), (3, .int l3_2), (0, .ref 100), (1, .ref 24)], [.ref 100, .ref 100], (0, 0), ks i2 a2 q2 r2) (by rfl) ?_
              refine ko_callI mi_k21.1 (pc := 164) (ls := [(2, .int (l2_2 + 1)), (5, .int ((a2 102).getD l2_2.toNatClampNeg 0)), (4, .int ((a2 101).getD l2_2.toNatClampNeg 0)), (3, .int l3_2), (0, .ref 100), (1, .ref 24)]) (st := [.ref 100, .ref 100]) (h := ks i2 a2 q2 r2) (i := (.invokevirtual 36, 3, 20, 0, 9, 0, 226)) (mi_k21.2 _ _ (by rfl)) (ft_invS mi_pq20 (by rfl)) (cy := mi_c20) mi_pq20 rfl (ke20_100 hL2.I hL2.R ) (by decide) ?_
              intro vg43 ig43 ag43 qg43 rg43 kg43 hg43
              have hGg43 := kG_call hL2 kg43 (by decide +kernel)
              obtain ⟨hg43, og43⟩ := hg43
              have fi2_6405 : ((0 : Int) ≤ (i2 6405).toInt) ∧ ((i2 6405).toInt ≤ 121) := hL2.I.1 6405
              have fig43_6405 : ((0 : Int) ≤ (ig43 6405).toInt) ∧ ((ig43 6405).toInt ≤ 121) := hGg43.I.1 6405
              have z44 : (((1 : Int) ≤ (i2 6405).toInt) ∧ ((ig43 6405).toInt = ((i2 6405).toInt - 1))) ∨ (((i2 6405).toInt ≤ 0) ∧ ((ig43 6405).toInt = (i2 6405).toInt)) := hg43
              refine ft_if mi_k21 (vg43 != 0) 174 170 [(2, .int (l2_2 + 1)), (5, .int ((a2 102).getD l2_2.toNatClampNeg 0)), (4, .int ((a2 101).getD l2_2.toNatClampNeg 0)), (3, .int l3_2), (0, .ref 100), (1, .ref 24)] [.ref 100] (by rfl) (fun c => ?_) (fun c => ?_)
              ·
                have c45 : vg43.toInt ≠ (0 : Int32).toInt := kd_ne c; clear c
                first | refine ft_go mi_k21 1 175 [(2, .int (l2_2 + 1)), (5, .int ((a2 102).getD l2_2.toNatClampNeg 0)), (4, .int ((a2 101).getD l2_2.toNatClampNeg 0)), (3, .int l3_2), (0, .ref 100), (1, .ref 24)] [.int 0, .ref 100] ig43 ag43 qg43 rg43 (by rfl) ?_ | refine ko_steps mi_in21 1 _ (175, [(2, .int (l2_2 + 1)), (5, .int ((a2 102).getD l2_2.toNatClampNeg 0)), (4, .int ((a2 101).getD l2_2.toNatClampNeg 0)), (3, .int l3_2), (0, .ref 100), (1, .ref 24)], [.int 0, .ref 100], (0, 0), ks ig43 ag43 qg43 rg43) (by rfl) ?_
                refine ko_callN mi_k21.1 (pc := 175) (ls := [(2, .int (l2_2 + 1)), (5, .int ((a2 102).getD l2_2.toNatClampNeg 0)), (4, .int ((a2 101).getD l2_2.toNatClampNeg 0)), (3, .int l3_2), (0, .ref 100), (1, .ref 24)]) (st := [.int 0, .ref 100]) (h := ks ig43 ag43 qg43 rg43) (i := (.invokevirtual 32, 3, 19, 0, 9, 0, 225)) (mi_k21.2 _ _ (by rfl)) (ft_invS mi_pq19 (by rfl)) (cy := mi_c19) mi_pq19 rfl (ke19_100 hGg43.I hGg43.R 0) (by decide) ?_
                intro ig46 ag46 qg46 rg46 kg46 hg46
                have hGg46 := kG_call hGg43 kg46 (by decide +kernel)
                obtain ⟨hg46, og46⟩ := hg46
                have fig46_6405 : ((0 : Int) ≤ (ig46 6405).toInt) ∧ ((ig46 6405).toInt ≤ 121) := hGg46.I.1 6405
                have z47 : (((ig43 6405).toInt ≤ 120) ∧ ((ig46 6405).toInt = ((ig43 6405).toInt + 1))) ∨ (((121 : Int) ≤ (ig43 6405).toInt) ∧ ((ig46 6405).toInt = (ig43 6405).toInt)) := hg46
                have s48 : (l3_2 + 1).toInt = l3_2.toInt + (1 : Int32).toInt := kd_add (od13 p2_0 kod1) (od19 c5 kod121 kod1)
                first | refine ft_go mi_k21 3 9 [(3, .int (l3_2 + 1)), (2, .int (l2_2 + 1)), (5, .int ((a2 102).getD l2_2.toNatClampNeg 0)), (4, .int ((a2 101).getD l2_2.toNatClampNeg 0)), (0, .ref 100), (1, .ref 24)] [] ig46 ag46 qg46 rg46 (by rfl) ?_ | refine ko_steps mi_in21 3 _ (9, [(3, .int (l3_2 + 1)), (2, .int (l2_2 + 1)), (5, .int ((a2 102).getD l2_2.toNatClampNeg 0)), (4, .int ((a2 101).getD l2_2.toNatClampNeg 0)), (0, .ref 100), (1, .ref 24)], [], (0, 0), ks ig46 ag46 qg46 rg46) (by rfl) ?_
                refine ko_perm [(3, .int (l3_2 + 1)), (2, .int (l2_2 + 1)), (0, .ref 100), (1, .ref 24)] (List.forall_mem_cons.mpr ⟨(List.Mem.head _), (List.forall_mem_cons.mpr ⟨(List.Mem.tail _ (List.Mem.head _)), (List.forall_mem_cons.mpr ⟨(List.Mem.tail _ (List.Mem.tail _ (List.Mem.tail _ (List.Mem.tail _ (List.Mem.head _))))), (List.forall_mem_cons.mpr ⟨(List.Mem.tail _ (List.Mem.tail _ (List.Mem.tail _ (List.Mem.tail _ (List.Mem.tail _ (List.Mem.head _)))))), (fun _ h => absurd h List.not_mem_nil)⟩)⟩)⟩)⟩) ?_
                exact ih2 _ _ _ _ _ _ hGg46 (od15 p2_0 s48 kod1) (lRun_not O2_0 (kj_left (od12 c5 kod121) (od21 s48 kod1)) ⟨(od5 c8 kod0), (od20 c11 efi2_6403)⟩ (kL_cast (hL2.fa 101 rfl) (od38 w42)) og43 (by have k0_ : (0 : Int32).toInt = 0 := (by decide); have k6_ : (6 : Int32).toInt = 6 := (by decide); split <;> first | rfl | (exfalso; omega)) og46) (kj_meas (od23 s48 kod1) (od24 c5 kod121) hm2)
              ·
                have c49 : vg43.toInt = (0 : Int32).toInt := kd_neF c; clear c
                first | refine ft_go mi_k21 2 175 [(2, .int (l2_2 + 1)), (5, .int ((a2 102).getD l2_2.toNatClampNeg 0)), (4, .int ((a2 101).getD l2_2.toNatClampNeg 0)), (3, .int l3_2), (0, .ref 100), (1, .ref 24)] [.int 1, .ref 100] ig43 ag43 qg43 rg43 (by rfl) ?_ | refine ko_steps mi_in21 2 _ (175, [(2, .int (l2_2 + 1)), (5, .int ((a2 102).getD l2_2.toNatClampNeg 0)), (4, .int ((a2 101).getD l2_2.toNatClampNeg 0)), (3, .int l3_2), (0, .ref 100), (1, .ref 24)], [.int 1, .ref 100], (0, 0), ks ig43 ag43 qg43 rg43) (by rfl) ?_
                refine ko_callN mi_k21.1 (pc := 175) (ls := [(2, .int (l2_2 + 1)), (5, .int ((a2 102).getD l2_2.toNatClampNeg 0)), (4, .int ((a2 101).getD l2_2.toNatClampNeg 0)), (3, .int l3_2), (0, .ref 100), (1, .ref 24)]) (st := [.int 1, .ref 100]) (h := ks ig43 ag43 qg43 rg43) (i := (.invokevirtual 32, 3, 19, 0, 9, 0, 225)) (mi_k21.2 _ _ (by rfl)) (ft_invS mi_pq19 (by rfl)) (cy := mi_c19) mi_pq19 rfl (ke19_100 hGg43.I hGg43.R 1) (by decide) ?_
                intro ig50 ag50 qg50 rg50 kg50 hg50
                have hGg50 := kG_call hGg43 kg50 (by decide +kernel)
                obtain ⟨hg50, og50⟩ := hg50
                have fig50_6405 : ((0 : Int) ≤ (ig50 6405).toInt) ∧ ((ig50 6405).toInt ≤ 121) := hGg50.I.1 6405
                have z51 : (((ig43 6405).toInt ≤ 120) ∧ ((ig50 6405).toInt = ((ig43 6405).toInt + 1))) ∨ (((121 : Int) ≤ (ig43 6405).toInt) ∧ ((ig50 6405).toInt = (ig43 6405).toInt)) := hg50
                have s52 : (l3_2 + 1).toInt = l3_2.toInt + (1 : Int32).toInt := kd_add (od13 p2_0 kod1) (od19 c5 kod121 kod1)
                first | refine ft_go mi_k21 3 9 [(3, .int (l3_2 + 1)), (2, .int (l2_2 + 1)), (5, .int ((a2 102).getD l2_2.toNatClampNeg 0)), (4, .int ((a2 101).getD l2_2.toNatClampNeg 0)), (0, .ref 100), (1, .ref 24)] [] ig50 ag50 qg50 rg50 (by rfl) ?_ | refine ko_steps mi_in21 3 _ (9, [(3, .int (l3_2 + 1)), (2, .int (l2_2 + 1)), (5, .int ((a2 102).getD l2_2.toNatClampNeg 0)), (4, .int ((a2 101).getD l2_2.toNatClampNeg 0)), (0, .ref 100), (1, .ref 24)], [], (0, 0), ks ig50 ag50 qg50 rg50) (by rfl) ?_
                refine ko_perm [(3, .int (l3_2 + 1)), (2, .int (l2_2 + 1)), (0, .ref 100), (1, .ref 24)] (List.forall_mem_cons.mpr ⟨(List.Mem.head _), (List.forall_mem_cons.mpr ⟨(List.Mem.tail _ (List.Mem.head _)), (List.forall_mem_cons.mpr ⟨(List.Mem.tail _ (List.Mem.tail _ (List.Mem.tail _ (List.Mem.tail _ (List.Mem.head _))))), (List.forall_mem_cons.mpr ⟨(List.Mem.tail _ (List.Mem.tail _ (List.Mem.tail _ (List.Mem.tail _ (List.Mem.tail _ (List.Mem.head _)))))), (fun _ h => absurd h List.not_mem_nil)⟩)⟩)⟩)⟩) ?_
                exact ih2 _ _ _ _ _ _ hGg50 (od15 p2_0 s52 kod1) (lRun_not O2_0 (kj_left (od12 c5 kod121) (od21 s52 kod1)) ⟨(od5 c8 kod0), (od20 c11 efi2_6403)⟩ (kL_cast (hL2.fa 101 rfl) (od38 w42)) og43 (by have k0_ : (0 : Int32).toInt = 0 := (by decide); have k6_ : (6 : Int32).toInt = 6 := (by decide); split <;> first | rfl | (exfalso; omega)) og50) (kj_meas (od23 s52 kod1) (od24 c5 kod121) hm2)
            by_cases w53 : ((a2 101).getD l2_2.toNatClampNeg 0).toInt = 126
            ·
              refine ft_swx mi_k21 (pc := 48) (v := 126) (t := 181) (kj_eq w53 (by decide) : ((a2 101).getD l2_2.toNatClampNeg 0) = 126) (by decide +kernel) ?_
              first | refine ft_go mi_k21 2 183 [(2, .int (l2_2 + 1)), (5, .int ((a2 102).getD l2_2.toNatClampNeg 0)), (4, .int ((a2 101).getD l2_2.toNatClampNeg 0)), (3, .int l3_2), (0, .ref 100), (1, .ref 24)] [.ref 100, .ref 100] i2 a2 q2 r2 (by rfl) ?_ | refine ko_steps mi_in21 2 _ (183, [(2, .int (l2_2 + 1)), (5, .int ((a2 102).getD l2_2.toNatClampNeg 0)), (4, .int ((a2 101).getD l2_2.toNatClampNeg 0)), (3, .int l3_2), (0, .ref 100), (1, .ref 24)], [.ref 100, .ref 100], (0, 0), ks i2 a2 q2 r2) (by rfl) ?_
              refine ko_callI mi_k21.1 (pc := 183) (ls := [(2, .int (l2_2 + 1)), (5, .int ((a2 102).getD l2_2.toNatClampNeg 0)), (4, .int ((a2 101).getD l2_2.toNatClampNeg 0)), (3, .int l3_2), (0, .ref 100), (1, .ref 24)]) (st := [.ref 100, .ref 100]) (h := ks i2 a2 q2 r2) (i := (.invokevirtual 36, 3, 20, 0, 9, 0, 226)) (mi_k21.2 _ _ (by rfl)) (ft_invS mi_pq20 (by rfl)) (cy := mi_c20) mi_pq20 rfl (ke20_100 hL2.I hL2.R ) (by decide) ?_
              intro vg54 ig54 ag54 qg54 rg54 kg54 hg54
              have hGg54 := kG_call hL2 kg54 (by decide +kernel)
              obtain ⟨hg54, og54⟩ := hg54
              first | refine ft_go mi_k21 1 187 [(2, .int (l2_2 + 1)), (5, .int ((a2 102).getD l2_2.toNatClampNeg 0)), (4, .int ((a2 101).getD l2_2.toNatClampNeg 0)), (3, .int l3_2), (0, .ref 100), (1, .ref 24)] [.int (-vg54), .ref 100] ig54 ag54 qg54 rg54 (by rfl) ?_ | refine ko_steps mi_in21 1 _ (187, [(2, .int (l2_2 + 1)), (5, .int ((a2 102).getD l2_2.toNatClampNeg 0)), (4, .int ((a2 101).getD l2_2.toNatClampNeg 0)), (3, .int l3_2), (0, .ref 100), (1, .ref 24)], [.int (-vg54), .ref 100], (0, 0), ks ig54 ag54 qg54 rg54) (by rfl) ?_
              refine ko_callN mi_k21.1 (pc := 187) (ls := [(2, .int (l2_2 + 1)), (5, .int ((a2 102).getD l2_2.toNatClampNeg 0)), (4, .int ((a2 101).getD l2_2.toNatClampNeg 0)), (3, .int l3_2), (0, .ref 100), (1, .ref 24)]) (st := [.int (-vg54), .ref 100]) (h := ks ig54 ag54 qg54 rg54) (i := (.invokevirtual 32, 3, 19, 0, 9, 0, 225)) (mi_k21.2 _ _ (by rfl)) (ft_invS mi_pq19 (by rfl)) (cy := mi_c19) mi_pq19 rfl (ke19_100 hGg54.I hGg54.R (-vg54)) (by decide) ?_
              intro ig56 ag56 qg56 rg56 kg56 hg56
              have hGg56 := kG_call hGg54 kg56 (by decide +kernel)
              obtain ⟨hg56, og56⟩ := hg56
              have s58 : (l3_2 + 1).toInt = l3_2.toInt + (1 : Int32).toInt := kd_add (od13 p2_0 kod1) (od19 c5 kod121 kod1)
              first | refine ft_go mi_k21 3 9 [(3, .int (l3_2 + 1)), (2, .int (l2_2 + 1)), (5, .int ((a2 102).getD l2_2.toNatClampNeg 0)), (4, .int ((a2 101).getD l2_2.toNatClampNeg 0)), (0, .ref 100), (1, .ref 24)] [] ig56 ag56 qg56 rg56 (by rfl) ?_ | refine ko_steps mi_in21 3 _ (9, [(3, .int (l3_2 + 1)), (2, .int (l2_2 + 1)), (5, .int ((a2 102).getD l2_2.toNatClampNeg 0)), (4, .int ((a2 101).getD l2_2.toNatClampNeg 0)), (0, .ref 100), (1, .ref 24)], [], (0, 0), ks ig56 ag56 qg56 rg56) (by rfl) ?_
              refine ko_perm [(3, .int (l3_2 + 1)), (2, .int (l2_2 + 1)), (0, .ref 100), (1, .ref 24)] (List.forall_mem_cons.mpr ⟨(List.Mem.head _), (List.forall_mem_cons.mpr ⟨(List.Mem.tail _ (List.Mem.head _)), (List.forall_mem_cons.mpr ⟨(List.Mem.tail _ (List.Mem.tail _ (List.Mem.tail _ (List.Mem.tail _ (List.Mem.head _))))), (List.forall_mem_cons.mpr ⟨(List.Mem.tail _ (List.Mem.tail _ (List.Mem.tail _ (List.Mem.tail _ (List.Mem.tail _ (List.Mem.head _)))))), (fun _ h => absurd h List.not_mem_nil)⟩)⟩)⟩)⟩) ?_
              exact ih2 _ _ _ _ _ _ hGg56 (od15 p2_0 s58 kod1) (lRun_neg O2_0 (kj_left (od12 c5 kod121) (od21 s58 kod1)) ⟨(od5 c8 kod0), (od20 c11 efi2_6403)⟩ (kL_cast (hL2.fa 101 rfl) (od39 w53)) og54 rfl og56) (kj_meas (od23 s58 kod1) (od24 c5 kod121) hm2)
            refine ko_lsw (ls := [(2, .int (l2_2 + 1)), (5, .int ((a2 102).getD l2_2.toNatClampNeg 0)), (4, .int ((a2 101).getD l2_2.toNatClampNeg 0)), (3, .int l3_2), (0, .ref 100), (1, .ref 24)]) (r := []) (h := ks i2 a2 q2 r2) mi_in21 (v := ((a2 101).getD l2_2.toNatClampNeg 0)) (i := (.lookupswitch 145 #[(0, 60), (1, 69), (2, 96), (3, 101), (33, 114), (126, 133)], 60, 0, 0, 0, 0, 0)) (by rfl) rfl (by simp only [Op.lookupswitch.offset, if_neg (Ne.symm w13), if_neg (Ne.symm w17), if_neg (Ne.symm w31), if_neg (Ne.symm w35), if_neg (Ne.symm w42), if_neg (Ne.symm w53)] <;> rfl) 193 (by rfl) ?_
            first | refine ft_go mi_k21 1 194 [(2, .int (l2_2 + 1)), (5, .int ((a2 102).getD l2_2.toNatClampNeg 0)), (4, .int ((a2 101).getD l2_2.toNatClampNeg 0)), (3, .int l3_2), (0, .ref 100), (1, .ref 24)] [.ref 100] i2 a2 q2 r2 (by rfl) ?_ | refine ko_steps mi_in21 1 _ (194, [(2, .int (l2_2 + 1)), (5, .int ((a2 102).getD l2_2.toNatClampNeg 0)), (4, .int ((a2 101).getD l2_2.toNatClampNeg 0)), (3, .int l3_2), (0, .ref 100), (1, .ref 24)], [.ref 100], (0, 0), ks i2 a2 q2 r2) (by rfl) ?_
            refine ko_callI mi_k21.1 (pc := 194) (ls := [(2, .int (l2_2 + 1)), (5, .int ((a2 102).getD l2_2.toNatClampNeg 0)), (4, .int ((a2 101).getD l2_2.toNatClampNeg 0)), (3, .int l3_2), (0, .ref 100), (1, .ref 24)]) (st := [.ref 100]) (h := ks i2 a2 q2 r2) (i := (.invokevirtual 36, 3, 20, 0, 9, 0, 226)) (mi_k21.2 _ _ (by rfl)) (ft_invS mi_pq20 (by rfl)) (cy := mi_c20) mi_pq20 rfl (ke20_100 hL2.I hL2.R ) (by decide) ?_
            intro vg59 ig59 ag59 qg59 rg59 kg59 hg59
            have hGg59 := kG_call hL2 kg59 (by decide +kernel)
            obtain ⟨hg59, og59⟩ := hg59
            first | refine ft_go mi_k21 4 203 [(6, .int vg59), (2, .int (l2_2 + 1)), (5, .int ((a2 102).getD l2_2.toNatClampNeg 0)), (4, .int ((a2 101).getD l2_2.toNatClampNeg 0)), (3, .int l3_2), (0, .ref 100), (1, .ref 24)] [.ref 100, .int ((a2 101).getD l2_2.toNatClampNeg 0), .ref 100] ig59 ag59 qg59 rg59 (by rfl) ?_ | refine ko_steps mi_in21 4 _ (203, [(6, .int vg59), (2, .int (l2_2 + 1)), (5, .int ((a2 102).getD l2_2.toNatClampNeg 0)), (4, .int ((a2 101).getD l2_2.toNatClampNeg 0)), (3, .int l3_2), (0, .ref 100), (1, .ref 24)], [.ref 100, .int ((a2 101).getD l2_2.toNatClampNeg 0), .ref 100], (0, 0), ks ig59 ag59 qg59 rg59) (by rfl) ?_
            refine ko_callI mi_k21.1 (pc := 203) (ls := [(6, .int vg59), (2, .int (l2_2 + 1)), (5, .int ((a2 102).getD l2_2.toNatClampNeg 0)), (4, .int ((a2 101).getD l2_2.toNatClampNeg 0)), (3, .int l3_2), (0, .ref 100), (1, .ref 24)]) (st := [.ref 100, .int ((a2 101).getD l2_2.toNatClampNeg 0), .ref 100]) (h := ks ig59 ag59 qg59 rg59) (i := (.invokevirtual 36, 3, 20, 0, 9, 0, 226)) (mi_k21.2 _ _ (by rfl)) (ft_invS mi_pq20 (by rfl)) (cy := mi_c20) mi_pq20 rfl (ke20_100 hGg59.I hGg59.R ) (by decide) ?_
            intro vg61 ig61 ag61 qg61 rg61 kg61 hg61
            have hGg61 := kG_call hGg59 kg61 (by decide +kernel)
            obtain ⟨hg61, og61⟩ := hg61
            first | refine ft_go mi_k21 1 208 [(6, .int vg59), (2, .int (l2_2 + 1)), (5, .int ((a2 102).getD l2_2.toNatClampNeg 0)), (4, .int ((a2 101).getD l2_2.toNatClampNeg 0)), (3, .int l3_2), (0, .ref 100), (1, .ref 24)] [.int vg59, .int vg61, .int ((a2 101).getD l2_2.toNatClampNeg 0), .ref 100] ig61 ag61 qg61 rg61 (by rfl) ?_ | refine ko_steps mi_in21 1 _ (208, [(6, .int vg59), (2, .int (l2_2 + 1)), (5, .int ((a2 102).getD l2_2.toNatClampNeg 0)), (4, .int ((a2 101).getD l2_2.toNatClampNeg 0)), (3, .int l3_2), (0, .ref 100), (1, .ref 24)], [.int vg59, .int vg61, .int ((a2 101).getD l2_2.toNatClampNeg 0), .ref 100], (0, 0), ks ig61 ag61 qg61 rg61) (by rfl) ?_
            refine ko_callPI mi_k21.1 (pc := 208) (ls := [(6, .int vg59), (2, .int (l2_2 + 1)), (5, .int ((a2 102).getD l2_2.toNatClampNeg 0)), (4, .int ((a2 101).getD l2_2.toNatClampNeg 0)), (3, .int l3_2), (0, .ref 100), (1, .ref 24)]) (st := [.int vg59, .int vg61, .int ((a2 101).getD l2_2.toNatClampNeg 0), .ref 100]) (h := ks ig61 ag61 qg61 rg61) (i := (.invokestatic 40, 3, 22, 0, 9, 0, 227)) (mi_k21.2 _ _ (by rfl)) (ft_invS mi_pq22 (by rfl)) (cy := mi_c22) mi_pq22 rfl (ke22 hGg61.I hGg61.R ((a2 101).getD l2_2.toNatClampNeg 0) vg61 vg59) (by decide) ?_
            intro vg63 hg63
            obtain ⟨hg63, og63⟩ := hg63
            have q64 : vg63 = cJoin ((a2 101).getD l2_2.toNatClampNeg 0) vg61 vg59 := og63
            refine ko_callN mi_k21.1 (pc := 211) (ls := [(6, .int vg59), (2, .int (l2_2 + 1)), (5, .int ((a2 102).getD l2_2.toNatClampNeg 0)), (4, .int ((a2 101).getD l2_2.toNatClampNeg 0)), (3, .int l3_2), (0, .ref 100), (1, .ref 24)]) (st := [.int vg63, .ref 100]) (h := ks ig61 ag61 qg61 rg61) (i := (.invokevirtual 32, 3, 19, 0, 9, 0, 225)) (mi_k21.2 _ _ (by rfl)) (ft_invS mi_pq19 (by rfl)) (cy := mi_c19) mi_pq19 rfl (ke19_100 hGg61.I hGg61.R vg63) (by decide) ?_
            intro ig65 ag65 qg65 rg65 kg65 hg65
            have hGg65 := kG_call hGg61 kg65 (by decide +kernel)
            obtain ⟨hg65, og65⟩ := hg65
            have s67 : (l3_2 + 1).toInt = l3_2.toInt + (1 : Int32).toInt := kd_add (od13 p2_0 kod1) (od19 c5 kod121 kod1)
            first | refine ft_go mi_k21 2 9 [(3, .int (l3_2 + 1)), (6, .int vg59), (2, .int (l2_2 + 1)), (5, .int ((a2 102).getD l2_2.toNatClampNeg 0)), (4, .int ((a2 101).getD l2_2.toNatClampNeg 0)), (0, .ref 100), (1, .ref 24)] [] ig65 ag65 qg65 rg65 (by rfl) ?_ | refine ko_steps mi_in21 2 _ (9, [(3, .int (l3_2 + 1)), (6, .int vg59), (2, .int (l2_2 + 1)), (5, .int ((a2 102).getD l2_2.toNatClampNeg 0)), (4, .int ((a2 101).getD l2_2.toNatClampNeg 0)), (0, .ref 100), (1, .ref 24)], [], (0, 0), ks ig65 ag65 qg65 rg65) (by rfl) ?_
            refine ko_perm [(3, .int (l3_2 + 1)), (2, .int (l2_2 + 1)), (0, .ref 100), (1, .ref 24)] (List.forall_mem_cons.mpr ⟨(List.Mem.head _), (List.forall_mem_cons.mpr ⟨(List.Mem.tail _ (List.Mem.tail _ (List.Mem.head _))), (List.forall_mem_cons.mpr ⟨(List.Mem.tail _ (List.Mem.tail _ (List.Mem.tail _ (List.Mem.tail _ (List.Mem.tail _ (List.Mem.head _)))))), (List.forall_mem_cons.mpr ⟨(List.Mem.tail _ (List.Mem.tail _ (List.Mem.tail _ (List.Mem.tail _ (List.Mem.tail _ (List.Mem.tail _ (List.Mem.head _))))))), (fun _ h => absurd h List.not_mem_nil)⟩)⟩)⟩)⟩) ?_
            exact ih2 _ _ _ _ _ _ hGg65 (od15 p2_0 s67 kod1) (lRun_bin O2_0 (kj_left (od12 c5 kod121) (od21 s67 kod1)) ⟨(od5 c8 kod0), (od20 c11 efi2_6403)⟩ (kL_castn (hL2.fa 101 rfl) (od41 w13)) (kL_castn (hL2.fa 101 rfl) (od42 w13 w17)) (kL_castn (hL2.fa 101 rfl) (od43 w13 w17 w31)) (kL_castn (hL2.fa 101 rfl) (od44 w13 w17 w31 w35)) (kL_castn (hL2.fa 101 rfl) (od45 w42)) (kL_castn (hL2.fa 101 rfl) (od46 w53)) og59 og61 (og63.trans (congrArg (fun z : List Int32 => cJoin (z.getD l2_2.toNatClampNeg 0) _ _) (hL2.fa 101 rfl))) og65) (kj_meas (od23 s67 kod1) (od24 c5 kod121) hm2)
  exact lp2 _ _ _ _ _ _ _ (kG_self _ hJ1.I hJ1.R) (od0 kod0) (by rw [kod0]; rfl) (Nat.lt_succ_self _)
def yw31_1 : kW := ([645, 6405], [13, 24, 103], [], [])
set_option maxRecDepth 100000 in
theorem ke31_1 {i : Nat → Int32} {a : Nat → List Int32} {q : Nat → List Int64} {r : Nat → Nat} (hI : kI i a q) (hr : kr r) (x1 : Int32) (x2 : Int32) (hp0 : ((0 : Int) ≤ x1.toInt) ∧ (x1.toInt ≤ 7)) : km 5 31 [.ref 1, .int x1, .int x2] (ks i a q r) (kVI yw31_1 i a q r (fun v i1 a1 q1 r1 => (True) ∧ v = cBuyV (i (64 * r 0)) (a (r 0 + 1)) (a (r 0 + 2)) (a (r 0 + 3)) (i (64 * r 0 + 3)) ((a 3).getD x1.toNatClampNeg 0) x2 ((a 4).getD x1.toNatClampNeg 0) (i 73) ((a 6).getD x1.toNatClampNeg 0) (i 72))) := by
  have hG := kG_self yw31_1 hI hr
  refine km_ofI (q := (mi_h31, mi_c31)) rfl (by decide) (Nat.le_of_ble_eq_true rfl) ?_
  intro P hP
  refine ft_go mi_k31 4 6 [(0, .ref 1), (1, .int x1), (2, .int x2)] [.int x1, .ref 3, .int 5] i a q r (by rfl) ?_
  refine ko_iald3 mi_k31.1 (n := 8) (c := 8) (ax := (0, 0, 0, 0, 0)) (mi_k31.2 _ _ (by rfl)) (by rfl) (ksG3 _ _ _ _) (hG.I.2.1 3) rfl (od11 hp0.1) (od47 hp0.2) ?_
  have b1 : ((-2147483648 : Int) ≤ ((a 3).getD x1.toNatClampNeg 0).toInt) ∧ (((a 3).getD x1.toNatClampNeg 0).toInt ≤ 2147483647) := kd_bd ((a 3).getD x1.toNatClampNeg 0)
  refine ft_go mi_k31 4 13 [(0, .ref 1), (1, .int x1), (2, .int x2)] [.int x1, .ref 4, .int (5 * ((a 3).getD x1.toNatClampNeg 0))] i a q r (by rfl) ?_
  refine ko_iald3 mi_k31.1 (n := 8) (c := 8) (ax := (0, 0, 0, 0, 0)) (mi_k31.2 _ _ (by rfl)) (by rfl) (ksG4 _ _ _ _) (hG.I.2.1 4) rfl (od11 hp0.1) (od47 hp0.2) ?_
  have b2 : ((-2147483648 : Int) ≤ (5 * ((a 3).getD x1.toNatClampNeg 0)).toInt) ∧ ((5 * ((a 3).getD x1.toNatClampNeg 0)).toInt ≤ 2147483647) := kd_bd (5 * ((a 3).getD x1.toNatClampNeg 0))
  have b3 : ((-2147483648 : Int) ≤ ((a 4).getD x1.toNatClampNeg 0).toInt) ∧ (((a 4).getD x1.toNatClampNeg 0).toInt ≤ 2147483647) := kd_bd ((a 4).getD x1.toNatClampNeg 0)
  refine ft_go mi_k31 5 21 [(0, .ref 1), (1, .int x1), (2, .int x2)] [.int x1, .ref 6, .int 2, .int ((5 * ((a 3).getD x1.toNatClampNeg 0)) + ((a 4).getD x1.toNatClampNeg 0))] i a q r (by rfl) ?_
  refine ko_iald3 mi_k31.1 (n := 8) (c := 8) (ax := (0, 0, 0, 0, 0)) (mi_k31.2 _ _ (by rfl)) (by rfl) (ksG6 _ _ _ _) (hG.I.2.1 6) rfl (od11 hp0.1) (od47 hp0.2) ?_
  have b4 : ((-2147483648 : Int) ≤ ((a 6).getD x1.toNatClampNeg 0).toInt) ∧ (((a 6).getD x1.toNatClampNeg 0).toInt ≤ 2147483647) := kd_bd ((a 6).getD x1.toNatClampNeg 0)
  have b5 : ((-2147483648 : Int) ≤ ((5 * ((a 3).getD x1.toNatClampNeg 0)) + ((a 4).getD x1.toNatClampNeg 0)).toInt) ∧ (((5 * ((a 3).getD x1.toNatClampNeg 0)) + ((a 4).getD x1.toNatClampNeg 0)).toInt ≤ 2147483647) := kd_bd ((5 * ((a 3).getD x1.toNatClampNeg 0)) + ((a 4).getD x1.toNatClampNeg 0))
  have b6 : ((-2147483648 : Int) ≤ (2 * ((a 6).getD x1.toNatClampNeg 0)).toInt) ∧ ((2 * ((a 6).getD x1.toNatClampNeg 0)).toInt ≤ 2147483647) := kd_bd (2 * ((a 6).getD x1.toNatClampNeg 0))
  refine ft_go mi_k31 5 29 [(3, .int (((5 * ((a 3).getD x1.toNatClampNeg 0)) + ((a 4).getD x1.toNatClampNeg 0)) - (2 * ((a 6).getD x1.toNatClampNeg 0)))), (0, .ref 1), (1, .int x1), (2, .int x2)] [.ref (r 0)] i a q r (by rfl) ?_
  rcases hG.R.1 with ⟨eRr_0, eRr_2⟩ | ⟨eRr_0, eRr_2⟩
  ·
    have eRr_0 : r 0 = 10 := eRr_0
    have eRr_2 : r 2 = 100 := eRr_2
    refine ko_eq (x1 := (29, [(3, .int (((5 * ((a 3).getD x1.toNatClampNeg 0)) + ((a 4).getD x1.toNatClampNeg 0)) - (2 * ((a 6).getD x1.toNatClampNeg 0)))), (0, .ref 1), (1, .int x1), (2, .int x2)], [.ref 10], (0, 0), ks i a q r)) (by rw [eRr_0]) ?_
    have fi_640 : ((0 : Int) ≤ (i 640).toInt) ∧ ((i 640).toInt ≤ 1) := hG.I.1 640
    refine ft_go mi_k31 1 32 [(3, .int (((5 * ((a 3).getD x1.toNatClampNeg 0)) + ((a 4).getD x1.toNatClampNeg 0)) - (2 * ((a 6).getD x1.toNatClampNeg 0)))), (0, .ref 1), (1, .int x1), (2, .int x2)] [.int (i 640)] i a q r (by rfl) ?_
    refine ft_if mi_k31 ((i 640) == 0) 110 35 [(3, .int (((5 * ((a 3).getD x1.toNatClampNeg 0)) + ((a 4).getD x1.toNatClampNeg 0)) - (2 * ((a 6).getD x1.toNatClampNeg 0)))), (0, .ref 1), (1, .int x1), (2, .int x2)] [] (by rfl) (fun c => ?_) (fun c => ?_)
    ·
      have c7 : (i 640).toInt = (0 : Int32).toInt := kd_eq c; clear c
      refine ft_go mi_k31 3 114 [(3, .int (((5 * ((a 3).getD x1.toNatClampNeg 0)) + ((a 4).getD x1.toNatClampNeg 0)) - (2 * ((a 6).getD x1.toNatClampNeg 0)))), (0, .ref 1), (1, .int x1), (2, .int x2)] [.int (((5 * ((a 3).getD x1.toNatClampNeg 0)) + ((a 4).getD x1.toNatClampNeg 0)) - (2 * ((a 6).getD x1.toNatClampNeg 0))), .int 99, .int 0] i a q r (by rfl) ?_
      have m9 : (((bif decide ((((5 * ((a 3).getD x1.toNatClampNeg 0)) + ((a 4).getD x1.toNatClampNeg 0)) - (2 * ((a 6).getD x1.toNatClampNeg 0))) < 99) then (((5 * ((a 3).getD x1.toNatClampNeg 0)) + ((a 4).getD x1.toNatClampNeg 0)) - (2 * ((a 6).getD x1.toNatClampNeg 0))) else 99).toInt ≤ (99 : Int32).toInt) ∧ ((bif decide ((((5 * ((a 3).getD x1.toNatClampNeg 0)) + ((a 4).getD x1.toNatClampNeg 0)) - (2 * ((a 6).getD x1.toNatClampNeg 0))) < 99) then (((5 * ((a 3).getD x1.toNatClampNeg 0)) + ((a 4).getD x1.toNatClampNeg 0)) - (2 * ((a 6).getD x1.toNatClampNeg 0))) else 99).toInt ≤ (((5 * ((a 3).getD x1.toNatClampNeg 0)) + ((a 4).getD x1.toNatClampNeg 0)) - (2 * ((a 6).getD x1.toNatClampNeg 0))).toInt)) ∧ ((bif decide ((((5 * ((a 3).getD x1.toNatClampNeg 0)) + ((a 4).getD x1.toNatClampNeg 0)) - (2 * ((a 6).getD x1.toNatClampNeg 0))) < 99) then (((5 * ((a 3).getD x1.toNatClampNeg 0)) + ((a 4).getD x1.toNatClampNeg 0)) - (2 * ((a 6).getD x1.toNatClampNeg 0))) else 99).toInt = (99 : Int32).toInt ∨ (bif decide ((((5 * ((a 3).getD x1.toNatClampNeg 0)) + ((a 4).getD x1.toNatClampNeg 0)) - (2 * ((a 6).getD x1.toNatClampNeg 0))) < 99) then (((5 * ((a 3).getD x1.toNatClampNeg 0)) + ((a 4).getD x1.toNatClampNeg 0)) - (2 * ((a 6).getD x1.toNatClampNeg 0))) else 99).toInt = (((5 * ((a 3).getD x1.toNatClampNeg 0)) + ((a 4).getD x1.toNatClampNeg 0)) - (2 * ((a 6).getD x1.toNatClampNeg 0))).toInt) := kd_min
      refine ft_go mi_k31 1 117 [(3, .int (((5 * ((a 3).getD x1.toNatClampNeg 0)) + ((a 4).getD x1.toNatClampNeg 0)) - (2 * ((a 6).getD x1.toNatClampNeg 0)))), (0, .ref 1), (1, .int x1), (2, .int x2)] [.int (bif decide ((((5 * ((a 3).getD x1.toNatClampNeg 0)) + ((a 4).getD x1.toNatClampNeg 0)) - (2 * ((a 6).getD x1.toNatClampNeg 0))) < 99) then (((5 * ((a 3).getD x1.toNatClampNeg 0)) + ((a 4).getD x1.toNatClampNeg 0)) - (2 * ((a 6).getD x1.toNatClampNeg 0))) else 99), .int 0] i a q r (by rfl) ?_
      generalize hm8 : (bif decide ((((5 * ((a 3).getD x1.toNatClampNeg 0)) + ((a 4).getD x1.toNatClampNeg 0)) - (2 * ((a 6).getD x1.toNatClampNeg 0))) < 99) then (((5 * ((a 3).getD x1.toNatClampNeg 0)) + ((a 4).getD x1.toNatClampNeg 0)) - (2 * ((a 6).getD x1.toNatClampNeg 0))) else 99) = m8 at m9 ⊢
      have qm8 := hm8.symm
      have m11 : (((0 : Int32).toInt ≤ (bif decide (0 < m8) then m8 else 0).toInt) ∧ (m8.toInt ≤ (bif decide (0 < m8) then m8 else 0).toInt)) ∧ ((bif decide (0 < m8) then m8 else 0).toInt = (0 : Int32).toInt ∨ (bif decide (0 < m8) then m8 else 0).toInt = m8.toInt) := kd_max
      refine ft_go mi_k31 1 120 [(3, .int (((5 * ((a 3).getD x1.toNatClampNeg 0)) + ((a 4).getD x1.toNatClampNeg 0)) - (2 * ((a 6).getD x1.toNatClampNeg 0)))), (0, .ref 1), (1, .int x1), (2, .int x2)] [.int (bif decide (0 < m8) then m8 else 0)] i a q r (by rfl) ?_
      generalize hm10 : (bif decide (0 < m8) then m8 else 0) = m10 at m11 ⊢
      have qm10 := hm10.symm
      exact ft_ret mi_k31 (by rfl) (hP m10 _ _ _ _ hG ⟨trivial, (show m10 = cBuyV (i (64 * r 0)) (a (r 0 + 1)) (a (r 0 + 2)) (a (r 0 + 3)) (i (64 * r 0 + 3)) ((a 3).getD x1.toNatClampNeg 0) x2 ((a 4).getD x1.toNatClampNeg 0) (i 73) ((a 6).getD x1.toNatClampNeg 0) (i 72) from (by rw [eRr_0]; unfold cBuyV; rw [if_pos (od48 c7 fi_640.1 kod0)]; first | rfl | (simp only [qm10, qm8, sMn, sMx]; rfl)))⟩)
    ·
      have c12 : (i 640).toInt ≠ (0 : Int32).toInt := kd_eqF c; clear c
      refine ft_go mi_k31 6 45 [(3, .int (((5 * ((a 3).getD x1.toNatClampNeg 0)) + ((a 4).getD x1.toNatClampNeg 0)) - (2 * ((a 6).getD x1.toNatClampNeg 0)))), (0, .ref 1), (1, .int x1), (2, .int x2)] [.int x1, .ref 3, .int 0, .ref 24] i a q r (by rfl) ?_
      refine ko_iald3 mi_k31.1 (n := 8) (c := 8) (ax := (0, 0, 0, 0, 0)) (mi_k31.2 _ _ (by rfl)) (by rfl) (ksG3 _ _ _ _) (hG.I.2.1 3) rfl (od11 hp0.1) (od47 hp0.2) ?_
      refine ko_iast3 mi_k31.1 (n := 6) (c := 6) (ax := (0, 0, 0, 0, 0)) (mi_k31.2 _ _ (by rfl)) (by rfl) (ksG24 _ _ _ _) (ksA24 _ _ _ _) (hG.I.2.1 24) rfl (od0 kod0) (od49 kod0) ?_
      intro a13 ea13 fa13
      have hJ13 := kG_a3 hG 24 rfl ea13 fa13 (kd_bd _)
      refine ft_go mi_k31 4 53 [(3, .int (((5 * ((a 3).getD x1.toNatClampNeg 0)) + ((a 4).getD x1.toNatClampNeg 0)) - (2 * ((a 6).getD x1.toNatClampNeg 0)))), (0, .ref 1), (1, .int x1), (2, .int x2)] [.int x2, .int 1, .ref 24] i a13 q r (by rfl) ?_
      refine ko_iast3 mi_k31.1 (n := 6) (c := 6) (ax := (0, 0, 0, 0, 0)) (mi_k31.2 _ _ (by rfl)) (by rfl) (ksG24 _ _ _ _) (ksA24 _ _ _ _) (hJ13.I.2.1 24) rfl (od50 kod1) (od51 kod1) ?_
      intro a14 ea14 fa14
      have hJ14 := kG_a3 hJ13 24 rfl ea14 fa14 (kd_bd _)
      refine ft_go mi_k31 6 64 [(3, .int (((5 * ((a 3).getD x1.toNatClampNeg 0)) + ((a 4).getD x1.toNatClampNeg 0)) - (2 * ((a 6).getD x1.toNatClampNeg 0)))), (0, .ref 1), (1, .int x1), (2, .int x2)] [.int x1, .ref 4, .int 2, .ref 24] i a14 q r (by rfl) ?_
      refine ko_iald3 mi_k31.1 (n := 8) (c := 8) (ax := (0, 0, 0, 0, 0)) (mi_k31.2 _ _ (by rfl)) (by rfl) (ksG4 _ _ _ _) (hJ14.I.2.1 4) rfl (od11 hp0.1) (od47 hp0.2) ?_
      refine ko_iast3 mi_k31.1 (n := 6) (c := 6) (ax := (0, 0, 0, 0, 0)) (mi_k31.2 _ _ (by rfl)) (by rfl) (ksG24 _ _ _ _) (ksA24 _ _ _ _) (hJ14.I.2.1 24) rfl (od52 kod2) (od53 kod2) ?_
      intro a15 ea15 fa15
      have hJ15 := kG_a3 hJ14 24 rfl ea15 fa15 (kd_bd _)
      refine ft_go mi_k31 5 75 [(3, .int (((5 * ((a 3).getD x1.toNatClampNeg 0)) + ((a 4).getD x1.toNatClampNeg 0)) - (2 * ((a 6).getD x1.toNatClampNeg 0)))), (0, .ref 1), (1, .int x1), (2, .int x2)] [.int (i 73), .int 3, .ref 24] i a15 q r (by rfl) ?_
      refine ko_iast3 mi_k31.1 (n := 6) (c := 6) (ax := (0, 0, 0, 0, 0)) (mi_k31.2 _ _ (by rfl)) (by rfl) (ksG24 _ _ _ _) (ksA24 _ _ _ _) (hJ15.I.2.1 24) rfl (od54 kod3) (od55 kod3) ?_
      intro a16 ea16 fa16
      have hJ16 := kG_a3 hJ15 24 rfl ea16 fa16 (kd_bd _)
      refine ft_go mi_k31 6 86 [(3, .int (((5 * ((a 3).getD x1.toNatClampNeg 0)) + ((a 4).getD x1.toNatClampNeg 0)) - (2 * ((a 6).getD x1.toNatClampNeg 0)))), (0, .ref 1), (1, .int x1), (2, .int x2)] [.int x1, .ref 6, .int 4, .ref 24] i a16 q r (by rfl) ?_
      refine ko_iald3 mi_k31.1 (n := 8) (c := 8) (ax := (0, 0, 0, 0, 0)) (mi_k31.2 _ _ (by rfl)) (by rfl) (ksG6 _ _ _ _) (hJ16.I.2.1 6) rfl (od11 hp0.1) (od47 hp0.2) ?_
      refine ko_iast3 mi_k31.1 (n := 6) (c := 6) (ax := (0, 0, 0, 0, 0)) (mi_k31.2 _ _ (by rfl)) (by rfl) (ksG24 _ _ _ _) (ksA24 _ _ _ _) (hJ16.I.2.1 24) rfl (od56 kod4) (od57 kod4) ?_
      intro a17 ea17 fa17
      have hJ17 := kG_a3 hJ16 24 rfl ea17 fa17 (kd_bd _)
      refine ft_go mi_k31 5 97 [(3, .int (((5 * ((a 3).getD x1.toNatClampNeg 0)) + ((a 4).getD x1.toNatClampNeg 0)) - (2 * ((a 6).getD x1.toNatClampNeg 0)))), (0, .ref 1), (1, .int x1), (2, .int x2)] [.int (i 72), .int 5, .ref 24] i a17 q r (by rfl) ?_
      refine ko_iast3 mi_k31.1 (n := 6) (c := 6) (ax := (0, 0, 0, 0, 0)) (mi_k31.2 _ _ (by rfl)) (by rfl) (ksG24 _ _ _ _) (ksA24 _ _ _ _) (hJ17.I.2.1 24) rfl (od58 kod5) (od59 kod5) ?_
      intro a18 ea18 fa18
      have hJ18 := kG_a3 hJ17 24 rfl ea18 fa18 (kd_bd _)
      refine ft_go mi_k31 2 102 [(3, .int (((5 * ((a 3).getD x1.toNatClampNeg 0)) + ((a 4).getD x1.toNatClampNeg 0)) - (2 * ((a 6).getD x1.toNatClampNeg 0)))), (0, .ref 1), (1, .int x1), (2, .int x2)] [.ref (r 0)] i a18 q r (by rfl) ?_
      refine ko_eq (x1 := (102, [(3, .int (((5 * ((a 3).getD x1.toNatClampNeg 0)) + ((a 4).getD x1.toNatClampNeg 0)) - (2 * ((a 6).getD x1.toNatClampNeg 0)))), (0, .ref 1), (1, .int x1), (2, .int x2)], [.ref 10], (0, 0), ks i a18 q r)) (by rw [eRr_0]) ?_
      have qn19 : a18 24 = [((a 3).getD x1.toNatClampNeg 0), x2, ((a14 4).getD x1.toNatClampNeg 0), (i 73), ((a16 6).getD x1.toNatClampNeg 0), (i 72)] := by rw [ea18, ea17, ea16, ea15, ea14, ea13]; exact kNames ((congrArg List.length (rfl)).trans (hG.I.2.1 24))
      refine ft_go mi_k31 2 106 [(3, .int (((5 * ((a 3).getD x1.toNatClampNeg 0)) + ((a 4).getD x1.toNatClampNeg 0)) - (2 * ((a 6).getD x1.toNatClampNeg 0)))), (0, .ref 1), (1, .int x1), (2, .int x2)] [.ref 24, .ref 10] i a18 q r (by rfl) ?_
      refine ko_callI mi_k31.1 (pc := 106) (ls := [(3, .int (((5 * ((a 3).getD x1.toNatClampNeg 0)) + ((a 4).getD x1.toNatClampNeg 0)) - (2 * ((a 6).getD x1.toNatClampNeg 0)))), (0, .ref 1), (1, .int x1), (2, .int x2)]) (st := [.ref 24, .ref 10]) (h := ks i a18 q r) (i := (.invokevirtual 126, 3, 21, 0, 9, 0, 224)) (mi_k31.2 _ _ (by rfl)) (ft_invS mi_pq21 (by rfl)) (cy := mi_c21) mi_pq21 rfl (ke21_10_24 hJ18.I hJ18.R ) (by decide) ?_
      intro vg20 ig20 ag20 qg20 rg20 kg20 hg20
      have hGg20 := kG_call hJ18 kg20 (by decide +kernel)
      have eRrg20_0 : rg20 0 = 10 := (kg20.fr 0 rfl).trans eRr_0
      have eRrg20_2 : rg20 2 = 100 := (kg20.fr 2 rfl).trans eRr_2
      obtain ⟨hg20, og20⟩ := hg20
      have q21 : vg20 = lRun (a18 11) (a18 12) (a18 24) (i 643) 121 0 (a18 13, 0) := og20
      refine ft_go mi_k31 4 114 [(3, .int vg20), (0, .ref 1), (1, .int x1), (2, .int x2)] [.int vg20, .int 99, .int 0] ig20 ag20 qg20 rg20 (by rfl) ?_
      have m23 : (((bif decide (vg20 < 99) then vg20 else 99).toInt ≤ (99 : Int32).toInt) ∧ ((bif decide (vg20 < 99) then vg20 else 99).toInt ≤ vg20.toInt)) ∧ ((bif decide (vg20 < 99) then vg20 else 99).toInt = (99 : Int32).toInt ∨ (bif decide (vg20 < 99) then vg20 else 99).toInt = vg20.toInt) := kd_min
      refine ft_go mi_k31 1 117 [(3, .int vg20), (0, .ref 1), (1, .int x1), (2, .int x2)] [.int (bif decide (vg20 < 99) then vg20 else 99), .int 0] ig20 ag20 qg20 rg20 (by rfl) ?_
      generalize hm22 : (bif decide (vg20 < 99) then vg20 else 99) = m22 at m23 ⊢
      have qm22 := hm22.symm
      have m25 : (((0 : Int32).toInt ≤ (bif decide (0 < m22) then m22 else 0).toInt) ∧ (m22.toInt ≤ (bif decide (0 < m22) then m22 else 0).toInt)) ∧ ((bif decide (0 < m22) then m22 else 0).toInt = (0 : Int32).toInt ∨ (bif decide (0 < m22) then m22 else 0).toInt = m22.toInt) := kd_max
      refine ft_go mi_k31 1 120 [(3, .int vg20), (0, .ref 1), (1, .int x1), (2, .int x2)] [.int (bif decide (0 < m22) then m22 else 0)] ig20 ag20 qg20 rg20 (by rfl) ?_
      generalize hm24 : (bif decide (0 < m22) then m22 else 0) = m24 at m25 ⊢
      have qm24 := hm24.symm
      exact ft_ret mi_k31 (by rfl) (hP m24 _ _ _ _ hGg20 ⟨trivial, (show m24 = cBuyV (i (64 * r 0)) (a (r 0 + 1)) (a (r 0 + 2)) (a (r 0 + 3)) (i (64 * r 0 + 3)) ((a 3).getD x1.toNatClampNeg 0) x2 ((a 4).getD x1.toNatClampNeg 0) (i 73) ((a 6).getD x1.toNatClampNeg 0) (i 72) from (by rw [eRr_0]; unfold cBuyV; rw [if_neg (od60 c12 fi_640.1 kod0)]; first | rfl | (simp only [qm24, qm22, q21, fa18 11 (by decide), fa18 12 (by decide), qn19, fa18 13 (by decide), fa17 13 (by decide), fa16 13 (by decide), fa15 13 (by decide), fa14 13 (by decide), fa13 13 (by decide), fa14 4 (by decide), fa16 6 (by decide), fa15 6 (by decide), fa14 6 (by decide), fa13 6 (by decide), fa13 4 (by decide), fa17 12 (by decide), fa16 12 (by decide), fa15 12 (by decide), fa14 12 (by decide), fa13 12 (by decide), fa17 11 (by decide), fa16 11 (by decide), fa15 11 (by decide), fa14 11 (by decide), fa13 11 (by decide), sMn, sMx]; rfl)))⟩)
  ·
    have eRr_0 : r 0 = 100 := eRr_0
    have eRr_2 : r 2 = 10 := eRr_2
    refine ko_eq (x1 := (29, [(3, .int (((5 * ((a 3).getD x1.toNatClampNeg 0)) + ((a 4).getD x1.toNatClampNeg 0)) - (2 * ((a 6).getD x1.toNatClampNeg 0)))), (0, .ref 1), (1, .int x1), (2, .int x2)], [.ref 100], (0, 0), ks i a q r)) (by rw [eRr_0]) ?_
    have fi_6400 : ((0 : Int) ≤ (i 6400).toInt) ∧ ((i 6400).toInt ≤ 1) := hG.I.1 6400
    refine ft_go mi_k31 1 32 [(3, .int (((5 * ((a 3).getD x1.toNatClampNeg 0)) + ((a 4).getD x1.toNatClampNeg 0)) - (2 * ((a 6).getD x1.toNatClampNeg 0)))), (0, .ref 1), (1, .int x1), (2, .int x2)] [.int (i 6400)] i a q r (by rfl) ?_
    refine ft_if mi_k31 ((i 6400) == 0) 110 35 [(3, .int (((5 * ((a 3).getD x1.toNatClampNeg 0)) + ((a 4).getD x1.toNatClampNeg 0)) - (2 * ((a 6).getD x1.toNatClampNeg 0)))), (0, .ref 1), (1, .int x1), (2, .int x2)] [] (by rfl) (fun c => ?_) (fun c => ?_)
    ·
      have c26 : (i 6400).toInt = (0 : Int32).toInt := kd_eq c; clear c
      refine ft_go mi_k31 3 114 [(3, .int (((5 * ((a 3).getD x1.toNatClampNeg 0)) + ((a 4).getD x1.toNatClampNeg 0)) - (2 * ((a 6).getD x1.toNatClampNeg 0)))), (0, .ref 1), (1, .int x1), (2, .int x2)] [.int (((5 * ((a 3).getD x1.toNatClampNeg 0)) + ((a 4).getD x1.toNatClampNeg 0)) - (2 * ((a 6).getD x1.toNatClampNeg 0))), .int 99, .int 0] i a q r (by rfl) ?_
      have m28 : (((bif decide ((((5 * ((a 3).getD x1.toNatClampNeg 0)) + ((a 4).getD x1.toNatClampNeg 0)) - (2 * ((a 6).getD x1.toNatClampNeg 0))) < 99) then (((5 * ((a 3).getD x1.toNatClampNeg 0)) + ((a 4).getD x1.toNatClampNeg 0)) - (2 * ((a 6).getD x1.toNatClampNeg 0))) else 99).toInt ≤ (99 : Int32).toInt) ∧ ((bif decide ((((5 * ((a 3).getD x1.toNatClampNeg 0)) + ((a 4).getD x1.toNatClampNeg 0)) - (2 * ((a 6).getD x1.toNatClampNeg 0))) < 99) then (((5 * ((a 3).getD x1.toNatClampNeg 0)) + ((a 4).getD x1.toNatClampNeg 0)) - (2 * ((a 6).getD x1.toNatClampNeg 0))) else 99).toInt ≤ (((5 * ((a 3).getD x1.toNatClampNeg 0)) + ((a 4).getD x1.toNatClampNeg 0)) - (2 * ((a 6).getD x1.toNatClampNeg 0))).toInt)) ∧ ((bif decide ((((5 * ((a 3).getD x1.toNatClampNeg 0)) + ((a 4).getD x1.toNatClampNeg 0)) - (2 * ((a 6).getD x1.toNatClampNeg 0))) < 99) then (((5 * ((a 3).getD x1.toNatClampNeg 0)) + ((a 4).getD x1.toNatClampNeg 0)) - (2 * ((a 6).getD x1.toNatClampNeg 0))) else 99).toInt = (99 : Int32).toInt ∨ (bif decide ((((5 * ((a 3).getD x1.toNatClampNeg 0)) + ((a 4).getD x1.toNatClampNeg 0)) - (2 * ((a 6).getD x1.toNatClampNeg 0))) < 99) then (((5 * ((a 3).getD x1.toNatClampNeg 0)) + ((a 4).getD x1.toNatClampNeg 0)) - (2 * ((a 6).getD x1.toNatClampNeg 0))) else 99).toInt = (((5 * ((a 3).getD x1.toNatClampNeg 0)) + ((a 4).getD x1.toNatClampNeg 0)) - (2 * ((a 6).getD x1.toNatClampNeg 0))).toInt) := kd_min
      refine ft_go mi_k31 1 117 [(3, .int (((5 * ((a 3).getD x1.toNatClampNeg 0)) + ((a 4).getD x1.toNatClampNeg 0)) - (2 * ((a 6).getD x1.toNatClampNeg 0)))), (0, .ref 1), (1, .int x1), (2, .int x2)] [.int (bif decide ((((5 * ((a 3).getD x1.toNatClampNeg 0)) + ((a 4).getD x1.toNatClampNeg 0)) - (2 * ((a 6).getD x1.toNatClampNeg 0))) < 99) then (((5 * ((a 3).getD x1.toNatClampNeg 0)) + ((a 4).getD x1.toNatClampNeg 0)) - (2 * ((a 6).getD x1.toNatClampNeg 0))) else 99), .int 0] i a q r (by rfl) ?_
      generalize hm27 : (bif decide ((((5 * ((a 3).getD x1.toNatClampNeg 0)) + ((a 4).getD x1.toNatClampNeg 0)) - (2 * ((a 6).getD x1.toNatClampNeg 0))) < 99) then (((5 * ((a 3).getD x1.toNatClampNeg 0)) + ((a 4).getD x1.toNatClampNeg 0)) - (2 * ((a 6).getD x1.toNatClampNeg 0))) else 99) = m27 at m28 ⊢
      have qm27 := hm27.symm
      have m30 : (((0 : Int32).toInt ≤ (bif decide (0 < m27) then m27 else 0).toInt) ∧ (m27.toInt ≤ (bif decide (0 < m27) then m27 else 0).toInt)) ∧ ((bif decide (0 < m27) then m27 else 0).toInt = (0 : Int32).toInt ∨ (bif decide (0 < m27) then m27 else 0).toInt = m27.toInt) := kd_max
      refine ft_go mi_k31 1 120 [(3, .int (((5 * ((a 3).getD x1.toNatClampNeg 0)) + ((a 4).getD x1.toNatClampNeg 0)) - (2 * ((a 6).getD x1.toNatClampNeg 0)))), (0, .ref 1), (1, .int x1), (2, .int x2)] [.int (bif decide (0 < m27) then m27 else 0)] i a q r (by rfl) ?_
      generalize hm29 : (bif decide (0 < m27) then m27 else 0) = m29 at m30 ⊢
      have qm29 := hm29.symm
      exact ft_ret mi_k31 (by rfl) (hP m29 _ _ _ _ hG ⟨trivial, (show m29 = cBuyV (i (64 * r 0)) (a (r 0 + 1)) (a (r 0 + 2)) (a (r 0 + 3)) (i (64 * r 0 + 3)) ((a 3).getD x1.toNatClampNeg 0) x2 ((a 4).getD x1.toNatClampNeg 0) (i 73) ((a 6).getD x1.toNatClampNeg 0) (i 72) from (by rw [eRr_0]; unfold cBuyV; rw [if_pos (od48 c26 fi_6400.1 kod0)]; first | rfl | (simp only [qm29, qm27, sMn, sMx]; rfl)))⟩)
    ·
      have c31 : (i 6400).toInt ≠ (0 : Int32).toInt := kd_eqF c; clear c
      refine ft_go mi_k31 6 45 [(3, .int (((5 * ((a 3).getD x1.toNatClampNeg 0)) + ((a 4).getD x1.toNatClampNeg 0)) - (2 * ((a 6).getD x1.toNatClampNeg 0)))), (0, .ref 1), (1, .int x1), (2, .int x2)] [.int x1, .ref 3, .int 0, .ref 24] i a q r (by rfl) ?_
      refine ko_iald3 mi_k31.1 (n := 8) (c := 8) (ax := (0, 0, 0, 0, 0)) (mi_k31.2 _ _ (by rfl)) (by rfl) (ksG3 _ _ _ _) (hG.I.2.1 3) rfl (od11 hp0.1) (od47 hp0.2) ?_
      refine ko_iast3 mi_k31.1 (n := 6) (c := 6) (ax := (0, 0, 0, 0, 0)) (mi_k31.2 _ _ (by rfl)) (by rfl) (ksG24 _ _ _ _) (ksA24 _ _ _ _) (hG.I.2.1 24) rfl (od0 kod0) (od49 kod0) ?_
      intro a32 ea32 fa32
      have hJ32 := kG_a3 hG 24 rfl ea32 fa32 (kd_bd _)
      refine ft_go mi_k31 4 53 [(3, .int (((5 * ((a 3).getD x1.toNatClampNeg 0)) + ((a 4).getD x1.toNatClampNeg 0)) - (2 * ((a 6).getD x1.toNatClampNeg 0)))), (0, .ref 1), (1, .int x1), (2, .int x2)] [.int x2, .int 1, .ref 24] i a32 q r (by rfl) ?_
      refine ko_iast3 mi_k31.1 (n := 6) (c := 6) (ax := (0, 0, 0, 0, 0)) (mi_k31.2 _ _ (by rfl)) (by rfl) (ksG24 _ _ _ _) (ksA24 _ _ _ _) (hJ32.I.2.1 24) rfl (od50 kod1) (od51 kod1) ?_
      intro a33 ea33 fa33
      have hJ33 := kG_a3 hJ32 24 rfl ea33 fa33 (kd_bd _)
      refine ft_go mi_k31 6 64 [(3, .int (((5 * ((a 3).getD x1.toNatClampNeg 0)) + ((a 4).getD x1.toNatClampNeg 0)) - (2 * ((a 6).getD x1.toNatClampNeg 0)))), (0, .ref 1), (1, .int x1), (2, .int x2)] [.int x1, .ref 4, .int 2, .ref 24] i a33 q r (by rfl) ?_
      refine ko_iald3 mi_k31.1 (n := 8) (c := 8) (ax := (0, 0, 0, 0, 0)) (mi_k31.2 _ _ (by rfl)) (by rfl) (ksG4 _ _ _ _) (hJ33.I.2.1 4) rfl (od11 hp0.1) (od47 hp0.2) ?_
      refine ko_iast3 mi_k31.1 (n := 6) (c := 6) (ax := (0, 0, 0, 0, 0)) (mi_k31.2 _ _ (by rfl)) (by rfl) (ksG24 _ _ _ _) (ksA24 _ _ _ _) (hJ33.I.2.1 24) rfl (od52 kod2) (od53 kod2) ?_
      intro a34 ea34 fa34
      have hJ34 := kG_a3 hJ33 24 rfl ea34 fa34 (kd_bd _)
      refine ft_go mi_k31 5 75 [(3, .int (((5 * ((a 3).getD x1.toNatClampNeg 0)) + ((a 4).getD x1.toNatClampNeg 0)) - (2 * ((a 6).getD x1.toNatClampNeg 0)))), (0, .ref 1), (1, .int x1), (2, .int x2)] [.int (i 73), .int 3, .ref 24] i a34 q r (by rfl) ?_
      refine ko_iast3 mi_k31.1 (n := 6) (c := 6) (ax := (0, 0, 0, 0, 0)) (mi_k31.2 _ _ (by rfl)) (by rfl) (ksG24 _ _ _ _) (ksA24 _ _ _ _) (hJ34.I.2.1 24) rfl (od54 kod3) (od55 kod3) ?_
      intro a35 ea35 fa35
      have hJ35 := kG_a3 hJ34 24 rfl ea35 fa35 (kd_bd _)
      refine ft_go mi_k31 6 86 [(3, .int (((5 * ((a 3).getD x1.toNatClampNeg 0)) + ((a 4).getD x1.toNatClampNeg 0)) - (2 * ((a 6).getD x1.toNatClampNeg 0)))), (0, .ref 1), (1, .int x1), (2, .int x2)] [.int x1, .ref 6, .int 4, .ref 24] i a35 q r (by rfl) ?_
      refine ko_iald3 mi_k31.1 (n := 8) (c := 8) (ax := (0, 0, 0, 0, 0)) (mi_k31.2 _ _ (by rfl)) (by rfl) (ksG6 _ _ _ _) (hJ35.I.2.1 6) rfl (od11 hp0.1) (od47 hp0.2) ?_
      refine ko_iast3 mi_k31.1 (n := 6) (c := 6) (ax := (0, 0, 0, 0, 0)) (mi_k31.2 _ _ (by rfl)) (by rfl) (ksG24 _ _ _ _) (ksA24 _ _ _ _) (hJ35.I.2.1 24) rfl (od56 kod4) (od57 kod4) ?_
      intro a36 ea36 fa36
      have hJ36 := kG_a3 hJ35 24 rfl ea36 fa36 (kd_bd _)
      refine ft_go mi_k31 5 97 [(3, .int (((5 * ((a 3).getD x1.toNatClampNeg 0)) + ((a 4).getD x1.toNatClampNeg 0)) - (2 * ((a 6).getD x1.toNatClampNeg 0)))), (0, .ref 1), (1, .int x1), (2, .int x2)] [.int (i 72), .int 5, .ref 24] i a36 q r (by rfl) ?_
      refine ko_iast3 mi_k31.1 (n := 6) (c := 6) (ax := (0, 0, 0, 0, 0)) (mi_k31.2 _ _ (by rfl)) (by rfl) (ksG24 _ _ _ _) (ksA24 _ _ _ _) (hJ36.I.2.1 24) rfl (od58 kod5) (od59 kod5) ?_
      intro a37 ea37 fa37
      have hJ37 := kG_a3 hJ36 24 rfl ea37 fa37 (kd_bd _)
      refine ft_go mi_k31 2 102 [(3, .int (((5 * ((a 3).getD x1.toNatClampNeg 0)) + ((a 4).getD x1.toNatClampNeg 0)) - (2 * ((a 6).getD x1.toNatClampNeg 0)))), (0, .ref 1), (1, .int x1), (2, .int x2)] [.ref (r 0)] i a37 q r (by rfl) ?_
      refine ko_eq (x1 := (102, [(3, .int (((5 * ((a 3).getD x1.toNatClampNeg 0)) + ((a 4).getD x1.toNatClampNeg 0)) - (2 * ((a 6).getD x1.toNatClampNeg 0)))), (0, .ref 1), (1, .int x1), (2, .int x2)], [.ref 100], (0, 0), ks i a37 q r)) (by rw [eRr_0]) ?_
      have qn38 : a37 24 = [((a 3).getD x1.toNatClampNeg 0), x2, ((a33 4).getD x1.toNatClampNeg 0), (i 73), ((a35 6).getD x1.toNatClampNeg 0), (i 72)] := by rw [ea37, ea36, ea35, ea34, ea33, ea32]; exact kNames ((congrArg List.length (rfl)).trans (hG.I.2.1 24))
      refine ft_go mi_k31 2 106 [(3, .int (((5 * ((a 3).getD x1.toNatClampNeg 0)) + ((a 4).getD x1.toNatClampNeg 0)) - (2 * ((a 6).getD x1.toNatClampNeg 0)))), (0, .ref 1), (1, .int x1), (2, .int x2)] [.ref 24, .ref 100] i a37 q r (by rfl) ?_
      refine ko_callI mi_k31.1 (pc := 106) (ls := [(3, .int (((5 * ((a 3).getD x1.toNatClampNeg 0)) + ((a 4).getD x1.toNatClampNeg 0)) - (2 * ((a 6).getD x1.toNatClampNeg 0)))), (0, .ref 1), (1, .int x1), (2, .int x2)]) (st := [.ref 24, .ref 100]) (h := ks i a37 q r) (i := (.invokevirtual 126, 3, 21, 0, 9, 0, 224)) (mi_k31.2 _ _ (by rfl)) (ft_invS mi_pq21 (by rfl)) (cy := mi_c21) mi_pq21 rfl (ke21_100_24 hJ37.I hJ37.R ) (by decide) ?_
      intro vg39 ig39 ag39 qg39 rg39 kg39 hg39
      have hGg39 := kG_call hJ37 kg39 (by decide +kernel)
      have eRrg39_0 : rg39 0 = 100 := (kg39.fr 0 rfl).trans eRr_0
      have eRrg39_2 : rg39 2 = 10 := (kg39.fr 2 rfl).trans eRr_2
      obtain ⟨hg39, og39⟩ := hg39
      have q40 : vg39 = lRun (a37 101) (a37 102) (a37 24) (i 6403) 121 0 (a37 103, 0) := og39
      refine ft_go mi_k31 4 114 [(3, .int vg39), (0, .ref 1), (1, .int x1), (2, .int x2)] [.int vg39, .int 99, .int 0] ig39 ag39 qg39 rg39 (by rfl) ?_
      have m42 : (((bif decide (vg39 < 99) then vg39 else 99).toInt ≤ (99 : Int32).toInt) ∧ ((bif decide (vg39 < 99) then vg39 else 99).toInt ≤ vg39.toInt)) ∧ ((bif decide (vg39 < 99) then vg39 else 99).toInt = (99 : Int32).toInt ∨ (bif decide (vg39 < 99) then vg39 else 99).toInt = vg39.toInt) := kd_min
      refine ft_go mi_k31 1 117 [(3, .int vg39), (0, .ref 1), (1, .int x1), (2, .int x2)] [.int (bif decide (vg39 < 99) then vg39 else 99), .int 0] ig39 ag39 qg39 rg39 (by rfl) ?_
      generalize hm41 : (bif decide (vg39 < 99) then vg39 else 99) = m41 at m42 ⊢
      have qm41 := hm41.symm
      have m44 : (((0 : Int32).toInt ≤ (bif decide (0 < m41) then m41 else 0).toInt) ∧ (m41.toInt ≤ (bif decide (0 < m41) then m41 else 0).toInt)) ∧ ((bif decide (0 < m41) then m41 else 0).toInt = (0 : Int32).toInt ∨ (bif decide (0 < m41) then m41 else 0).toInt = m41.toInt) := kd_max
      refine ft_go mi_k31 1 120 [(3, .int vg39), (0, .ref 1), (1, .int x1), (2, .int x2)] [.int (bif decide (0 < m41) then m41 else 0)] ig39 ag39 qg39 rg39 (by rfl) ?_
      generalize hm43 : (bif decide (0 < m41) then m41 else 0) = m43 at m44 ⊢
      have qm43 := hm43.symm
      exact ft_ret mi_k31 (by rfl) (hP m43 _ _ _ _ hGg39 ⟨trivial, (show m43 = cBuyV (i (64 * r 0)) (a (r 0 + 1)) (a (r 0 + 2)) (a (r 0 + 3)) (i (64 * r 0 + 3)) ((a 3).getD x1.toNatClampNeg 0) x2 ((a 4).getD x1.toNatClampNeg 0) (i 73) ((a 6).getD x1.toNatClampNeg 0) (i 72) from (by rw [eRr_0]; unfold cBuyV; rw [if_neg (od60 c31 fi_6400.1 kod0)]; first | rfl | (simp only [qm43, qm41, q40, fa37 101 (by decide), fa37 102 (by decide), qn38, fa37 103 (by decide), fa36 103 (by decide), fa35 103 (by decide), fa34 103 (by decide), fa33 103 (by decide), fa32 103 (by decide), fa33 4 (by decide), fa35 6 (by decide), fa34 6 (by decide), fa33 6 (by decide), fa32 6 (by decide), fa32 4 (by decide), fa36 102 (by decide), fa35 102 (by decide), fa34 102 (by decide), fa33 102 (by decide), fa32 102 (by decide), fa36 101 (by decide), fa35 101 (by decide), fa34 101 (by decide), fa33 101 (by decide), fa32 101 (by decide), sMn, sMx]; rfl)))⟩)
