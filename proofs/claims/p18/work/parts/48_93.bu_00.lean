set_option maxRecDepth 100000 in
theorem kf25_1 {i : Nat → Int32} {a : Nat → List Int32} {q : Nat → List Int64} {r : Nat → Nat} (hI : kI i a q) (hr : kr r) (x1 : Int32) (x2 : Int32) (x3 : Int32) : km 1 25 [.ref 1, .int x1, .int x2, .int x3] (ks i a q r) (kVI zw25_1 i a q r (fun v i1 a1 q1 r1 => ((((8 : Int) ≤ (i 64).toInt) ∧ (v.toInt = (-3)) ∧ ((i1 64).toInt = (i 64).toInt)) ∨ (((i 64).toInt < 8) ∧ (v.toInt = (i 64).toInt) ∧ ((i1 64).toInt = ((i 64).toInt + 1)))) ∧ (((i 64).toInt < 8 → a1 2 = (a 2).set (i 64).toNatClampNeg x1) ∧ ((i 64).toInt < 8 → a1 3 = (a 3).set (i 64).toNatClampNeg x2) ∧ ((i 64).toInt < 8 → a1 4 = (a 4).set (i 64).toNatClampNeg x3) ∧ ((i 64).toInt < 8 → a1 5 = (a 5).set (i 64).toNatClampNeg 0) ∧ ((i 64).toInt < 8 → a1 6 = (a 6).set (i 64).toNatClampNeg 0) ∧ ((i 64).toInt < 8 → i1 64 = i 64 + 1)))) := by
  have hG := kG_self zw25_1 hI hr
  refine km_ofI (q := (mi_h25, mi_c25)) rfl (by decide) (Nat.le_of_ble_eq_true rfl) ?_
  intro P hP
  have fi_64 : ((0 : Int) ≤ (i 64).toInt) ∧ ((i 64).toInt ≤ 8) := hG.I.1 64
  refine ft_go mi_k25 3 6 [(0, .ref 1), (1, .int x1), (2, .int x2), (3, .int x3)] [.int 8, .int (i 64)] i a q r (by rfl) ?_
  refine ft_if mi_k25 (decide ((i 64) < 8)) 12 9 [(0, .ref 1), (1, .int x1), (2, .int x2), (3, .int x3)] [] (by rfl) (fun c => ?_) (fun c => ?_)
  ·
    have c1 : (i 64).toInt < (8 : Int32).toInt := kd_lt c; clear c
    refine ft_go mi_k25 5 21 [(0, .ref 1), (1, .int x1), (2, .int x2), (3, .int x3)] [.int x1, .int (i 64), .ref 2] i a q r (by rfl) ?_
    refine ko_iast3 mi_k25.1 (n := 8) (c := 8) (ax := (0, 0, 0, 0, 0)) (mi_k25.2 _ _ (by rfl)) (by rfl) (ksG2 _ _ _ _) (ksA2 _ _ _ _) (hG.I.2.1 2) rfl (ov41 fi_64.1) (ov42 c1 kov8) ?_
    intro a2 ea2 fa2
    have hJ2 := kG_a3 hG 2 rfl ea2 fa2 (kd_bd _)
    refine ft_go mi_k25 5 31 [(0, .ref 1), (1, .int x1), (2, .int x2), (3, .int x3)] [.int x2, .int (i 64), .ref 3] i a2 q r (by rfl) ?_
    refine ko_iast3 mi_k25.1 (n := 8) (c := 8) (ax := (0, 0, 0, 0, 0)) (mi_k25.2 _ _ (by rfl)) (by rfl) (ksG3 _ _ _ _) (ksA3 _ _ _ _) (hJ2.I.2.1 3) rfl (ov41 fi_64.1) (ov42 c1 kov8) ?_
    intro a3 ea3 fa3
    have hJ3 := kG_a3 hJ2 3 rfl ea3 fa3 (kd_bd _)
    refine ft_go mi_k25 5 41 [(0, .ref 1), (1, .int x1), (2, .int x2), (3, .int x3)] [.int x3, .int (i 64), .ref 4] i a3 q r (by rfl) ?_
    refine ko_iast3 mi_k25.1 (n := 8) (c := 8) (ax := (0, 0, 0, 0, 0)) (mi_k25.2 _ _ (by rfl)) (by rfl) (ksG4 _ _ _ _) (ksA4 _ _ _ _) (hJ3.I.2.1 4) rfl (ov41 fi_64.1) (ov42 c1 kov8) ?_
    intro a4 ea4 fa4
    have hJ4 := kG_a3 hJ3 4 rfl ea4 fa4 (kd_bd _)
    refine ft_go mi_k25 5 51 [(0, .ref 1), (1, .int x1), (2, .int x2), (3, .int x3)] [.int 0, .int (i 64), .ref 5] i a4 q r (by rfl) ?_
    refine ko_iast3 mi_k25.1 (n := 8) (c := 8) (ax := (0, 0, 0, 0, 0)) (mi_k25.2 _ _ (by rfl)) (by rfl) (ksG5 _ _ _ _) (ksA5 _ _ _ _) (hJ4.I.2.1 5) rfl (ov41 fi_64.1) (ov42 c1 kov8) ?_
    intro a5 ea5 fa5
    have hJ5 := kG_a3 hJ4 5 rfl ea5 fa5 (kd_bd _)
    refine ft_go mi_k25 5 61 [(0, .ref 1), (1, .int x1), (2, .int x2), (3, .int x3)] [.int 0, .int (i 64), .ref 6] i a5 q r (by rfl) ?_
    refine ko_iast3 mi_k25.1 (n := 8) (c := 8) (ax := (0, 0, 0, 0, 0)) (mi_k25.2 _ _ (by rfl)) (by rfl) (ksG6 _ _ _ _) (ksA6 _ _ _ _) (hJ5.I.2.1 6) rfl (ov41 fi_64.1) (ov42 c1 kov8) ?_
    intro a6 ea6 fa6
    have hJ6 := kG_a3 hJ5 6 rfl ea6 fa6 (kd_bd _)
    have s7 : ((i 64) + 1).toInt = (i 64).toInt + (1 : Int32).toInt := kd_add (ov43 fi_64.1 kov1) (ov44 fi_64.2 kov1)
    have hJ8 := kG_i hJ6 64 rfl (v := ((i 64) + 1)) ⟨(ov45 fi_64.1 s7 kov1), (ov46 c1 s7 kov8 kov1)⟩
    have s9 : (((i 64) + 1) - 1).toInt = ((i 64) + 1).toInt - (1 : Int32).toInt := kd_sub (ov47 fi_64.1 s7 kov1) (ov48 fi_64.2 s7 kov1)
    refine ft_go mi_k25 10 78 [(0, .ref 1), (1, .int x1), (2, .int x2), (3, .int x3)] [.int (((i 64) + 1) - 1)] (ku i 64 ((i 64) + 1)) a6 q r (by rfl) ?_
    exact ft_ret mi_k25 (by rfl) (hP (((i 64) + 1) - 1) _ _ _ _ hJ8 ⟨(ov49 c1 s7 s9 kov8 kov1), ⟨(fun _ => (show a6 2 = (a 2).set (i 64).toNatClampNeg x1 from (by first | rfl | (simp only [fa6 2 (by decide), fa5 2 (by decide), fa4 2 (by decide), fa3 2 (by decide), ea2, sMn, sMx]; done) | (simp only [fa6 2 (by decide), fa5 2 (by decide), fa4 2 (by decide), fa3 2 (by decide), ea2, sMn, sMx]; rfl)))), (fun _ => (show a6 3 = (a 3).set (i 64).toNatClampNeg x2 from (by first | rfl | (simp only [fa6 3 (by decide), fa5 3 (by decide), fa4 3 (by decide), ea3, fa2 3 (by decide), sMn, sMx]; done) | (simp only [fa6 3 (by decide), fa5 3 (by decide), fa4 3 (by decide), ea3, fa2 3 (by decide), sMn, sMx]; rfl)))), (fun _ => (show a6 4 = (a 4).set (i 64).toNatClampNeg x3 from (by first | rfl | (simp only [fa6 4 (by decide), fa5 4 (by decide), ea4, fa3 4 (by decide), fa2 4 (by decide), sMn, sMx]; done) | (simp only [fa6 4 (by decide), fa5 4 (by decide), ea4, fa3 4 (by decide), fa2 4 (by decide), sMn, sMx]; rfl)))), (fun _ => (show a6 5 = (a 5).set (i 64).toNatClampNeg 0 from (by first | rfl | (simp only [fa6 5 (by decide), ea5, fa4 5 (by decide), fa3 5 (by decide), fa2 5 (by decide), sMn, sMx]; done) | (simp only [fa6 5 (by decide), ea5, fa4 5 (by decide), fa3 5 (by decide), fa2 5 (by decide), sMn, sMx]; rfl)))), (fun _ => (show a6 6 = (a 6).set (i 64).toNatClampNeg 0 from (by first | rfl | (simp only [ea6, fa5 6 (by decide), fa4 6 (by decide), fa3 6 (by decide), fa2 6 (by decide), sMn, sMx]; done) | (simp only [ea6, fa5 6 (by decide), fa4 6 (by decide), fa3 6 (by decide), fa2 6 (by decide), sMn, sMx]; rfl)))), (fun _ => (show ((i 64) + 1) = i 64 + 1 from (by first | rfl | (simp only [sMn, sMx]; done) | (simp only [sMn, sMx]; rfl))))⟩⟩)
  ·
    have c10 : (8 : Int32).toInt ≤ (i 64).toInt := kd_ltF c; clear c
    refine ft_go mi_k25 1 11 [(0, .ref 1), (1, .int x1), (2, .int x2), (3, .int x3)] [.int (-3)] i a q r (by rfl) ?_
    exact ft_ret mi_k25 (by rfl) (hP (-3) _ _ _ _ hG ⟨(ov50 c10 kov8 kovm3), ⟨(fun h => absurd h (ov51 c10 kov8)), (fun h => absurd h (ov51 c10 kov8)), (fun h => absurd h (ov51 c10 kov8)), (fun h => absurd h (ov51 c10 kov8)), (fun h => absurd h (ov51 c10 kov8)), (fun h => absurd h (ov51 c10 kov8))⟩⟩)
def yw82_0_104 : kW := ([64], [2, 3, 4, 5, 6], [], [])
