set_option maxRecDepth 100000 in
theorem ke20_10 {i : Nat → Int32} {a : Nat → List Int32} {q : Nat → List Int64} {r : Nat → Nat} (hI : kI i a q) (hr : kr r)  : km 1 20 [.ref 10] (ks i a q r) (kVI yw20_10 i a q r (fun v i1 a1 q1 r1 => ((((1 : Int) ≤ (i 645).toInt) ∧ ((i1 645).toInt = ((i 645).toInt - 1))) ∨ (((i 645).toInt ≤ 0) ∧ ((i1 645).toInt = (i 645).toInt))) ∧ (v, (a1 13, i1 645)) = lPop (a 13, i 645))) := by
  have hG := kG_self yw20_10 hI hr
  refine km_ofI (q := (mi_h20, mi_c20)) rfl (by decide) (Nat.le_of_ble_eq_true rfl) ?_
  intro P hP
  have fi_645 : ((0 : Int) ≤ (i 645).toInt) ∧ ((i 645).toInt ≤ 121) := hG.I.1 645
  refine ft_go mi_k20 2 4 [(0, .ref 10)] [.int (i 645)] i a q r (by rfl) ?_
  refine ft_if mi_k20 (decide (0 < (i 645))) 9 7 [(0, .ref 10)] [] (by rfl) (fun c => ?_) (fun c => ?_)
  ·
    have c1 : (0 : Int32).toInt < (i 645).toInt := kd_lt c; clear c
    have s2 : ((i 645) - 1).toInt = (i 645).toInt - (1 : Int32).toInt := kd_sub (od27 c1 kod0 kod1) (od28 fi_645.2 kod1)
    have hJ3 := kG_i hG 645 rfl (v := ((i 645) - 1)) ⟨(od29 c1 s2 kod0 kod1), (od30 fi_645.2 s2 kod1)⟩
    refine ft_go mi_k20 10 27 [(0, .ref 10)] [.int ((i 645) - 1), .ref 13] (ku i 645 ((i 645) - 1)) a q r (by rfl) ?_
    refine ko_iald3 mi_k20.1 (n := 121) (c := 121) (ax := (0, 0, 0, 0, 0)) (mi_k20.2 _ _ (by rfl)) (by rfl) (ksG13 _ _ _ _) (hJ3.I.2.1 13) rfl (od29 c1 s2 kod0 kod1) (od31 fi_645.2 s2 kod1) ?_
    exact ft_ret mi_k20 (by rfl) (hP ((a 13).getD ((i 645) - 1).toNatClampNeg 0) _ _ _ _ hJ3 ⟨(od32 c1 s2 kod0 kod1), ((show (((a 13).getD ((i 645) - 1).toNatClampNeg 0), (a 13, ((i 645) - 1))) = ((a 13).getD (i 645 - 1).toNatClampNeg 0, (a 13, i 645 - 1)) from rfl).trans (if_pos (od33 c1 kod0)).symm)⟩)
  ·
    have c4 : (i 645).toInt ≤ (0 : Int32).toInt := kd_ltF c; clear c
    refine ft_go mi_k20 1 8 [(0, .ref 10)] [.int 0] i a q r (by rfl) ?_
    exact ft_ret mi_k20 (by rfl) (hP 0 _ _ _ _ hG ⟨(od34 c4 kod0), ((show ((0 : Int32), (a 13, i 645)) = (0, (a 13, i 645)) from rfl).trans (if_neg (od35 c4 kod0)).symm)⟩)
