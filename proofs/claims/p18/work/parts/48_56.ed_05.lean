set_option maxRecDepth 100000 in
theorem ke20_100 {i : Nat → Int32} {a : Nat → List Int32} {q : Nat → List Int64} {r : Nat → Nat} (hI : kI i a q) (hr : kr r)  : km 1 20 [.ref 100] (ks i a q r) (kVI yw20_100 i a q r (fun v i1 a1 q1 r1 => ((((1 : Int) ≤ (i 6405).toInt) ∧ ((i1 6405).toInt = ((i 6405).toInt - 1))) ∨ (((i 6405).toInt ≤ 0) ∧ ((i1 6405).toInt = (i 6405).toInt))) ∧ (v, (a1 103, i1 6405)) = lPop (a 103, i 6405))) := by
  have hG := kG_self yw20_100 hI hr
  refine km_ofI (q := (mi_h20, mi_c20)) rfl (by decide) (Nat.le_of_ble_eq_true rfl) ?_
  intro P hP
  have fi_6405 : ((0 : Int) ≤ (i 6405).toInt) ∧ ((i 6405).toInt ≤ 121) := hG.I.1 6405
  refine ft_go mi_k20 2 4 [(0, .ref 100)] [.int (i 6405)] i a q r (by rfl) ?_
  refine ft_if mi_k20 (decide (0 < (i 6405))) 9 7 [(0, .ref 100)] [] (by rfl) (fun c => ?_) (fun c => ?_)
  ·
    have c1 : (0 : Int32).toInt < (i 6405).toInt := kd_lt c; clear c
    have s2 : ((i 6405) - 1).toInt = (i 6405).toInt - (1 : Int32).toInt := kd_sub (od27 c1 kod0 kod1) (od28 fi_6405.2 kod1)
    have hJ3 := kG_i hG 6405 rfl (v := ((i 6405) - 1)) ⟨(od29 c1 s2 kod0 kod1), (od30 fi_6405.2 s2 kod1)⟩
    refine ft_go mi_k20 10 27 [(0, .ref 100)] [.int ((i 6405) - 1), .ref 103] (ku i 6405 ((i 6405) - 1)) a q r (by rfl) ?_
    refine ko_iald3 mi_k20.1 (n := 121) (c := 121) (ax := (0, 0, 0, 0, 0)) (mi_k20.2 _ _ (by rfl)) (by rfl) (ksG103 _ _ _ _) (hJ3.I.2.1 103) rfl (od29 c1 s2 kod0 kod1) (od31 fi_6405.2 s2 kod1) ?_
    exact ft_ret mi_k20 (by rfl) (hP ((a 103).getD ((i 6405) - 1).toNatClampNeg 0) _ _ _ _ hJ3 ⟨(od32 c1 s2 kod0 kod1), ((show (((a 103).getD ((i 6405) - 1).toNatClampNeg 0), (a 103, ((i 6405) - 1))) = ((a 103).getD (i 6405 - 1).toNatClampNeg 0, (a 103, i 6405 - 1)) from rfl).trans (if_pos (od33 c1 kod0)).symm)⟩)
  ·
    have c4 : (i 6405).toInt ≤ (0 : Int32).toInt := kd_ltF c; clear c
    refine ft_go mi_k20 1 8 [(0, .ref 100)] [.int 0] i a q r (by rfl) ?_
    exact ft_ret mi_k20 (by rfl) (hP 0 _ _ _ _ hG ⟨(od34 c4 kod0), ((show ((0 : Int32), (a 103, i 6405)) = (0, (a 103, i 6405)) from rfl).trans (if_neg (od35 c4 kod0)).symm)⟩)
def yw21_100_24 : kW := ([6405], [103], [], [])
def yw21_100_24_L9 : kW := ([6405], [103], [], [])
