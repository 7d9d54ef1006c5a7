set_option maxRecDepth 100000 in
theorem ke19_100 {i : Nat → Int32} {a : Nat → List Int32} {q : Nat → List Int64} {r : Nat → Nat} (hI : kI i a q) (hr : kr r) (x1 : Int32) : km 1 19 [.ref 100, .int x1] (ks i a q r) (kVN yw19_100 i a q r (fun i1 a1 q1 r1 => ((((i 6405).toInt ≤ 120) ∧ ((i1 6405).toInt = ((i 6405).toInt + 1))) ∨ (((121 : Int) ≤ (i 6405).toInt) ∧ ((i1 6405).toInt = (i 6405).toInt))) ∧ (a1 103, i1 6405) = lPush (a 103, i 6405) x1)) := by
  have hG := kG_self yw19_100 hI hr
  refine km_ofN (q := (mi_h19, mi_c19)) rfl (by decide) (Nat.le_of_ble_eq_true rfl) ?_
  intro P hP
  have fi_6405 : ((0 : Int) ≤ (i 6405).toInt) ∧ ((i 6405).toInt ≤ 121) := hG.I.1 6405
  refine ft_go mi_k19 3 6 [(0, .ref 100), (1, .int x1)] [.int 121, .int (i 6405)] i a q r (by rfl) ?_
  refine ft_if mi_k19 (decide (121 ≤ (i 6405))) 29 9 [(0, .ref 100), (1, .int x1)] [] (by rfl) (fun c => ?_) (fun c => ?_)
  ·
    have c1 : (121 : Int32).toInt ≤ (i 6405).toInt := kd_le c; clear c
    exact ft_ret mi_k19 (by rfl) (hP  _ _ _ _ hG ⟨(od9 c1 kod121), ((show (a 103, i 6405) = (a 103, i 6405) from rfl).trans (if_neg (od10 c1 kod121)).symm)⟩)
  ·
    have c2 : (i 6405).toInt < (121 : Int32).toInt := kd_leF c; clear c
    refine ft_go mi_k19 5 18 [(0, .ref 100), (1, .int x1)] [.int x1, .int (i 6405), .ref 103] i a q r (by rfl) ?_
    refine ko_iast3 mi_k19.1 (n := 121) (c := 121) (ax := (0, 0, 0, 0, 0)) (mi_k19.2 _ _ (by rfl)) (by rfl) (ksG103 _ _ _ _) (ksA103 _ _ _ _) (hG.I.2.1 103) rfl (od11 fi_6405.1) (od12 c2 kod121) ?_
    intro a3 ea3 fa3
    have hJ3 := kG_a3 hG 103 rfl ea3 fa3 (kd_bd _)
    have s4 : ((i 6405) + 1).toInt = (i 6405).toInt + (1 : Int32).toInt := kd_add (od13 fi_6405.1 kod1) (od14 fi_6405.2 kod1)
    have hJ5 := kG_i hJ3 6405 rfl (v := ((i 6405) + 1)) ⟨(od15 fi_6405.1 s4 kod1), (od16 c2 s4 kod121 kod1)⟩
    refine ft_go mi_k19 6 29 [(0, .ref 100), (1, .int x1)] [] (ku i 6405 ((i 6405) + 1)) a3 q r (by rfl) ?_
    exact ft_ret mi_k19 (by rfl) (hP  _ _ _ _ hJ5 ⟨(od17 c2 s4 kod121 kod1), ((show (a3 103, ((i 6405) + 1)) = ((a 103).set (i 6405).toNatClampNeg x1, i 6405 + 1) from by rw [ea3]).trans (if_pos (od18 c2 kod121)).symm)⟩)
def yw20_100 : kW := ([6405], [], [], [])
