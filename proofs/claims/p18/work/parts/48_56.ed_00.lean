set_option maxRecDepth 100000 in
theorem ke19_10 {i : Nat → Int32} {a : Nat → List Int32} {q : Nat → List Int64} {r : Nat → Nat} (hI : kI i a q) (hr : kr r) (x1 : Int32) : km 1 19 [.ref 10, .int x1] (ks i a q r) (kVN yw19_10 i a q r (fun i1 a1 q1 r1 => ((((i 645).toInt ≤ 120) ∧ ((i1 645).toInt = ((i 645).toInt + 1))) ∨ (((121 : Int) ≤ (i 645).toInt) ∧ ((i1 645).toInt = (i 645).toInt))) ∧ (a1 13, i1 645) = lPush (a 13, i 645) x1)) := by
  have hG := kG_self yw19_10 hI hr
  refine km_ofN (q := (mi_h19, mi_c19)) rfl (by decide) (Nat.le_of_ble_eq_true rfl) ?_
  intro P hP
  have fi_645 : ((0 : Int) ≤ (i 645).toInt) ∧ ((i 645).toInt ≤ 121) := hG.I.1 645
  refine ft_go mi_k19 3 6 [(0, .ref 10), (1, .int x1)] [.int 121, .int (i 645)] i a q r (by rfl) ?_
  refine ft_if mi_k19 (decide (121 ≤ (i 645))) 29 9 [(0, .ref 10), (1, .int x1)] [] (by rfl) (fun c => ?_) (fun c => ?_)
  ·
    have c1 : (121 : Int32).toInt ≤ (i 645).toInt := kd_le c; clear c
    exact ft_ret mi_k19 (by rfl) (hP  _ _ _ _ hG ⟨(od9 c1 kod121), ((show (a 13, i 645) = (a 13, i 645) from rfl).trans (if_neg (od10 c1 kod121)).symm)⟩)
  ·
    have c2 : (i 645).toInt < (121 : Int32).toInt := kd_leF c; clear c
    refine ft_go mi_k19 5 18 [(0, .ref 10), (1, .int x1)] [.int x1, .int (i 645), .ref 13] i a q r (by rfl) ?_
    refine ko_iast3 mi_k19.1 (n := 121) (c := 121) (ax := (0, 0, 0, 0, 0)) (mi_k19.2 _ _ (by rfl)) (by rfl) (ksG13 _ _ _ _) (ksA13 _ _ _ _) (hG.I.2.1 13) rfl (od11 fi_645.1) (od12 c2 kod121) ?_
    intro a3 ea3 fa3
    have hJ3 := kG_a3 hG 13 rfl ea3 fa3 (kd_bd _)
    have s4 : ((i 645) + 1).toInt = (i 645).toInt + (1 : Int32).toInt := kd_add (od13 fi_645.1 kod1) (od14 fi_645.2 kod1)
    have hJ5 := kG_i hJ3 645 rfl (v := ((i 645) + 1)) ⟨(od15 fi_645.1 s4 kod1), (od16 c2 s4 kod121 kod1)⟩
    refine ft_go mi_k19 6 29 [(0, .ref 10), (1, .int x1)] [] (ku i 645 ((i 645) + 1)) a3 q r (by rfl) ?_
    exact ft_ret mi_k19 (by rfl) (hP  _ _ _ _ hJ5 ⟨(od17 c2 s4 kod121 kod1), ((show (a3 13, ((i 645) + 1)) = ((a 13).set (i 645).toNatClampNeg x1, i 645 + 1) from by rw [ea3]).trans (if_pos (od18 c2 kod121)).symm)⟩)
def yw20_10 : kW := ([645], [], [], [])
