set_option maxRecDepth 100000 in
theorem ke31_1 {i : Nat → Int32} {a : Nat → List Int32} {q : Nat → List Int64} {r : Nat → Nat} (hI : kI i a q) (hr : kr r) (x1 : Int32) (x2 : Int32) (hp0 : ((0 : Int) ≤ x1.toInt) ∧ (x1.toInt ≤ 7)) : km 5 31 [.ref 1, .int x1, .int x2] (ks i a q r) (kVI yw31_1 i a q r (fun v i1 a1 q1 r1 => (True) ∧ v = cBuyV (i (64 * r 0)) (a (r 0 + 1)) (a (r 0 + 2)) (a (r 0 + 3)) (i (64 * r 0 + 3)) ((a 3).getD x1.toNatClampNeg 0) x2 ((a 4).getD x1.toNatClampNeg 0) (i 73) ((a 6).getD x1.toNatClampNeg 0) (i 72))) := by
  have hG := kG_self yw31_1 hI hr
  refine km_ofI (q := (mi_h31, mi_c31)) rfl (by decide) (Nat.le_of_ble_eq_true rfl) ?_
  intro P hP
  refine ft_go mi_k31 4 6 [(0, .ref 1), (1, .int x1), (2, .int x2)] [.int x1, .ref 3, .int 5] i a q r (by rfl) ?_
  refine ko_iald3 mi_k31.1 (n := 8) (c := 8) (ax := (0, 0, 0, 0, 0)) (mi_k31.2 _ _ (by rfl)) (by rfl) (ksG3 _ _ _ _) (hG.I.2.1 3) rfl (od11 hp0.1) (od47 hp0.2) ?_
  have b1 : ((-2147483648 : Int) ≤ ((a 3).getD x1.toNatClampNeg 0).toInt) ∧ (((a 3).getD x1.toNatClampNeg 0).toInt ≤ 2147483647) := kd_bd ((a 3).getD x1.toNatClampNeg 0)
  refine ft_go mi_k31 4 13 [(0, .ref 1), (1, .int x1), (2, .int x2)] [.int x1, .ref 4, .int (5 * ((a 3).getD x1.toNatClampNeg 0))] i a q r (by rfl) ?_
  refine ko_iald3 mi_k31.1 (n := 8) (c := 8) (ax := (0, 0, 0, 0, 0)) (mi_k31.2 _ _ (by rfl)) (by rfl) (ksG4 _ _ _ _) (hG.I.2.1 4) rfl (od11 hp0.1) (od47 hp0.2) ?_
  have b2 : ((-2147483648 : Int) ≤ (5 * ((a 3).getD x1.toNatClampNeg 0)).toInt) ∧ ((5 * ((a 3).getD x1.toNatClampNeg 0)).toInt ≤ 2147483647) := kd_bd (5 * ((a 3).getD x1.toNatClampNeg 0))
  have b3 : ((-2147483648 : Int) ≤ ((a 4).getD x1.toNatClampNeg 0).toInt) ∧ (((a 4).getD x1.toNatClampNeg 0).toInt ≤ 2147483647) := kd_bd ((a 4).getD x1.toNatClampNeg 0)
  refine ft_go mi_k31 5 21 [(0, .ref 1), (1, .int x1), (2, .int x2)] [.int x1, .ref 6, .int 2, .int ((5 * ((a 3).getD x1.toNatClampNeg 0)) + ((a 4).getD x1.toNatClampNeg 0))] i a q r (by rfl) ?_
  refine ko_iald3 mi_k31.1 (n := 8) (c := 8) (ax := (0, 0, 0, 0, 0)) (mi_k31.2 _ _ (by rfl)) (by rfl) (ksG6 _ _ _ _) (hG.I.2.1 6) rfl (od11 hp0.1) (od47 hp0.2) ?_
  have b4 : ((-2147483648 : Int) ≤ ((a 6).getD x1.toNatClampNeg 0).toInt) ∧ (((a 6).getD x1.toNatClampNeg 0).toInt ≤ 2147483647) := kd_bd ((a 6).getD x1.toNatClampNeg 0)
  have b5 : ((-2147483648 : Int) ≤ ((5 * ((a 3).getD x1.toNatClampNeg 0)) + ((a 4).getD x1.toNatClampNeg 0)).toInt) ∧ (((5 * ((a 3).getD x1.toNatClampNeg 0)) + ((a 4).getD x1.toNatClampNeg 0)).toInt ≤ 2147483647) := kd_bd ((5 * ((a 3).getD x1.toNatClampNeg 0)) + ((a 4).getD x1.toNatClampNeg 0))
  have b6 : ((-2147483648 : Int) ≤ (2 * ((a 6).getD x1.toNatClampNeg 0)).toInt) ∧ ((2 * ((a 6).getD x1.toNatClampNeg 0)).toInt ≤ 2147483647) := kd_bd (2 * ((a 6).getD x1.toNatClampNeg 0))
  refine ft_go mi_k31 5 29 [(3, .int (((5 * ((a 3).getD x1.toNatClampNeg 0)) + ((a 4).getD x1.toNatClampNeg 0)) - (2 * ((a 6).getD x1.toNatClampNeg 0)))), (0, .ref 1), (1, .int x1), (2, .int x2)] [.ref (r 0)] i a q r (by rfl) ?_
  rcases hG.R.1 with ⟨eRr_0, eRr_2⟩ | ⟨eRr_0, eRr_2⟩
  ·
    have eRr_0 : r 0 = 10 := eRr_0
    have eRr_2 : r 2 = 100 := eRr_2
    refine ko_eq (x1 := (29, [(3, .int (((5 * ((a 3).getD x1.toNatClampNeg 0)) + ((a 4).getD x1.toNatClampNeg 0)) - (2 * ((a 6).getD x1.toNatClampNeg 0)))), (0, .ref 1), (1, .int x1), (2, .int x2)], [.ref 10], (0, 0), ks i a q r)) (by rw [eRr_0]) ?_
    have fi_640 : ((0 : Int) ≤ (i 640).toInt) ∧ ((i 640).toInt ≤ 1) := hG.I.1 640
    refine ft_go mi_k31 1 32 [(3, .int (((5 * ((a 3).getD x1.toNatClampNeg 0)) + ((a 4).getD x1.toNatClampNeg 0)) - (2 * ((a 6).getD x1.toNatClampNeg 0)))), (0, .ref 1), (1, .int x1), (2, .int x2)] [.int (i 640)] i a q r (by rfl) ?_
    refine ft_if mi_k31 ((i 640) == 0) 110 35 [(3, .int (((5 * ((a 3).getD x1.toNatClampNeg 0)) + ((a 4).getD x1.toNatClampNeg 0)) - (2 * ((a 6).getD x1.toNatClampNeg 0)))), (0, .ref 1), (1, .int x1), (2, .int x2)] [] (by rfl) (fun c => ?_) (fun c => ?_)
    ·
      have c7 : (i 640).toInt = (0 : Int32).toInt := kd_eq c; clear c
      refine ft_go mi_k31 3 114 [(3, .int (((5 * ((a 3).getD x1.toNatClampNeg 0)) + ((a 4).getD x1.toNatClampNeg 0)) - (2 * ((a 6).getD x1.toNatClampNeg 0)))), (0, .ref 1), (1, .int x1), (2, .int x2)] [.int (((5 * ((a 3).getD x1.toNatClampNeg 0)) + ((a 4).getD x1.toNatClampNeg 0)) - (2 * ((a 6).getD x1.toNatClampNeg 0))), .int 99, .int 0] i a q r (by rfl) ?_
      have m9 : (((bif decide ((((5 * ((a 3).getD x1.toNatClampNeg 0)) + ((a 4).getD x1.toNatClampNeg 0)) - (2 * ((a 6).getD x1.toNatClampNeg 0))) < 99) then (((5 * ((a 3).getD x1.toNatClampNeg 0)) + ((a 4).getD x1.toNatClampNeg 0)) - (2 * ((a 6).getD x1.toNatClampNeg 0))) else 99).toInt ≤ (99 : Int32).toInt) ∧ ((bif decide ((((5 * ((a 3).getD x1.toNatClampNeg 0)) + ((a 4).getD x1.toNatClampNeg 0)) - (2 * ((a 6).getD x1.toNatClampNeg 0))) < 99) then (((5 * ((a 3).getD x1.toNatClampNeg 0)) + ((a 4).getD x1.toNatClampNeg 0)) - (2 * ((a 6).getD x1.toNatClampNeg 0))) else 99).toInt ≤ (((5 * ((a 3).getD x1.toNatClampNeg 0)) + ((a 4).getD x1.toNatClampNeg 0)) - (2 * ((a 6).getD x1.toNatClampNeg 0))).toInt)) ∧ ((bif decide ((((5 * ((a 3).getD x1.toNatClampNeg 0)) + ((a 4).getD x1.toNatClampNeg 0)) - (2 * ((a 6).getD x1.toNatClampNeg 0))) < 99) then (((5 * ((a 3).getD x1.toNatClampNeg 0)) + ((a 4).getD x1.toNatClampNeg 0)) - (2 * ((a 6).getD x1.toNatClampNeg 0))) else 99).toInt = (99 : Int32).toInt ∨ (bif decide ((((5 * ((a 3).getD x1.toNatClampNeg 0)) + ((a 4).getD x1.toNatClampNeg 0)) - (2 * ((a 6).getD x1.toNatClampNeg 0))) < 99) then (((5 * ((a 3).getD x1.toNatClampNeg 0)) + ((a 4).getD x1.toNatClampNeg 0)) - (2 * ((a 6).getD x1.toNatClampNeg 0))) else 99).toInt = (((5 * ((a 3).getD x1.toNatClampNeg 0)) + ((a 4).getD x1.toNatClampNeg 0)) - (2 * ((a 6).getD x1.toNatClampNeg 0))).toInt) := kd_min
      refine ft_go mi_k31 1 117 [(3, .int (((5 * ((a 3).getD x1.toNatClampNeg 0)) + ((a 4).getD x1.toNatClampNeg 0)) - (2 * ((a 6).getD x1.toNatClampNeg 0)))), (0, .ref 1), (1, .int x1), (2, .int x2)] [.int (bif decide ((((5 * ((a 3).getD x1.toNatClampNeg 0)) + ((a 4).getD x1.toNatClampNeg 0)) - (2 * ((a 6).getD x1.toNatClampNeg 0))) < 99) then (((5 * ((a 3).getD x1.toNatClampNeg 0)) + ((a 4).getD x1.toNatClampNeg 0)) - (2 * ((a 6).getD x1.toNatClampNeg 0))) else 99), .int 0] i a q r (by rfl) ?_
      generalize hm8 : (bif decide ((((5 * ((a 3).getD x1.toNatClampNeg 0)) + ((a 4).getD x1.toNatClampNeg 0)) - (2 * ((a 6).getD x1.toNatClampNeg 0))) < 99) then (((5 * ((a 3).getD x1.toNatClampNeg 0)) + ((a 4).getD x1.toNatClampNeg 0)) - (2 * ((a 6).getD x1.toNatClampNeg 0))) else 99) = m8 at m9 ⊢
      have qm8 := hm8.symm
      have m11 : (((0 : Int32).toInt ≤ (bif decide (0 < m8) then m8 else 0).toInt) ∧ (m8.toInt ≤ (bif decide (0 < m8) then m8 else 0).toInt)) ∧ ((bif decide (0 < m8) then m8 else 0).toInt = (0 : Int32).toInt ∨ (bif decide (0 < m8) then m8 else 0).toInt = m8.toInt) := kd_max
      refine ft_go mi_k31 1 120 [(3, .int (((5 * ((a 3).getD x1.toNatClampNeg 0)) + ((a 4).getD x1.toNatClampNeg 0)) - (2 * ((a 6).getD x1.toNatClampNeg 0)))), (0, .ref 1), (1, .int x1), (2, .int x2)] [.int (bif decide (0 < m8) then m8 else 0)] i a q r (by rfl) ?_
      generalize hm10 : (bif decide (0 < m8) then m8 else 0) = m10 at m11 ⊢
      have qm10 := hm10.symm
      exact ft_ret mi_k31 (by rfl) (hP m10 _ _ _ _ hG ⟨trivial, (show m10 = cBuyV (i (64 * r 0)) (a (r 0 + 1)) (a (r 0 + 2)) (a (r 0 + 3)) (i (64 * r 0 + 3)) ((a 3).getD x1.toNatClampNeg 0) x2 ((a 4).getD x1.toNatClampNeg 0) (i 73) ((a 6).getD x1.toNatClampNeg 0) (i 72) from (by rw [eRr_0]; unfold cBuyV; rw [if_pos (od48 c7 fi_640.1 kod0)]; first | rfl | (simp only [qm10, qm8, sMn, sMx]; rfl)))⟩)
    ·
      have c12 : (i 640).toInt ≠ (0 : Int32).toInt := kd_eqF c; clear c
      refine ft_go mi_k31 6 45 [(3, .int (((5 * ((a 3).getD x1.toNatClampNeg 0)) + ((a 4).getD x1.toNatClampNeg 0)) - (2 * ((a 6).getD x1.toNatClampNeg 0)))), (0, .ref 1), (1, .int x1), (2, .int x2)] [.int x1, .ref 3, .int 0, .ref 24] i a q r (by rfl) ?_
      refine ko_iald3 mi_k31.1 (n := 8) (c := 8) (ax := (0, 0, 0, 0, 0)) (mi_k31.2 _ _ (by rfl)) (by rfl) (ksG3 _ _ _ _) (hG.I.2.1 3) rfl (od11 hp0.1) (od47 hp0.2) ?_
      refine ko_iast3 mi_k31.1 (n := 6) (c := 6) (ax := (0, 0, 0, 0, 0)) (mi_k31.2 _ _ (by rfl)) (by rfl) (ksG24 _ _ _ _) (ksA24 _ _ _ _) (hG.I.2.1 24) rfl (od0 kod0) (od49 kod0) ?_
      intro a13 ea13 fa13
      have hJ13 := kG_a3 hG 24 rfl ea13 fa13 (kd_bd _)
      refine ft_go mi_k31 4 53 [(3, .int (((5 * ((a 3).getD x1.toNatClampNeg 0)) + ((a 4).getD x1.toNatClampNeg 0)) - (2 * ((a 6).getD x1.toNatClampNeg 0)))), (0, .ref 1), (1, .int x1), (2, .int x2)] [.int x2, .int 1, .ref 24] i a13 q r (by rfl) ?_
      refine ko_iast3 mi_k31.1 (n := 6) (c := 6) (ax := (0, 0, 0, 0, 0)) (mi_k31.2 _ _ (by rfl)) (by rfl) (ksG24 _ _ _ _) (ksA24 _ _ _ _) (hJ13.I.2.1 24) rfl (od50 kod1) (od51 kod1) ?_
      intro a14 ea14 fa14
      have hJ14 := kG_a3 hJ13 24 rfl ea14 fa14 (kd_bd _)
      refine ft_go mi_k31 6 64 [(3, .int (((5 * ((a 3).getD x1.toNatClampNeg 0)) + ((a 4).getD x1.toNatClampNeg 0)) - (2 * ((a 6).getD x1.toNatClampNeg 0)))), (0, .ref 1), (1, .int x1), (2, .int x2)] [.int x1, .ref 4, .int 2, .ref 24] i a14 q r (by rfl) ?_
      refine ko_iald3 mi_k31.1 (n := 8) (c := 8) (ax := (0, 0, 0, 0, 0)) (mi_k31.2 _ _ (by rfl)) (by rfl) (ksG4 _ _ _ _) (hJ14.I.2.1 4) rfl (od11 hp0.1) (od47 hp0.2) ?_
      refine ko_iast3 mi_k31.1 (n := 6) (c := 6) (ax := (0, 0, 0, 0, 0)) (mi_k31.2 _ _ (by rfl)) (by rfl) (ksG24 _ _ _ _) (ksA24 _ _ _ _) (hJ14.I.2.1 24) rfl (od52 kod2) (od53 kod2) ?_
      intro a15 ea15 fa15
      have hJ15 := kG_a3 hJ14 24 rfl ea15 fa15 (kd_bd _)
      refine ft_go mi_k31 5 75 [(3, .int (((5 * ((a 3).getD x1.toNatClampNeg 0)) + ((a 4).getD x1.toNatClampNeg 0)) - (2 * ((a 6).getD x1.toNatClampNeg 0)))), (0, .ref 1), (1, .int x1), (2, .int x2)] [.int (i 73), .int 3, .ref 24] i a15 q r (by rfl) ?_
      refine ko_iast3 mi_k31.1 (n := 6) (c := 6) (ax := (0, 0, 0, 0, 0)) (mi_k31.2 _ _ (by rfl)) (by rfl) (ksG24 _ _ _ _) (ksA24 _ _ _ _) (hJ15.I.2.1 24) rfl (od54 kod3) (od55 kod3) ?_
      intro a16 ea16 fa16
      have hJ16 := kG_a3 hJ15 24 rfl ea16 fa16 (kd_bd _)
      refine ft_go mi_k31 6 86 [(3, .int (((5 * ((a 3).getD x1.toNatClampNeg 0)) + ((a 4).getD x1.toNatClampNeg 0)) - (2 * ((a 6).getD x1.toNatClampNeg 0)))), (0, .ref 1), (1, .int x1), (2, .int x2)] [.int x1, .ref 6, .int 4, .ref 24] i a16 q r (by rfl) ?_
      refine ko_iald3 mi_k31.1 (n := 8) (c := 8) (ax := (0, 0, 0, 0, 0)) (mi_k31.2 _ _ (by rfl)) (by rfl) (ksG6 _ _ _ _) (hJ16.I.2.1 6) rfl (od11 hp0.1) (od47 hp0.2) ?_
      refine ko_iast3 mi_k31.1 (n := 6) (c := 6) (ax := (0, 0, 0, 0, 0)) (mi_k31.2 _ _ (by rfl)) (by rfl) (ksG24 _ _ _ _) (ksA24 _ _ _ _) (hJ16.I.2.1 24) rfl (od56 kod4) (od57 kod4) ?_
      intro a17 ea17 fa17
      have hJ17 := kG_a3 hJ16 24 rfl ea17 fa17 (kd_bd _)
      refine ft_go mi_k31 5 97 [(3, .int (((5 * ((a 3).getD x1.toNatClampNeg 0)) + ((a 4).getD x1.toNatClampNeg 0)) - (2 * ((a 6).getD x1.toNatClampNeg 0)))), (0, .ref 1), (1, .int x1), (2, .int x2)] [.int (i 72), .int 5, .ref 24] i a17 q r (by rfl) ?_
      refine ko_iast3 mi_k31.1 (n := 6) (c := 6) (ax := (0, 0, 0, 0, 0)) (mi_k31.2 _ _ (by rfl)) (by rfl) (ksG24 _ _ _ _) (ksA24 _ _ _ _) (hJ17.I.2.1 24) rfl (od58 kod5) (od59 kod5) ?_
      intro a18 ea18 fa18
      have hJ18 := kG_a3 hJ17 24 rfl ea18 fa18 (kd_bd _)
      refine ft_go mi_k31 2 102 [(3, .int (((5 * ((a 3).getD x1.toNatClampNeg 0)) + ((a 4).getD x1.toNatClampNeg 0)) - (2 * ((a 6).getD x1.toNatClampNeg 0)))), (0, .ref 1), (1, .int x1), (2, .int x2)] [.ref (r 0)] i a18 q r (by rfl) ?_
      refine ko_eq (x1 := (102, [(3, .int (((5 * ((a 3).getD x1.toNatClampNeg 0)) + ((a 4).getD x1.toNatClampNeg 0)) - (2 * ((a 6).getD x1.toNatClampNeg 0)))), (0, .ref 1), (1, .int x1), (2, .int x2)], [.ref 10], (0, 0), ks i a18 q r)) (by rw [eRr_0]) ?_
      have qn19 : a18 24 = [((a 3).getD x1.toNatClampNeg 0), x2, ((a14 4).getD x1.toNatClampNeg 0), (i 73), ((a16 6).getD x1.toNatClampNeg 0), (i 72)] := by rw [ea18, ea17, ea16, ea15, ea14, ea13]; exact kNames ((congrArg List.length (rfl)).trans (hG.I.2.1 24))
      refine ft_go mi_k31 2 106 [(3, .int (((5 * ((a 3).getD x1.toNatClampNeg 0)) + ((a 4).getD x1.toNatClampNeg 0)) - (2 * ((a 6).getD x1.toNatClampNeg 0)))), (0, .ref 1), (1, .int x1), (2, .int x2)] [.ref 24, .ref 10] i a18 q r (by rfl) ?_
      refine ko_callI mi_k31.1 (pc := 106) (ls := [(3, .int (((5 * ((a 3).getD x1.toNatClampNeg 0)) + ((a 4).getD x1.toNatClampNeg 0)) - (2 * ((a 6).getD x1.toNatClampNeg 0)))), (0, .ref 1), (1, .int x1), (2, .int x2)]) (st := [.ref 24, .ref 10]) (h := ks i a18 q r) (i := (.invokevirtual 126, 3, 21, 0, 9, 0, 224)) (mi_k31.2 _ _ (by rfl)) (ft_invS mi_pq21 (by rfl)) (cy := mi_c21) mi_pq21 rfl (ke21_10_24 hJ18.I hJ18.R ) (by decide) ?_
      intro vg20 ig20 ag20 qg20 rg20 kg20 hg20
      have hGg20 := kG_call hJ18 kg20 (by decide +kernel)
      have eRrg20_0 : rg20 0 = 10 := (kg20.fr 0 rfl).trans eRr_0
      have eRrg20_2 : rg20 2 = 100 := (kg20.fr 2 rfl).trans eRr_2
      obtain ⟨hg20, og20⟩ := hg20
      have q21 : vg20 = lRun (a18 11) (a18 12) (a18 24) (i 643) 121 0 (a18 13, 0) := og20
      refine ft_go mi_k31 4 114 [(3, .int vg20), (0, .ref 1), (1, .int x1), (2, .int x2)] [.int vg20, .int 99, .int 0] ig20 ag20 qg20 rg20 (by rfl) ?_
      have m23 : (((bif decide (vg20 < 99) then vg20 else 99).toInt ≤ (99 : Int32).toInt) ∧ ((bif decide (vg20 < 99) then vg20 else 99).toInt ≤ vg20.toInt)) ∧ ((bif decide (vg20 < 99) then vg20 else 99).toInt = (99 : Int32).toInt ∨ (bif decide (vg20 < 99) then vg20 else 99).toInt = vg20.toInt) := kd_min
      refine ft_go mi_k31 1 117 [(3, .int vg20), (0, .ref 1), (1, .int x1), (2, .int x2)] [.int (bif decide (vg20 < 99) then vg20 else 99), .int 0] ig20 ag20 qg20 rg20 (by rfl) ?_
      generalize hm22 : (bif decide (vg20 < 99) then vg20 else 99) = m22 at m23 ⊢
      have qm22 := hm22.symm
      have m25 : (((0 : Int32).toInt ≤ (bif decide (0 < m22) then m22 else 0).toInt) ∧ (m22.toInt ≤ (bif decide (0 < m22) then m22 else 0).toInt)) ∧ ((bif decide (0 < m22) then m22 else 0).toInt = (0 : Int32).toInt ∨ (bif decide (0 < m22) then m22 else 0).toInt = m22.toInt) := kd_max
      refine ft_go mi_k31 1 120 [(3, .int vg20), (0, .ref 1), (1, .int x1), (2, .int x2)] [.int (bif decide (0 < m22) then m22 else 0)] ig20 ag20 qg20 rg20 (by rfl) ?_
      generalize hm24 : (bif decide (0 < m22) then m22 else 0) = m24 at m25 ⊢
      have qm24 := hm24.symm
      exact ft_ret mi_k31 (by rfl) (hP m24 _ _ _ _ hGg20 ⟨trivial, (show m24 = cBuyV (i (64 * r 0)) (a (r 0 + 1)) (a (r 0 + 2)) (a (r 0 + 3)) (i (64 * r 0 + 3)) ((a 3).getD x1.toNatClampNeg 0) x2 ((a 4).getD x1.toNatClampNeg 0) (i 73) ((a 6).getD x1.toNatClampNeg 0) (i 72) from (by rw [eRr_0]; unfold cBuyV; rw [if_neg (od60 c12 fi_640.1 kod0)]; first | rfl | (simp only [qm24, qm22, q21, fa18 11 (by decide), fa18 12 (by decide), qn19, fa18 13 (by decide), fa17 13 (by decide), fa16 13 (by decide), fa15 13 (by decide), fa14 13 (by decide), fa13 13 (by decide), fa14 4 (by decide), fa16 6 (by decide), fa15 6 (by decide), fa14 6 (by decide), fa13 6 (by decide), fa13 4 (by decide), fa17 12 (by decide), fa16 12 (by decide), fa15 12 (by decide), fa14 12 (by decide), fa13 12 (by decide), fa17 11 (by decide), fa16 11 (by decide), fa15 11 (by decide), fa14 11 (by decide), fa13 11 (by decide), sMn, sMx]; rfl)))⟩)
  ·
    have eRr_0 : r 0 = 100 := eRr_0
    have eRr_2 : r 2 = 10 := eRr_2
    refine ko_eq (x1 := (29, [(3, .int (((5 * ((a 3).getD x1.toNatClampNeg 0)) + ((a 4).getD x1.toNatClampNeg 0)) - (2 * ((a 6).getD x1.toNatClampNeg 0)))), (0, .ref 1), (1, .int x1), (2, .int x2)], [.ref 100], (0, 0), ks i a q r)) (by rw [eRr_0]) ?_
    have fi_6400 : ((0 : Int) ≤ (i 6400).toInt) ∧ ((i 6400).toInt ≤ 1) := hG.I.1 6400
    refine ft_go mi_k31 1 32 [(3, .int (((5 * ((a 3).getD x1.toNatClampNeg 0)) + ((a 4).getD x1.toNatClampNeg 0)) - (2 * ((a 6).getD x1.toNatClampNeg 0)))), (0, .ref 1), (1, .int x1), (2, .int x2)] [.int (i 6400)] i a q r (by rfl) ?_
    refine ft_if mi_k31 ((i 6400) == 0) 110 35 [(3, .int (((5 * ((a 3).getD x1.toNatClampNeg 0)) + ((a 4).getD x1.toNatClampNeg 0)) - (2 * ((a 6).getD x1.toNatClampNeg 0)))), (0, .ref 1), (1, .int x1), (2, .int x2)] [] (by rfl) (fun c => ?_) (fun c => ?_)
    ·
      have c26 : (i 6400).toInt = (0 : Int32).toInt := kd_eq c; clear c
      refine ft_go mi_k31 3 114 [(3, .int (((5 * ((a 3).getD x1.toNatClampNeg 0)) + ((a 4).getD x1.toNatClampNeg 0)) - (2 * ((a 6).getD x1.toNatClampNeg 0)))), (0, .ref 1), (1, .int x1), (2, .int x2)] [.int (((5 * ((a 3).getD x1.toNatClampNeg 0)) + ((a 4).getD x1.toNatClampNeg 0)) - (2 * ((a 6).getD x1.toNatClampNeg 0))), .int 99, .int 0] i a q r (by rfl) ?_
      have m28 : (((bif decide ((((5 * ((a 3).getD x1.toNatClampNeg 0)) + ((a 4).getD x1.toNatClampNeg 0)) - (2 * ((a 6).getD x1.toNatClampNeg 0))) < 99) then (((5 * ((a 3).getD x1.toNatClampNeg 0)) + ((a 4).getD x1.toNatClampNeg 0)) - (2 * ((a 6).getD x1.toNatClampNeg 0))) else 99).toInt ≤ (99 : Int32).toInt) ∧ ((bif decide ((((5 * ((a 3).getD x1.toNatClampNeg 0)) + ((a 4).getD x1.toNatClampNeg 0)) - (2 * ((a 6).getD x1.toNatClampNeg 0))) < 99) then (((5 * ((a 3).getD x1.toNatClampNeg 0)) + ((a 4).getD x1.toNatClampNeg 0)) - (2 * ((a 6).getD x1.toNatClampNeg 0))) else 99).toInt ≤ (((5 * ((a 3).getD x1.toNatClampNeg 0)) + ((a 4).getD x1.toNatClampNeg 0)) - (2 * ((a 6).getD x1.toNatClampNeg 0))).toInt)) ∧ ((bif decide ((((5 * ((a 3).getD x1.toNatClampNeg 0)) + ((a 4).getD x1.toNatClampNeg 0)) - (2 * ((a 6).getD x1.toNatClampNeg 0))) < 99) then (((5 * ((a 3).getD x1.toNatClampNeg 0)) + ((a 4).getD x1.toNatClampNeg 0)) - (2 * ((a 6).getD x1.toNatClampNeg 0))) else 99).toInt = (99 : Int32).toInt ∨ (bif decide ((((5 * ((a 3).getD x1.toNatClampNeg 0)) + ((a 4).getD x1.toNatClampNeg 0)) - (2 * ((a 6).getD x1.toNatClampNeg 0))) < 99) then (((5 * ((a 3).getD x1.toNatClampNeg 0)) + ((a 4).getD x1.toNatClampNeg 0)) - (2 * ((a 6).getD x1.toNatClampNeg 0))) else 99).toInt = (((5 * ((a 3).getD x1.toNatClampNeg 0)) + ((a 4).getD x1.toNatClampNeg 0)) - (2 * ((a 6).getD x1.toNatClampNeg 0))).toInt) := kd_min
      refine ft_go mi_k31 1 117 [(3, .int (((5 * ((a 3).getD x1.toNatClampNeg 0)) + ((a 4).getD x1.toNatClampNeg 0)) - (2 * ((a 6).getD x1.toNatClampNeg 0)))), (0, .ref 1), (1, .int x1), (2, .int x2)] [.int (bif decide ((((5 * ((a 3).getD x1.toNatClampNeg 0)) + ((a 4).getD x1.toNatClampNeg 0)) - (2 * ((a 6).getD x1.toNatClampNeg 0))) < 99) then (((5 * ((a 3).getD x1.toNatClampNeg 0)) + ((a 4).getD x1.toNatClampNeg 0)) - (2 * ((a 6).getD x1.toNatClampNeg 0))) else 99), .int 0] i a q r (by rfl) ?_
      generalize hm27 : (bif decide ((((5 * ((a 3).getD x1.toNatClampNeg 0)) + ((a 4).getD x1.toNatClampNeg 0)) - (2 * ((a 6).getD x1.toNatClampNeg 0))) < 99) then (((5 * ((a 3).getD x1.toNatClampNeg 0)) + ((a 4).getD x1.toNatClampNeg 0)) - (2 * ((a 6).getD x1.toNatClampNeg 0))) else 99) = m27 at m28 ⊢
      have qm27 := hm27.symm
      have m30 : (((0 : Int32).toInt ≤ (bif decide (0 < m27) then m27 else 0).toInt) ∧ (m27.toInt ≤ (bif decide (0 < m27) then m27 else 0).toInt)) ∧ ((bif decide (0 < m27) then m27 else 0).toInt = (0 : Int32).toInt ∨ (bif decide (0 < m27) then m27 else 0).toInt = m27.toInt) := kd_max
      refine ft_go mi_k31 1 120 [(3, .int (((5 * ((a 3).getD x1.toNatClampNeg 0)) + ((a 4).getD x1.toNatClampNeg 0)) - (2 * ((a 6).getD x1.toNatClampNeg 0)))), (0, .ref 1), (1, .int x1), (2, .int x2)] [.int (bif decide (0 < m27) then m27 else 0)] i a q r (by rfl) ?_
      generalize hm29 : (bif decide (0 < m27) then m27 else 0) = m29 at m30 ⊢
      have qm29 := hm29.symm
      exact ft_ret mi_k31 (by rfl) (hP m29 _ _ _ _ hG ⟨trivial, (show m29 = cBuyV (i (64 * r 0)) (a (r 0 + 1)) (a (r 0 + 2)) (a (r 0 + 3)) (i (64 * r 0 + 3)) ((a 3).getD x1.toNatClampNeg 0) x2 ((a 4).getD x1.toNatClampNeg 0) (i 73) ((a 6).getD x1.toNatClampNeg 0) (i 72) from (by rw [eRr_0]; unfold cBuyV; rw [if_pos (od48 c26 fi_6400.1 kod0)]; first | rfl | (simp only [qm29, qm27, sMn, sMx]; rfl)))⟩)
    ·
      have c31 : (i 6400).toInt ≠ (0 : Int32).toInt := kd_eqF c; clear c
      refine ft_go mi_k31 6 45 [(3, .int (((5 * ((a 3).getD x1.toNatClampNeg 0)) + ((a 4).getD x1.toNatClampNeg 0)) - (2 * ((a 6).getD x1.toNatClampNeg 0)))), (0, .ref 1), (1, .int x1), (2, .int x2)] [.int x1, .ref 3, .int 0, .ref 24] i a q r (by rfl) ?_
      refine ko_iald3 mi_k31.1 (n := 8) (c := 8) (ax := (0, 0, 0, 0, 0)) (mi_k31.2 _ _ (by rfl)) (by rfl) (ksG3 _ _ _ _) (hG.I.2.1 3) rfl (od11 hp0.1) (od47 hp0.2) ?_
      refine ko_iast3 mi_k31.1 (n := 6) (c := 6) (ax := (0, 0, 0, 0, 0)) (mi_k31.2 _ _ (by rfl)) (by rfl) (ksG24 _ _ _ _) (ksA24 _ _ _ _) (hG.I.2.1 24) rfl (od0 kod0) (od49 kod0) ?_
      intro a32 ea32 fa32
      have hJ32 := kG_a3 hG 24 rfl ea32 fa32 (kd_bd _)
      refine ft_go mi_k31 4 53 [(3, .int (((5 * ((a 3).getD x1.toNatClampNeg 0)) + ((a 4).getD x1.toNatClampNeg 0)) - (2 * ((a 6).getD x1.toNatClampNeg 0)))), (0, .ref 1), (1, .int x1), (2, .int x2)] [.int x2, .int 1, .ref 24] i a32 q r (by rfl) ?_
      refine ko_iast3 mi_k31.1 (n := 6) (c := 6) (ax := (0, 0, 0, 0, 0)) (mi_k31.2 _ _ (by rfl)) (by rfl) (ksG24 _ _ _ _) (ksA24 _ _ _ _) (hJ32.I.2.1 24) rfl (od50 kod1) (od51 kod1) ?_
      intro a33 ea33 fa33
      have hJ33 := kG_a3 hJ32 24 rfl ea33 fa33 (kd_bd _)
      refine ft_go mi_k31 6 64 [(3, .int (((5 * ((a 3).getD x1.toNatClampNeg 0)) + ((a 4).getD x1.toNatClampNeg 0)) - (2 * ((a 6).getD x1.toNatClampNeg 0)))), (0, .ref 1), (1, .int x1), (2, .int x2)] [.int x1, .ref 4, .int 2, .ref 24] i a33 q r (by rfl) ?_
      refine ko_iald3 mi_k31.1 (n := 8) (c := 8) (ax := (0, 0, 0, 0, 0)) (mi_k31.2 _ _ (by rfl)) (by rfl) (ksG4 _ _ _ _) (hJ33.I.2.1 4) rfl (od11 hp0.1) (od47 hp0.2) ?_
      refine ko_iast3 mi_k31.1 (n := 6) (c := 6) (ax := (0, 0, 0, 0, 0)) (mi_k31.2 _ _ (by rfl)) (by rfl) (ksG24 _ _ _ _) (ksA24 _ _ _ _) (hJ33.I.2.1 24) rfl (od52 kod2) (od53 kod2) ?_
      intro a34 ea34 fa34
      have hJ34 := kG_a3 hJ33 24 rfl ea34 fa34 (kd_bd _)
      refine ft_go mi_k31 5 75 [(3, .int (((5 * ((a 3).getD x1.toNatClampNeg 0)) + ((a 4).getD x1.toNatClampNeg 0)) - (2 * ((a 6).getD x1.toNatClampNeg 0)))), (0, .ref 1), (1, .int x1), (2, .int x2)] [.int (i 73), .int 3, .ref 24] i a34 q r (by rfl) ?_
      refine ko_iast3 mi_k31.1 (n := 6) (c := 6) (ax := (0, 0, 0, 0, 0)) (mi_k31.2 _ _ (by rfl)) (by rfl) (ksG24 _ _ _ _) (ksA24 _ _ _ _) (hJ34.I.2.1 24) rfl (od54 kod3) (od55 kod3) ?_
      intro a35 ea35 fa35
      have hJ35 := kG_a3 hJ34 24 rfl ea35 fa35 (kd_bd _)
      refine ft_go mi_k31 6 86 [(3, .int (((5 * ((a 3).getD x1.toNatClampNeg 0)) + ((a 4).getD x1.toNatClampNeg 0)) - (2 * ((a 6).getD x1.toNatClampNeg 0)))), (0, .ref 1), (1, .int x1), (2, .int x2)] [.int x1, .ref 6, .int 4, .ref 24] i a35 q r (by rfl) ?_
      refine ko_iald3 mi_k31.1 (n := 8) (c := 8) (ax := (0, 0, 0, 0, 0)) (mi_k31.2 _ _ (by rfl)) (by rfl) (ksG6 _ _ _ _) (hJ35.I.2.1 6) rfl (od11 hp0.1) (od47 hp0.2) ?_
      refine ko_iast3 mi_k31.1 (n := 6) (c := 6) (ax := (0, 0, 0, 0, 0)) (mi_k31.2 _ _ (by rfl)) (by rfl) (ksG24 _ _ _ _) (ksA24 _ _ _ _) (hJ35.I.2.1 24) rfl (od56 kod4) (od57 kod4) ?_
      intro a36 ea36 fa36
      have hJ36 := kG_a3 hJ35 24 rfl ea36 fa36 (kd_bd _)
      refine ft_go mi_k31 5 97 [(3, .int (((5 * ((a 3).getD x1.toNatClampNeg 0)) + ((a 4).getD x1.toNatClampNeg 0)) - (2 * ((a 6).getD x1.toNatClampNeg 0)))), (0, .ref 1), (1, .int x1), (2, .int x2)] [.int (i 72), .int 5, .ref 24] i a36 q r (by rfl) ?_
      refine ko_iast3 mi_k31.1 (n := 6) (c := 6) (ax := (0, 0, 0, 0, 0)) (mi_k31.2 _ _ (by rfl)) (by rfl) (ksG24 _ _ _ _) (ksA24 _ _ _ _) (hJ36.I.2.1 24) rfl (od58 kod5) (od59 kod5) ?_
      intro a37 ea37 fa37
      have hJ37 := kG_a3 hJ36 24 rfl ea37 fa37 (kd_bd _)
      refine ft_go mi_k31 2 102 [(3, .int (((5 * ((a 3).getD x1.toNatClampNeg 0)) + ((a 4).getD x1.toNatClampNeg 0)) - (2 * ((a 6).getD x1.toNatClampNeg 0)))), (0, .ref 1), (1, .int x1), (2, .int x2)] [.ref (r 0)] i a37 q r (by rfl) ?_
      refine ko_eq (x1 := (102, [(3, .int (((5 * ((a 3).getD x1.toNatClampNeg 0)) + ((a 4).getD x1.toNatClampNeg 0)) - (2 * ((a 6).getD x1.toNatClampNeg 0)))), (0, .ref 1), (1, .int x1), (2, .int x2)], [.ref 100], (0, 0), ks i a37 q r)) (by rw [eRr_0]) ?_
      have qn38 : a37 24 = [((a 3).getD x1.toNatClampNeg 0), x2, ((a33 4).getD x1.toNatClampNeg 0), (i 73), ((a35 6).getD x1.toNatClampNeg 0), (i 72)] := by rw [ea37, ea36, ea35, ea34, ea33, ea32]; exact kNames ((congrArg List.length (rfl)).trans (hG.I.2.1 24))
      refine ft_go mi_k31 2 106 [(3, .int (((5 * ((a 3).getD x1.toNatClampNeg 0)) + ((a 4).getD x1.toNatClampNeg 0)) - (2 * ((a 6).getD x1.toNatClampNeg 0)))), (0, .ref 1), (1, .int x1), (2, .int x2)] [.ref 24, .ref 100] i a37 q r (by rfl) ?_
      refine ko_callI mi_k31.1 (pc := 106) (ls := [(3, .int (((5 * ((a 3).getD x1.toNatClampNeg 0)) + ((a 4).getD x1.toNatClampNeg 0)) - (2 * ((a 6).getD x1.toNatClampNeg 0)))), (0, .ref 1), (1, .int x1), (2, .int x2)]) (st := [.ref 24, .ref 100]) (h := ks i a37 q r) (i := (.invokevirtual 126, 3, 21, 0, 9, 0, 224)) (mi_k31.2 _ _ (by rfl)) (ft_invS mi_pq21 (by rfl)) (cy := mi_c21) mi_pq21 rfl (ke21_100_24 hJ37.I hJ37.R ) (by decide) ?_
      intro vg39 ig39 ag39 qg39 rg39 kg39 hg39
      have hGg39 := kG_call hJ37 kg39 (by decide +kernel)
      have eRrg39_0 : rg39 0 = 100 := (kg39.fr 0 rfl).trans eRr_0
      have eRrg39_2 : rg39 2 = 10 := (kg39.fr 2 rfl).trans eRr_2
      obtain ⟨hg39, og39⟩ := hg39
      have q40 : vg39 = lRun (a37 101) (a37 102) (a37 24) (i 6403) 121 0 (a37 103, 0) := og39
      refine ft_go mi_k31 4 114 [(3, .int vg39), (0, .ref 1), (1, .int x1), (2, .int x2)] [.int vg39, .int 99, .int 0] ig39 ag39 qg39 rg39 (by rfl) ?_
      have m42 : (((bif decide (vg39 < 99) then vg39 else 99).toInt ≤ (99 : Int32).toInt) ∧ ((bif decide (vg39 < 99) then vg39 else 99).toInt ≤ vg39.toInt)) ∧ ((bif decide (vg39 < 99) then vg39 else 99).toInt = (99 : Int32).toInt ∨ (bif decide (vg39 < 99) then vg39 else 99).toInt = vg39.toInt) := kd_min
      refine ft_go mi_k31 1 117 [(3, .int vg39), (0, .ref 1), (1, .int x1), (2, .int x2)] [.int (bif decide (vg39 < 99) then vg39 else 99), .int 0] ig39 ag39 qg39 rg39 (by rfl) ?_
      generalize hm41 : (bif decide (vg39 < 99) then vg39 else 99) = m41 at m42 ⊢
      have qm41 := hm41.symm
      have m44 : (((0 : Int32).toInt ≤ (bif decide (0 < m41) then m41 else 0).toInt) ∧ (m41.toInt ≤ (bif decide (0 < m41) then m41 else 0).toInt)) ∧ ((bif decide (0 < m41) then m41 else 0).toInt = (0 : Int32).toInt ∨ (bif decide (0 < m41) then m41 else 0).toInt = m41.toInt) := kd_max
      refine ft_go mi_k31 1 120 [(3, .int vg39), (0, .ref 1), (1, .int x1), (2, .int x2)] [.int (bif decide (0 < m41) then m41 else 0)] ig39 ag39 qg39 rg39 (by rfl) ?_
      generalize hm43 : (bif decide (0 < m41) then m41 else 0) = m43 at m44 ⊢
      have qm43 := hm43.symm
      exact ft_ret mi_k31 (by rfl) (hP m43 _ _ _ _ hGg39 ⟨trivial, (show m43 = cBuyV (i (64 * r 0)) (a (r 0 + 1)) (a (r 0 + 2)) (a (r 0 + 3)) (i (64 * r 0 + 3)) ((a 3).getD x1.toNatClampNeg 0) x2 ((a 4).getD x1.toNatClampNeg 0) (i 73) ((a 6).getD x1.toNatClampNeg 0) (i 72) from (by rw [eRr_0]; unfold cBuyV; rw [if_neg (od60 c31 fi_6400.1 kod0)]; first | rfl | (simp only [qm43, qm41, q40, fa37 101 (by decide), fa37 102 (by decide), qn38, fa37 103 (by decide), fa36 103 (by decide), fa35 103 (by decide), fa34 103 (by decide), fa33 103 (by decide), fa32 103 (by decide), fa33 4 (by decide), fa35 6 (by decide), fa34 6 (by decide), fa33 6 (by decide), fa32 6 (by decide), fa32 4 (by decide), fa36 102 (by decide), fa35 102 (by decide), fa34 102 (by decide), fa33 102 (by decide), fa32 102 (by decide), fa36 101 (by decide), fa35 101 (by decide), fa34 101 (by decide), fa33 101 (by decide), fa32 101 (by decide), sMn, sMx]; rfl)))⟩)
