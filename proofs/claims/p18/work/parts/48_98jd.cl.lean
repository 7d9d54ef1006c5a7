theorem ktoz0 : (0 : Int32).toInt = 0 := by decide
theorem ktoz1 : (1 : Int32).toInt = 1 := by decide
theorem ktozm2 : ((-2) : Int32).toInt = (-2) := by decide
theorem ktozL9 : (9 : Int64).toInt = 9 := by decide
theorem toz0 {a0 a1 : Int} (h0 : a0 ≤ a1) : a0 ≤ a1 := by omega
theorem toz1 {a0 : Int} (h0 : a0 = (-2)) : a0 = -2 := by omega
theorem toz2 {a0 : Int} (h0 : (0 : Int) ≤ a0) : (0 : Int) ≤ a0 := by omega
theorem toz3 {a0 a1 : Int} (h0 : a0 < a1) : a0 < a1 := by omega
theorem toz4 {a0 : Int}  : a0 = a0 := by omega
theorem toz5 {a0 a1 : Int} (h0 : a0 < a1) (h1 : a1 ≤ 60) : a0 < 60 := by omega
theorem toz6 {a0 a1 : Int} (h0 : (0 : Int) ≤ a0) (h1 : a1 = 1) : (-2147483648 : Int) ≤ a0 + a1 := by omega
theorem toz7 {a0 a1 a2 : Int} (h0 : a0 < a1) (h1 : a1 ≤ 60) (h2 : a2 = 1) : a0 + a2 ≤ 2147483647 := by omega
theorem toz8 {a0 a1 a2 : Int} (h0 : (0 : Int) ≤ a0) (h1 : a1 = a0 + a2) (h2 : a2 = 1) : (0 : Int) ≤ a1 := by omega
theorem toz9 {a0 a1 a2 : Int} (h0 : a0 = a1 + a2) (h1 : a2 = 1) : a0 = a1 + 1 := by omega
theorem toz10 {a0 a1 a2 a3 : Int} (h0 : a0 = a1) (h1 : (a0 < 0 ↔ a2 < a3)) (h2 : (0 < a0 ↔ a3 < a2)) (h3 : a1 = 0) (h4 : a3 = 9) : a2 = 9 := by omega
theorem toz11 {a0 a1 a2 a3 : Int} (h0 : a0 = a1 + a2) (h1 : a2 = 1) : (a3 - a0) < (a3 - a1) := by omega
theorem toz12 {a0 a1 : Int} (h0 : a0 < a1) : (1 : Int) ≤ (a1 - a0) := by omega
theorem toz13 {a0 a1 : Int} (h0 : a0 < a1) (h1 : a1 ≤ 20) : a0 < 20 := by omega
theorem toz14 {a0 a1 a2 a3 a4 : Int} (h0 : a0 = a1) (h1 : a2 = a3) (h2 : (a0 < 0 ↔ a4 < a2)) (h3 : (0 < a0 ↔ a2 < a4)) (h4 : a1 = 0) : a4 = a3 := by omega
theorem toz15 {a0 a1 a2 a3 : Int} (h0 : a0 ≠ a1) (h1 : (a0 < 0 ↔ a2 < a3)) (h2 : (0 < a0 ↔ a3 < a2)) (h3 : a1 = 0) (h4 : a3 = 9) : ¬ (a2 = 9) := by omega
theorem toz16 {a0 a1 a2 a3 a4 : Int} (h0 : a0 ≠ a1) (h1 : a2 = a3) (h2 : (a0 < 0 ↔ a4 < a2)) (h3 : (0 < a0 ↔ a2 < a4)) (h4 : a1 = 0) : ¬ (a4 = a3) := by omega
theorem toz17 {a0 : Int} (h0 : a0 = 0) : (0 : Int) ≤ a0 := by omega
set_option maxRecDepth 100000 in
theorem ke73_49_104 {i : Nat → Int32} {a : Nat → List Int32} {q : Nat → List Int64} {r : Nat → Nat} (hI : kI i a q) (hr : kr r)  : km 1 73 [.ref 49, .ref 104] (ks i a q r) (kPI (ks i a q r) (fun v => (True) ∧ fUn (i 3138).toInt (i 6659).toInt (fun j => ((q 105).getD j 0).toInt) (fun j => ((a 75).getD j 0).toInt) v)) := by
  have hG := kG_self kW0 hI hr
  refine km_ofPI (q := (mi_h73, mi_c73)) rfl (by decide) (Nat.le_of_ble_eq_true rfl) ?_
  intro P hP
  refine ft_go mi_k73 2 2 [(2, .int 0), (0, .ref 49), (1, .ref 104)] [] i a q r (by rfl) ?_
  have lp1 : ∀ (nz : Nat) (l2_1 : Int32), (0 : Int) ≤ l2_1.toInt → uNo (i 3138).toInt (fun j => ((q 105).getD j 0).toInt) (fun j => ((a 75).getD j 0).toInt) l2_1.toInt → (((i 6659).toInt - l2_1.toInt)).toNat < nz → ko 1 (mi_h73, mi_c73) P (2, [(2, .int l2_1), (0, .ref 49), (1, .ref 104)], [], (0, 0), ks i a q r) := by
    intro nz
    induction nz with
    | zero =>
      intro _ _ _ hm
      exact absurd hm (Nat.not_lt_zero _)
    | succ nz ih1 =>
      intro l2_1 p1_0 O1_0 hm1
      have fi_6659 : ((0 : Int) ≤ (i 6659).toInt) ∧ ((i 6659).toInt ≤ 60) := hG.I.1 6659
      refine ft_go mi_k73 3 7 [(2, .int l2_1), (0, .ref 49), (1, .ref 104)] [.int (i 6659), .int l2_1] i a q r (by rfl) ?_
      refine ft_if mi_k73 (decide ((i 6659) ≤ l2_1)) 56 10 [(2, .int l2_1), (0, .ref 49), (1, .ref 104)] [] (by rfl) (fun c => ?_) (fun c => ?_)
      ·
        have c2 : (i 6659).toInt ≤ l2_1.toInt := kd_le c; clear c
        refine ft_go mi_k73 1 58 [(2, .int l2_1), (0, .ref 49), (1, .ref 104)] [.int (-2)] i a q r (by rfl) ?_
        have fi_3138 : ((0 : Int) ≤ (i 3138).toInt) ∧ ((i 3138).toInt ≤ 20) := hG.I.1 3138
        exact ft_ret mi_k73 (by rfl) (hP (-2) ⟨trivial, (fUn_no O1_0 (toz0 c2) (toz1 ktozm2))⟩)
      ·
        have c3 : l2_1.toInt < (i 6659).toInt := kd_leF c; clear c
        have fi_3138 : ((0 : Int) ≤ (i 3138).toInt) ∧ ((i 3138).toInt ≤ 20) := hG.I.1 3138
        refine ft_go mi_k73 3 15 [(2, .int l2_1), (0, .ref 49), (1, .ref 104)] [.int (i 3138), .int l2_1] i a q r (by rfl) ?_
        refine ft_if mi_k73 (decide ((i 3138) ≤ l2_1)) 48 18 [(2, .int l2_1), (0, .ref 49), (1, .ref 104)] [] (by rfl) (fun c => ?_) (fun c => ?_)
        ·
          have c4 : (i 3138).toInt ≤ l2_1.toInt := kd_le c; clear c
          refine ft_go mi_k73 1 49 [(2, .int l2_1), (0, .ref 49), (1, .ref 104)] [.int l2_1] i a q r (by rfl) ?_
          exact ft_ret mi_k73 (by rfl) (hP l2_1 ⟨trivial, (fUn_end O1_0 (toz2 p1_0) (toz3 c3) toz4 (toz0 c4))⟩)
        ·
          have c5 : l2_1.toInt < (i 3138).toInt := kd_leF c; clear c
          refine ft_go mi_k73 3 23 [(2, .int l2_1), (0, .ref 49), (1, .ref 104)] [.int l2_1, .ref 105] i a q r (by rfl) ?_
          refine ko_lald2 mi_k73.1 (l := q 105) (n := 60) (c := 60) (ax := (0, 0, 0, 0, 0)) (mi_k73.2 _ _ (by rfl)) (by rfl) (by rfl) (hG.I.2.2.2 105) rfl (toz2 p1_0) (toz5 c3 fi_6659.2) ?_
          have s6 : (((lg_cmp ((q 105).getD l2_1.toNatClampNeg 0) 9).toInt < 0 ↔ ((q 105).getD l2_1.toNatClampNeg 0).toInt < (9 : Int64).toInt)) ∧ ((0 < (lg_cmp ((q 105).getD l2_1.toNatClampNeg 0) 9).toInt ↔ (9 : Int64).toInt < ((q 105).getD l2_1.toNatClampNeg 0).toInt)) := kl_cmp
          refine ft_go mi_k73 2 28 [(2, .int l2_1), (0, .ref 49), (1, .ref 104)] [.int (lg_cmp ((q 105).getD l2_1.toNatClampNeg 0) 9)] i a q r (by rfl) ?_
          refine ft_if mi_k73 ((lg_cmp ((q 105).getD l2_1.toNatClampNeg 0) 9) == 0) 50 31 [(2, .int l2_1), (0, .ref 49), (1, .ref 104)] [] (by rfl) (fun c => ?_) (fun c => ?_)
          ·
            have c7 : (lg_cmp ((q 105).getD l2_1.toNatClampNeg 0) 9).toInt = (0 : Int32).toInt := kd_eq c; clear c
            have s8 : (l2_1 + 1).toInt = l2_1.toInt + (1 : Int32).toInt := kd_add (toz6 p1_0 ktoz1) (toz7 c3 fi_6659.2 ktoz1)
            refine ft_go mi_k73 2 2 [(2, .int (l2_1 + 1)), (0, .ref 49), (1, .ref 104)] [] i a q r (by rfl) ?_
            exact ih1 _ (toz8 p1_0 s8 ktoz1) (uNo_9 O1_0 (toz2 p1_0) (toz9 s8 ktoz1) (toz3 c5) (toz10 c7 s6.1 s6.2 ktoz0 ktozL9)) (kj_meas (toz11 s8 ktoz1) (toz12 c3) hm1)
          ·
            have c9 : (lg_cmp ((q 105).getD l2_1.toNatClampNeg 0) 9).toInt ≠ (0 : Int32).toInt := kd_eqF c; clear c
            refine ft_go mi_k73 3 36 [(2, .int l2_1), (0, .ref 49), (1, .ref 104)] [.int l2_1, .ref 105] i a q r (by rfl) ?_
            refine ko_lald2 mi_k73.1 (l := q 105) (n := 60) (c := 60) (ax := (0, 0, 0, 0, 0)) (mi_k73.2 _ _ (by rfl)) (by rfl) (by rfl) (hG.I.2.2.2 105) rfl (toz2 p1_0) (toz5 c3 fi_6659.2) ?_
            refine ft_go mi_k73 3 42 [(2, .int l2_1), (0, .ref 49), (1, .ref 104)] [.int l2_1, .ref 75, .long ((q 105).getD l2_1.toNatClampNeg 0)] i a q r (by rfl) ?_
            refine ko_iald3 mi_k73.1 (n := 20) (c := 20) (ax := (0, 0, 0, 0, 0)) (mi_k73.2 _ _ (by rfl)) (by rfl) (ksG75 _ _ _ _) (hG.I.2.1 75) rfl (toz2 p1_0) (toz13 c5 fi_3138.2) ?_
            have b10 : ((-2147483648 : Int) ≤ ((a 75).getD l2_1.toNatClampNeg 0).toInt) ∧ (((a 75).getD l2_1.toNatClampNeg 0).toInt ≤ 2147483647) := kd_bd ((a 75).getD l2_1.toNatClampNeg 0)
            have s11 : (((a 75).getD l2_1.toNatClampNeg 0).toInt64).toInt = ((a 75).getD l2_1.toNatClampNeg 0).toInt := kl_i2l
            have s12 : (((lg_cmp ((q 105).getD l2_1.toNatClampNeg 0) (((a 75).getD l2_1.toNatClampNeg 0).toInt64)).toInt < 0 ↔ ((q 105).getD l2_1.toNatClampNeg 0).toInt < (((a 75).getD l2_1.toNatClampNeg 0).toInt64).toInt)) ∧ ((0 < (lg_cmp ((q 105).getD l2_1.toNatClampNeg 0) (((a 75).getD l2_1.toNatClampNeg 0).toInt64)).toInt ↔ (((a 75).getD l2_1.toNatClampNeg 0).toInt64).toInt < ((q 105).getD l2_1.toNatClampNeg 0).toInt)) := kl_cmp
            refine ft_go mi_k73 2 45 [(2, .int l2_1), (0, .ref 49), (1, .ref 104)] [.int (lg_cmp ((q 105).getD l2_1.toNatClampNeg 0) (((a 75).getD l2_1.toNatClampNeg 0).toInt64))] i a q r (by rfl) ?_
            refine ft_if mi_k73 ((lg_cmp ((q 105).getD l2_1.toNatClampNeg 0) (((a 75).getD l2_1.toNatClampNeg 0).toInt64)) == 0) 50 48 [(2, .int l2_1), (0, .ref 49), (1, .ref 104)] [] (by rfl) (fun c => ?_) (fun c => ?_)
            ·
              have c13 : (lg_cmp ((q 105).getD l2_1.toNatClampNeg 0) (((a 75).getD l2_1.toNatClampNeg 0).toInt64)).toInt = (0 : Int32).toInt := kd_eq c; clear c
              have s14 : (l2_1 + 1).toInt = l2_1.toInt + (1 : Int32).toInt := kd_add (toz6 p1_0 ktoz1) (toz7 c3 fi_6659.2 ktoz1)
              refine ft_go mi_k73 2 2 [(2, .int (l2_1 + 1)), (0, .ref 49), (1, .ref 104)] [] i a q r (by rfl) ?_
              exact ih1 _ (toz8 p1_0 s14 ktoz1) (uNo_y O1_0 (toz2 p1_0) (toz9 s14 ktoz1) (toz3 c5) (toz14 c13 s11 s12.1 s12.2 ktoz0)) (kj_meas (toz11 s14 ktoz1) (toz12 c3) hm1)
            ·
              have c15 : (lg_cmp ((q 105).getD l2_1.toNatClampNeg 0) (((a 75).getD l2_1.toNatClampNeg 0).toInt64)).toInt ≠ (0 : Int32).toInt := kd_eqF c; clear c
              refine ft_go mi_k73 1 49 [(2, .int l2_1), (0, .ref 49), (1, .ref 104)] [.int l2_1] i a q r (by rfl) ?_
              exact ft_ret mi_k73 (by rfl) (hP l2_1 ⟨trivial, (fUn_at O1_0 (toz2 p1_0) (toz3 c3) toz4 ⟨(toz15 c9 s6.1 s6.2 ktoz0 ktozL9), (toz16 c15 s11 s12.1 s12.2 ktoz0)⟩)⟩)
  exact lp1 _ _ (toz17 ktoz0) (uNo_0 ktoz0) (Nat.lt_succ_self _)
set_option maxRecDepth 100000 in
theorem ke73_49_106 {i : Nat → Int32} {a : Nat → List Int32} {q : Nat → List Int64} {r : Nat → Nat} (hI : kI i a q) (hr : kr r)  : km 1 73 [.ref 49, .ref 106] (ks i a q r) (kPI (ks i a q r) (fun v => (True) ∧ fUn (i 3138).toInt (i 6787).toInt (fun j => ((q 107).getD j 0).toInt) (fun j => ((a 75).getD j 0).toInt) v)) := by
  have hG := kG_self kW0 hI hr
  refine km_ofPI (q := (mi_h73, mi_c73)) rfl (by decide) (Nat.le_of_ble_eq_true rfl) ?_
  intro P hP
  refine ft_go mi_k73 2 2 [(2, .int 0), (0, .ref 49), (1, .ref 106)] [] i a q r (by rfl) ?_
  have lp1 : ∀ (nz : Nat) (l2_1 : Int32), (0 : Int) ≤ l2_1.toInt → uNo (i 3138).toInt (fun j => ((q 107).getD j 0).toInt) (fun j => ((a 75).getD j 0).toInt) l2_1.toInt → (((i 6787).toInt - l2_1.toInt)).toNat < nz → ko 1 (mi_h73, mi_c73) P (2, [(2, .int l2_1), (0, .ref 49), (1, .ref 106)], [], (0, 0), ks i a q r) := by
    intro nz
    induction nz with
    | zero =>
      intro _ _ _ hm
      exact absurd hm (Nat.not_lt_zero _)
    | succ nz ih1 =>
      intro l2_1 p1_0 O1_0 hm1
      have fi_6787 : ((0 : Int) ≤ (i 6787).toInt) ∧ ((i 6787).toInt ≤ 60) := hG.I.1 6787
      refine ft_go mi_k73 3 7 [(2, .int l2_1), (0, .ref 49), (1, .ref 106)] [.int (i 6787), .int l2_1] i a q r (by rfl) ?_
      refine ft_if mi_k73 (decide ((i 6787) ≤ l2_1)) 56 10 [(2, .int l2_1), (0, .ref 49), (1, .ref 106)] [] (by rfl) (fun c => ?_) (fun c => ?_)
      ·
        have c2 : (i 6787).toInt ≤ l2_1.toInt := kd_le c; clear c
        refine ft_go mi_k73 1 58 [(2, .int l2_1), (0, .ref 49), (1, .ref 106)] [.int (-2)] i a q r (by rfl) ?_
        have fi_3138 : ((0 : Int) ≤ (i 3138).toInt) ∧ ((i 3138).toInt ≤ 20) := hG.I.1 3138
        exact ft_ret mi_k73 (by rfl) (hP (-2) ⟨trivial, (fUn_no O1_0 (toz0 c2) (toz1 ktozm2))⟩)
      ·
        have c3 : l2_1.toInt < (i 6787).toInt := kd_leF c; clear c
        have fi_3138 : ((0 : Int) ≤ (i 3138).toInt) ∧ ((i 3138).toInt ≤ 20) := hG.I.1 3138
        refine ft_go mi_k73 3 15 [(2, .int l2_1), (0, .ref 49), (1, .ref 106)] [.int (i 3138), .int l2_1] i a q r (by rfl) ?_
        refine ft_if mi_k73 (decide ((i 3138) ≤ l2_1)) 48 18 [(2, .int l2_1), (0, .ref 49), (1, .ref 106)] [] (by rfl) (fun c => ?_) (fun c => ?_)
        ·
          have c4 : (i 3138).toInt ≤ l2_1.toInt := kd_le c; clear c
          refine ft_go mi_k73 1 49 [(2, .int l2_1), (0, .ref 49), (1, .ref 106)] [.int l2_1] i a q r (by rfl) ?_
          exact ft_ret mi_k73 (by rfl) (hP l2_1 ⟨trivial, (fUn_end O1_0 (toz2 p1_0) (toz3 c3) toz4 (toz0 c4))⟩)
        ·
          have c5 : l2_1.toInt < (i 3138).toInt := kd_leF c; clear c
          refine ft_go mi_k73 3 23 [(2, .int l2_1), (0, .ref 49), (1, .ref 106)] [.int l2_1, .ref 107] i a q r (by rfl) ?_
          refine ko_lald2 mi_k73.1 (l := q 107) (n := 60) (c := 60) (ax := (0, 0, 0, 0, 0)) (mi_k73.2 _ _ (by rfl)) (by rfl) (by rfl) (hG.I.2.2.2 107) rfl (toz2 p1_0) (toz5 c3 fi_6787.2) ?_
          have s6 : (((lg_cmp ((q 107).getD l2_1.toNatClampNeg 0) 9).toInt < 0 ↔ ((q 107).getD l2_1.toNatClampNeg 0).toInt < (9 : Int64).toInt)) ∧ ((0 < (lg_cmp ((q 107).getD l2_1.toNatClampNeg 0) 9).toInt ↔ (9 : Int64).toInt < ((q 107).getD l2_1.toNatClampNeg 0).toInt)) := kl_cmp
          refine ft_go mi_k73 2 28 [(2, .int l2_1), (0, .ref 49), (1, .ref 106)] [.int (lg_cmp ((q 107).getD l2_1.toNatClampNeg 0) 9)] i a q r (by rfl) ?_
          refine ft_if mi_k73 ((lg_cmp ((q 107).getD l2_1.toNatClampNeg 0) 9) == 0) 50 31 [(2, .int l2_1), (0, .ref 49), (1, .ref 106)] [] (by rfl) (fun c => ?_) (fun c => ?_)
          ·
            have c7 : (lg_cmp ((q 107).getD l2_1.toNatClampNeg 0) 9).toInt = (0 : Int32).toInt := kd_eq c; clear c
            have s8 : (l2_1 + 1).toInt = l2_1.toInt + (1 : Int32).toInt := kd_add (toz6 p1_0 ktoz1) (toz7 c3 fi_6787.2 ktoz1)
            refine ft_go mi_k73 2 2 [(2, .int (l2_1 + 1)), (0, .ref 49), (1, .ref 106)] [] i a q r (by rfl) ?_
            exact ih1 _ (toz8 p1_0 s8 ktoz1) (uNo_9 O1_0 (toz2 p1_0) (toz9 s8 ktoz1) (toz3 c5) (toz10 c7 s6.1 s6.2 ktoz0 ktozL9)) (kj_meas (toz11 s8 ktoz1) (toz12 c3) hm1)
          ·
            have c9 : (lg_cmp ((q 107).getD l2_1.toNatClampNeg 0) 9).toInt ≠ (0 : Int32).toInt := kd_eqF c; clear c
            refine ft_go mi_k73 3 36 [(2, .int l2_1), (0, .ref 49), (1, .ref 106)] [.int l2_1, .ref 107] i a q r (by rfl) ?_
            refine ko_lald2 mi_k73.1 (l := q 107) (n := 60) (c := 60) (ax := (0, 0, 0, 0, 0)) (mi_k73.2 _ _ (by rfl)) (by rfl) (by rfl) (hG.I.2.2.2 107) rfl (toz2 p1_0) (toz5 c3 fi_6787.2) ?_
            refine ft_go mi_k73 3 42 [(2, .int l2_1), (0, .ref 49), (1, .ref 106)] [.int l2_1, .ref 75, .long ((q 107).getD l2_1.toNatClampNeg 0)] i a q r (by rfl) ?_
            refine ko_iald3 mi_k73.1 (n := 20) (c := 20) (ax := (0, 0, 0, 0, 0)) (mi_k73.2 _ _ (by rfl)) (by rfl) (ksG75 _ _ _ _) (hG.I.2.1 75) rfl (toz2 p1_0) (toz13 c5 fi_3138.2) ?_
            have b10 : ((-2147483648 : Int) ≤ ((a 75).getD l2_1.toNatClampNeg 0).toInt) ∧ (((a 75).getD l2_1.toNatClampNeg 0).toInt ≤ 2147483647) := kd_bd ((a 75).getD l2_1.toNatClampNeg 0)
            have s11 : (((a 75).getD l2_1.toNatClampNeg 0).toInt64).toInt = ((a 75).getD l2_1.toNatClampNeg 0).toInt := kl_i2l
            have s12 : (((lg_cmp ((q 107).getD l2_1.toNatClampNeg 0) (((a 75).getD l2_1.toNatClampNeg 0).toInt64)).toInt < 0 ↔ ((q 107).getD l2_1.toNatClampNeg 0).toInt < (((a 75).getD l2_1.toNatClampNeg 0).toInt64).toInt)) ∧ ((0 < (lg_cmp ((q 107).getD l2_1.toNatClampNeg 0) (((a 75).getD l2_1.toNatClampNeg 0).toInt64)).toInt ↔ (((a 75).getD l2_1.toNatClampNeg 0).toInt64).toInt < ((q 107).getD l2_1.toNatClampNeg 0).toInt)) := kl_cmp
            refine ft_go mi_k73 2 45 [(2, .int l2_1), (0, .ref 49), (1, .ref 106)] [.int (lg_cmp ((q 107).getD l2_1.toNatClampNeg 0) (((a 75).getD l2_1.toNatClampNeg 0).toInt64))] i a q r (by rfl) ?_
            refine ft_if mi_k73 ((lg_cmp ((q 107).getD l2_1.toNatClampNeg 0) (((a 75).getD l2_1.toNatClampNeg 0).toInt64)) == 0) 50 48 [(2, .int l2_1), (0, .ref 49), (1, .ref 106)] [] (by rfl) (fun c => ?_) (fun c => ?_)
            ·
              have c13 : (lg_cmp ((q 107).getD l2_1.toNatClampNeg 0) (((a 75).getD l2_1.toNatClampNeg 0).toInt64)).toInt = (0 : Int32).toInt := kd_eq c; clear c
              have s14 : (l2_1 + 1).toInt = l2_1.toInt + (1 : Int32).toInt := kd_add (toz6 p1_0 ktoz1) (toz7 c3 fi_6787.2 ktoz1)
              refine ft_go mi_k73 2 2 [(2, .int (l2_1 + 1)), (0, .ref 49), (1, .ref 106)] [] i a q r (by rfl) ?_
              exact ih1 _ (toz8 p1_0 s14 ktoz1) (uNo_y O1_0 (toz2 p1_0) (toz9 s14 ktoz1) (toz3 c5) (toz14 c13 s11 s12.1 s12.2 ktoz0)) (kj_meas (toz11 s14 ktoz1) (toz12 c3) hm1)
            ·
              have c15 : (lg_cmp ((q 107).getD l2_1.toNatClampNeg 0) (((a 75).getD l2_1.toNatClampNeg 0).toInt64)).toInt ≠ (0 : Int32).toInt := kd_eqF c; clear c
              refine ft_go mi_k73 1 49 [(2, .int l2_1), (0, .ref 49), (1, .ref 106)] [.int l2_1] i a q r (by rfl) ?_
              exact ft_ret mi_k73 (by rfl) (hP l2_1 ⟨trivial, (fUn_at O1_0 (toz2 p1_0) (toz3 c3) toz4 ⟨(toz15 c9 s6.1 s6.2 ktoz0 ktozL9), (toz16 c15 s11 s12.1 s12.2 ktoz0)⟩)⟩)
  exact lp1 _ _ (toz17 ktoz0) (uNo_0 ktoz0) (Nat.lt_succ_self _)
set_option maxRecDepth 100000 in
theorem ke73_49_108 {i : Nat → Int32} {a : Nat → List Int32} {q : Nat → List Int64} {r : Nat → Nat} (hI : kI i a q) (hr : kr r)  : km 1 73 [.ref 49, .ref 108] (ks i a q r) (kPI (ks i a q r) (fun v => (True) ∧ fUn (i 3138).toInt (i 6915).toInt (fun j => ((q 109).getD j 0).toInt) (fun j => ((a 75).getD j 0).toInt) v)) := by
  have hG := kG_self kW0 hI hr
  refine km_ofPI (q := (mi_h73, mi_c73)) rfl (by decide) (Nat.le_of_ble_eq_true rfl) ?_
  intro P hP
  refine ft_go mi_k73 2 2 [(2, .int 0), (0, .ref 49), (1, .ref 108)] [] i a q r (by rfl) ?_
  have lp1 : ∀ (nz : Nat) (l2_1 : Int32), (0 : Int) ≤ l2_1.toInt → uNo (i 3138).toInt (fun j => ((q 109).getD j 0).toInt) (fun j => ((a 75).getD j 0).toInt) l2_1.toInt → (((i 6915).toInt - l2_1.toInt)).toNat < nz → ko 1 (mi_h73, mi_c73) P (2, [(2, .int l2_1), (0, .ref 49), (1, .ref 108)], [], (0, 0), ks i a q r) := by
    intro nz
    induction nz with
    | zero =>
      intro _ _ _ hm
      exact absurd hm (Nat.not_lt_zero _)
    | succ nz ih1 =>
      intro l2_1 p1_0 O1_0 hm1
      have fi_6915 : ((0 : Int) ≤ (i 6915).toInt) ∧ ((i 6915).toInt ≤ 60) := hG.I.1 6915
      refine ft_go mi_k73 3 7 [(2, .int l2_1), (0, .ref 49), (1, .ref 108)] [.int (i 6915), .int l2_1] i a q r (by rfl) ?_
      refine ft_if mi_k73 (decide ((i 6915) ≤ l2_1)) 56 10 [(2, .int l2_1), (0, .ref 49), (1, .ref 108)] [] (by rfl) (fun c => ?_) (fun c => ?_)
      ·
        have c2 : (i 6915).toInt ≤ l2_1.toInt := kd_le c; clear c
        refine ft_go mi_k73 1 58 [(2, .int l2_1), (0, .ref 49), (1, .ref 108)] [.int (-2)] i a q r (by rfl) ?_
        have fi_3138 : ((0 : Int) ≤ (i 3138).toInt) ∧ ((i 3138).toInt ≤ 20) := hG.I.1 3138
        exact ft_ret mi_k73 (by rfl) (hP (-2) ⟨trivial, (fUn_no O1_0 (toz0 c2) (toz1 ktozm2))⟩)
      ·
        have c3 : l2_1.toInt < (i 6915).toInt := kd_leF c; clear c
        have fi_3138 : ((0 : Int) ≤ (i 3138).toInt) ∧ ((i 3138).toInt ≤ 20) := hG.I.1 3138
        refine ft_go mi_k73 3 15 [(2, .int l2_1), (0, .ref 49), (1, .ref 108)] [.int (i 3138), .int l2_1] i a q r (by rfl) ?_
        refine ft_if mi_k73 (decide ((i 3138) ≤ l2_1)) 48 18 [(2, .int l2_1), (0, .ref 49), (1, .ref 108)] [] (by rfl) (fun c => ?_) (fun c => ?_)
        ·
          have c4 : (i 3138).toInt ≤ l2_1.toInt := kd_le c; clear c
          refine ft_go mi_k73 1 49 [(2, .int l2_1), (0, .ref 49), (1, .ref 108)] [.int l2_1] i a q r (by rfl) ?_
          exact ft_ret mi_k73 (by rfl) (hP l2_1 ⟨trivial, (fUn_end O1_0 (toz2 p1_0) (toz3 c3) toz4 (toz0 c4))⟩)
        ·
          have c5 : l2_1.toInt < (i 3138).toInt := kd_leF c; clear c
          refine ft_go mi_k73 3 23 [(2, .int l2_1), (0, .ref 49), (1, .ref 108)] [.int l2_1, .ref 109] i a q r (by rfl) ?_
          refine ko_lald2 mi_k73.1 (l := q 109) (n := 60) (c := 60) (ax := (0, 0, 0, 0, 0)) (mi_k73.2 _ _ (by rfl)) (by rfl) (by rfl) (hG.I.2.2.2 109) rfl (toz2 p1_0) (toz5 c3 fi_6915.2) ?_
          have s6 : (((lg_cmp ((q 109).getD l2_1.toNatClampNeg 0) 9).toInt < 0 ↔ ((q 109).getD l2_1.toNatClampNeg 0).toInt < (9 : Int64).toInt)) ∧ ((0 < (lg_cmp ((q 109).getD l2_1.toNatClampNeg 0) 9).toInt ↔ (9 : Int64).toInt < ((q 109).getD l2_1.toNatClampNeg 0).toInt)) := kl_cmp
          refine ft_go mi_k73 2 28 [(2, .int l2_1), (0, .ref 49), (1, .ref 108)] [.int (lg_cmp ((q 109).getD l2_1.toNatClampNeg 0) 9)] i a q r (by rfl) ?_
          refine ft_if mi_k73 ((lg_cmp ((q 109).getD l2_1.toNatClampNeg 0) 9) == 0) 50 31 [(2, .int l2_1), (0, .ref 49), (1, .ref 108)] [] (by rfl) (fun c => ?_) (fun c => ?_)
          ·
            have c7 : (lg_cmp ((q 109).getD l2_1.toNatClampNeg 0) 9).toInt = (0 : Int32).toInt := kd_eq c; clear c
            have s8 : (l2_1 + 1).toInt = l2_1.toInt + (1 : Int32).toInt := kd_add (toz6 p1_0 ktoz1) (toz7 c3 fi_6915.2 ktoz1)
            refine ft_go mi_k73 2 2 [(2, .int (l2_1 + 1)), (0, .ref 49), (1, .ref 108)] [] i a q r (by rfl) ?_
            exact ih1 _ (toz8 p1_0 s8 ktoz1) (uNo_9 O1_0 (toz2 p1_0) (toz9 s8 ktoz1) (toz3 c5) (toz10 c7 s6.1 s6.2 ktoz0 ktozL9)) (kj_meas (toz11 s8 ktoz1) (toz12 c3) hm1)
          ·
            have c9 : (lg_cmp ((q 109).getD l2_1.toNatClampNeg 0) 9).toInt ≠ (0 : Int32).toInt := kd_eqF c; clear c
            refine ft_go mi_k73 3 36 [(2, .int l2_1), (0, .ref 49), (1, .ref 108)] [.int l2_1, .ref 109] i a q r (by rfl) ?_
            refine ko_lald2 mi_k73.1 (l := q 109) (n := 60) (c := 60) (ax := (0, 0, 0, 0, 0)) (mi_k73.2 _ _ (by rfl)) (by rfl) (by rfl) (hG.I.2.2.2 109) rfl (toz2 p1_0) (toz5 c3 fi_6915.2) ?_
            refine ft_go mi_k73 3 42 [(2, .int l2_1), (0, .ref 49), (1, .ref 108)] [.int l2_1, .ref 75, .long ((q 109).getD l2_1.toNatClampNeg 0)] i a q r (by rfl) ?_
            refine ko_iald3 mi_k73.1 (n := 20) (c := 20) (ax := (0, 0, 0, 0, 0)) (mi_k73.2 _ _ (by rfl)) (by rfl) (ksG75 _ _ _ _) (hG.I.2.1 75) rfl (toz2 p1_0) (toz13 c5 fi_3138.2) ?_
            have b10 : ((-2147483648 : Int) ≤ ((a 75).getD l2_1.toNatClampNeg 0).toInt) ∧ (((a 75).getD l2_1.toNatClampNeg 0).toInt ≤ 2147483647) := kd_bd ((a 75).getD l2_1.toNatClampNeg 0)
            have s11 : (((a 75).getD l2_1.toNatClampNeg 0).toInt64).toInt = ((a 75).getD l2_1.toNatClampNeg 0).toInt := kl_i2l
            have s12 : (((lg_cmp ((q 109).getD l2_1.toNatClampNeg 0) (((a 75).getD l2_1.toNatClampNeg 0).toInt64)).toInt < 0 ↔ ((q 109).getD l2_1.toNatClampNeg 0).toInt < (((a 75).getD l2_1.toNatClampNeg 0).toInt64).toInt)) ∧ ((0 < (lg_cmp ((q 109).getD l2_1.toNatClampNeg 0) (((a 75).getD l2_1.toNatClampNeg 0).toInt64)).toInt ↔ (((a 75).getD l2_1.toNatClampNeg 0).toInt64).toInt < ((q 109).getD l2_1.toNatClampNeg 0).toInt)) := kl_cmp
            refine ft_go mi_k73 2 45 [(2, .int l2_1), (0, .ref 49), (1, .ref 108)] [.int (lg_cmp ((q 109).getD l2_1.toNatClampNeg 0) (((a 75).getD l2_1.toNatClampNeg 0).toInt64))] i a q r (by rfl) ?_
            refine ft_if mi_k73 ((lg_cmp ((q 109).getD l2_1.toNatClampNeg 0) (((a 75).getD l2_1.toNatClampNeg 0).toInt64)) == 0) 50 48 [(2, .int l2_1), (0, .ref 49), (1, .ref 108)] [] (by rfl) (fun c => ?_) (fun c => ?_)
            ·
              have c13 : (lg_cmp ((q 109).getD l2_1.toNatClampNeg 0) (((a 75).getD l2_1.toNatClampNeg 0).toInt64)).toInt = (0 : Int32).toInt := kd_eq c; clear c
              have s14 : (l2_1 + 1).toInt = l2_1.toInt + (1 : Int32).toInt := kd_add (toz6 p1_0 ktoz1) (toz7 c3 fi_6915.2 ktoz1)
              refine ft_go mi_k73 2 2 [(2, .int (l2_1 + 1)), (0, .ref 49), (1, .ref 108)] [] i a q r (by rfl) ?_
              exact ih1 _ (toz8 p1_0 s14 ktoz1) (uNo_y O1_0 (toz2 p1_0) (toz9 s14 ktoz1) (toz3 c5) (toz14 c13 s11 s12.1 s12.2 ktoz0)) (kj_meas (toz11 s14 ktoz1) (toz12 c3) hm1)
            ·
              have c15 : (lg_cmp ((q 109).getD l2_1.toNatClampNeg 0) (((a 75).getD l2_1.toNatClampNeg 0).toInt64)).toInt ≠ (0 : Int32).toInt := kd_eqF c; clear c
              refine ft_go mi_k73 1 49 [(2, .int l2_1), (0, .ref 49), (1, .ref 108)] [.int l2_1] i a q r (by rfl) ?_
              exact ft_ret mi_k73 (by rfl) (hP l2_1 ⟨trivial, (fUn_at O1_0 (toz2 p1_0) (toz3 c3) toz4 ⟨(toz15 c9 s6.1 s6.2 ktoz0 ktozL9), (toz16 c15 s11 s12.1 s12.2 ktoz0)⟩)⟩)
  exact lp1 _ _ (toz17 ktoz0) (uNo_0 ktoz0) (Nat.lt_succ_self _)
set_option maxRecDepth 100000 in
theorem ke73_49_110 {i : Nat → Int32} {a : Nat → List Int32} {q : Nat → List Int64} {r : Nat → Nat} (hI : kI i a q) (hr : kr r)  : km 1 73 [.ref 49, .ref 110] (ks i a q r) (kPI (ks i a q r) (fun v => (True) ∧ fUn (i 3138).toInt (i 7043).toInt (fun j => ((q 111).getD j 0).toInt) (fun j => ((a 75).getD j 0).toInt) v)) := by
  have hG := kG_self kW0 hI hr
  refine km_ofPI (q := (mi_h73, mi_c73)) rfl (by decide) (Nat.le_of_ble_eq_true rfl) ?_
  intro P hP
  refine ft_go mi_k73 2 2 [(2, .int 0), (0, .ref 49), (1, .ref 110)] [] i a q r (by rfl) ?_
  have lp1 : ∀ (nz : Nat) (l2_1 : Int32), (0 : Int) ≤ l2_1.toInt → uNo (i 3138).toInt (fun j => ((q 111).getD j 0).toInt) (fun j => ((a 75).getD j 0).toInt) l2_1.toInt → (((i 7043).toInt - l2_1.toInt)).toNat < nz → ko 1 (mi_h73, mi_c73) P (2, [(2, .int l2_1), (0, .ref 49), (1, .ref 110)], [], (0, 0), ks i a q r) := by
    intro nz
    induction nz with
    | zero =>
      intro _ _ _ hm
      exact absurd hm (Nat.not_lt_zero _)
    | succ nz ih1 =>
      intro l2_1 p1_0 O1_0 hm1
      have fi_7043 : ((0 : Int) ≤ (i 7043).toInt) ∧ ((i 7043).toInt ≤ 60) := hG.I.1 7043
      refine ft_go mi_k73 3 7 [(2, .int l2_1), (0, .ref 49), (1, .ref 110)] [.int (i 7043), .int l2_1] i a q r (by rfl) ?_
      refine ft_if mi_k73 (decide ((i 7043) ≤ l2_1)) 56 10 [(2, .int l2_1), (0, .ref 49), (1, .ref 110)] [] (by rfl) (fun c => ?_) (fun c => ?_)
      ·
        have c2 : (i 7043).toInt ≤ l2_1.toInt := kd_le c; clear c
        refine ft_go mi_k73 1 58 [(2, .int l2_1), (0, .ref 49), (1, .ref 110)] [.int (-2)] i a q r (by rfl) ?_
        have fi_3138 : ((0 : Int) ≤ (i 3138).toInt) ∧ ((i 3138).toInt ≤ 20) := hG.I.1 3138
        exact ft_ret mi_k73 (by rfl) (hP (-2) ⟨trivial, (fUn_no O1_0 (toz0 c2) (toz1 ktozm2))⟩)
      ·
        have c3 : l2_1.toInt < (i 7043).toInt := kd_leF c; clear c
        have fi_3138 : ((0 : Int) ≤ (i 3138).toInt) ∧ ((i 3138).toInt ≤ 20) := hG.I.1 3138
        refine ft_go mi_k73 3 15 [(2, .int l2_1), (0, .ref 49), (1, .ref 110)] [.int (i 3138), .int l2_1] i a q r (by rfl) ?_
        refine ft_if mi_k73 (decide ((i 3138) ≤ l2_1)) 48 18 [(2, .int l2_1), (0, .ref 49), (1, .ref 110)] [] (by rfl) (fun c => ?_) (fun c => ?_)
        ·
          have c4 : (i 3138).toInt ≤ l2_1.toInt := kd_le c; clear c
          refine ft_go mi_k73 1 49 [(2, .int l2_1), (0, .ref 49), (1, .ref 110)] [.int l2_1] i a q r (by rfl) ?_
          exact ft_ret mi_k73 (by rfl) (hP l2_1 ⟨trivial, (fUn_end O1_0 (toz2 p1_0) (toz3 c3) toz4 (toz0 c4))⟩)
        ·
          have c5 : l2_1.toInt < (i 3138).toInt := kd_leF c; clear c
          refine ft_go mi_k73 3 23 [(2, .int l2_1), (0, .ref 49), (1, .ref 110)] [.int l2_1, .ref 111] i a q r (by rfl) ?_
          refine ko_lald2 mi_k73.1 (l := q 111) (n := 60) (c := 60) (ax := (0, 0, 0, 0, 0)) (mi_k73.2 _ _ (by rfl)) (by rfl) (by rfl) (hG.I.2.2.2 111) rfl (toz2 p1_0) (toz5 c3 fi_7043.2) ?_
          have s6 : (((lg_cmp ((q 111).getD l2_1.toNatClampNeg 0) 9).toInt < 0 ↔ ((q 111).getD l2_1.toNatClampNeg 0).toInt < (9 : Int64).toInt)) ∧ ((0 < (lg_cmp ((q 111).getD l2_1.toNatClampNeg 0) 9).toInt ↔ (9 : Int64).toInt < ((q 111).getD l2_1.toNatClampNeg 0).toInt)) := kl_cmp
          refine ft_go mi_k73 2 28 [(2, .int l2_1), (0, .ref 49), (1, .ref 110)] [.int (lg_cmp ((q 111).getD l2_1.toNatClampNeg 0) 9)] i a q r (by rfl) ?_
          refine ft_if mi_k73 ((lg_cmp ((q 111).getD l2_1.toNatClampNeg 0) 9) == 0) 50 31 [(2, .int l2_1), (0, .ref 49), (1, .ref 110)] [] (by rfl) (fun c => ?_) (fun c => ?_)
          ·
            have c7 : (lg_cmp ((q 111).getD l2_1.toNatClampNeg 0) 9).toInt = (0 : Int32).toInt := kd_eq c; clear c
            have s8 : (l2_1 + 1).toInt = l2_1.toInt + (1 : Int32).toInt := kd_add (toz6 p1_0 ktoz1) (toz7 c3 fi_7043.2 ktoz1)
            refine ft_go mi_k73 2 2 [(2, .int (l2_1 + 1)), (0, .ref 49), (1, .ref 110)] [] i a q r (by rfl) ?_
            exact ih1 _ (toz8 p1_0 s8 ktoz1) (uNo_9 O1_0 (toz2 p1_0) (toz9 s8 ktoz1) (toz3 c5) (toz10 c7 s6.1 s6.2 ktoz0 ktozL9)) (kj_meas (toz11 s8 ktoz1) (toz12 c3) hm1)
          ·
            have c9 : (lg_cmp ((q 111).getD l2_1.toNatClampNeg 0) 9).toInt ≠ (0 : Int32).toInt := kd_eqF c; clear c
            refine ft_go mi_k73 3 36 [(2, .int l2_1), (0, .ref 49), (1, .ref 110)] [.int l2_1, .ref 111] i a q r (by rfl) ?_
            refine ko_lald2 mi_k73.1 (l := q 111) (n := 60) (c := 60) (ax := (0, 0, 0, 0, 0)) (mi_k73.2 _ _ (by rfl)) (by rfl) (by rfl) (hG.I.2.2.2 111) rfl (toz2 p1_0) (toz5 c3 fi_7043.2) ?_
            refine ft_go mi_k73 3 42 [(2, .int l2_1), (0, .ref 49), (1, .ref 110)] [.int l2_1, .ref 75, .long ((q 111).getD l2_1.toNatClampNeg 0)] i a q r (by rfl) ?_
            refine ko_iald3 mi_k73.1 (n := 20) (c := 20) (ax := (0, 0, 0, 0, 0)) (mi_k73.2 _ _ (by rfl)) (by rfl) (ksG75 _ _ _ _) (hG.I.2.1 75) rfl (toz2 p1_0) (toz13 c5 fi_3138.2) ?_
            have b10 : ((-2147483648 : Int) ≤ ((a 75).getD l2_1.toNatClampNeg 0).toInt) ∧ (((a 75).getD l2_1.toNatClampNeg 0).toInt ≤ 2147483647) := kd_bd ((a 75).getD l2_1.toNatClampNeg 0)
            have s11 : (((a 75).getD l2_1.toNatClampNeg 0).toInt64).toInt = ((a 75).getD l2_1.toNatClampNeg 0).toInt := kl_i2l
            have s12 : (((lg_cmp ((q 111).getD l2_1.toNatClampNeg 0) (((a 75).getD l2_1.toNatClampNeg 0).toInt64)).toInt < 0 ↔ ((q 111).getD l2_1.toNatClampNeg 0).toInt < (((a 75).getD l2_1.toNatClampNeg 0).toInt64).toInt)) ∧ ((0 < (lg_cmp ((q 111).getD l2_1.toNatClampNeg 0) (((a 75).getD l2_1.toNatClampNeg 0).toInt64)).toInt ↔ (((a 75).getD l2_1.toNatClampNeg 0).toInt64).toInt < ((q 111).getD l2_1.toNatClampNeg 0).toInt)) := kl_cmp
            refine ft_go mi_k73 2 45 [(2, .int l2_1), (0, .ref 49), (1, .ref 110)] [.int (lg_cmp ((q 111).getD l2_1.toNatClampNeg 0) (((a 75).getD l2_1.toNatClampNeg 0).toInt64))] i a q r (by rfl) ?_
            refine ft_if mi_k73 ((lg_cmp ((q 111).getD l2_1.toNatClampNeg 0) (((a 75).getD l2_1.toNatClampNeg 0).toInt64)) == 0) 50 48 [(2, .int l2_1), (0, .ref 49), (1, .ref 110)] [] (by rfl) (fun c => ?_) (fun c => ?_)
            ·
              have c13 : (lg_cmp ((q 111).getD l2_1.toNatClampNeg 0) (((a 75).getD l2_1.toNatClampNeg 0).toInt64)).toInt = (0 : Int32).toInt := kd_eq c; clear c
              have s14 : (l2_1 + 1).toInt = l2_1.toInt + (1 : Int32).toInt := kd_add (toz6 p1_0 ktoz1) (toz7 c3 fi_7043.2 ktoz1)
              refine ft_go mi_k73 2 2 [(2, .int (l2_1 + 1)), (0, .ref 49), (1, .ref 110)] [] i a q r (by rfl) ?_
              exact ih1 _ (toz8 p1_0 s14 ktoz1) (uNo_y O1_0 (toz2 p1_0) (toz9 s14 ktoz1) (toz3 c5) (toz14 c13 s11 s12.1 s12.2 ktoz0)) (kj_meas (toz11 s14 ktoz1) (toz12 c3) hm1)
            ·
              have c15 : (lg_cmp ((q 111).getD l2_1.toNatClampNeg 0) (((a 75).getD l2_1.toNatClampNeg 0).toInt64)).toInt ≠ (0 : Int32).toInt := kd_eqF c; clear c
              refine ft_go mi_k73 1 49 [(2, .int l2_1), (0, .ref 49), (1, .ref 110)] [.int l2_1] i a q r (by rfl) ?_
              exact ft_ret mi_k73 (by rfl) (hP l2_1 ⟨trivial, (fUn_at O1_0 (toz2 p1_0) (toz3 c3) toz4 ⟨(toz15 c9 s6.1 s6.2 ktoz0 ktozL9), (toz16 c15 s11 s12.1 s12.2 ktoz0)⟩)⟩)
  exact lp1 _ _ (toz17 ktoz0) (uNo_0 ktoz0) (Nat.lt_succ_self _)
set_option maxRecDepth 100000 in
theorem ke73_49_112 {i : Nat → Int32} {a : Nat → List Int32} {q : Nat → List Int64} {r : Nat → Nat} (hI : kI i a q) (hr : kr r)  : km 1 73 [.ref 49, .ref 112] (ks i a q r) (kPI (ks i a q r) (fun v => (True) ∧ fUn (i 3138).toInt (i 7171).toInt (fun j => ((q 113).getD j 0).toInt) (fun j => ((a 75).getD j 0).toInt) v)) := by
  have hG := kG_self kW0 hI hr
  refine km_ofPI (q := (mi_h73, mi_c73)) rfl (by decide) (Nat.le_of_ble_eq_true rfl) ?_
  intro P hP
  refine ft_go mi_k73 2 2 [(2, .int 0), (0, .ref 49), (1, .ref 112)] [] i a q r (by rfl) ?_
  have lp1 : ∀ (nz : Nat) (l2_1 : Int32), (0 : Int) ≤ l2_1.toInt → uNo (i 3138).toInt (fun j => ((q 113).getD j 0).toInt) (fun j => ((a 75).getD j 0).toInt) l2_1.toInt → (((i 7171).toInt - l2_1.toInt)).toNat < nz → ko 1 (mi_h73, mi_c73) P (2, [(2, .int l2_1), (0, .ref 49), (1, .ref 112)], [], (0, 0), ks i a q r) := by
    intro nz
    induction nz with
    | zero =>
      intro _ _ _ hm
      exact absurd hm (Nat.not_lt_zero _)
    | succ nz ih1 =>
      intro l2_1 p1_0 O1_0 hm1
      have fi_7171 : ((0 : Int) ≤ (i 7171).toInt) ∧ ((i 7171).toInt ≤ 60) := hG.I.1 7171
      refine ft_go mi_k73 3 7 [(2, .int l2_1), (0, .ref 49), (1, .ref 112)] [.int (i 7171), .int l2_1] i a q r (by rfl) ?_
      refine ft_if mi_k73 (decide ((i 7171) ≤ l2_1)) 56 10 [(2, .int l2_1), (0, .ref 49), (1, .ref 112)] [] (by rfl) (fun c => ?_) (fun c => ?_)
      ·
        have c2 : (i 7171).toInt ≤ l2_1.toInt := kd_le c; clear c
        refine ft_go mi_k73 1 58 [(2, .int l2_1), (0, .ref 49), (1, .ref 112)] [.int (-2)] i a q r (by rfl) ?_
        have fi_3138 : ((0 : Int) ≤ (i 3138).toInt) ∧ ((i 3138).toInt ≤ 20) := hG.I.1 3138
        exact ft_ret mi_k73 (by rfl) (hP (-2) ⟨trivial, (fUn_no O1_0 (toz0 c2) (toz1 ktozm2))⟩)
      ·
        have c3 : l2_1.toInt < (i 7171).toInt := kd_leF c; clear c
        have fi_3138 : ((0 : Int) ≤ (i 3138).toInt) ∧ ((i 3138).toInt ≤ 20) := hG.I.1 3138
        refine ft_go mi_k73 3 15 [(2, .int l2_1), (0, .ref 49), (1, .ref 112)] [.int (i 3138), .int l2_1] i a q r (by rfl) ?_
        refine ft_if mi_k73 (decide ((i 3138) ≤ l2_1)) 48 18 [(2, .int l2_1), (0, .ref 49), (1, .ref 112)] [] (by rfl) (fun c => ?_) (fun c => ?_)
        ·
          have c4 : (i 3138).toInt ≤ l2_1.toInt := kd_le c; clear c
          refine ft_go mi_k73 1 49 [(2, .int l2_1), (0, .ref 49), (1, .ref 112)] [.int l2_1] i a q r (by rfl) ?_
          exact ft_ret mi_k73 (by rfl) (hP l2_1 ⟨trivial, (fUn_end O1_0 (toz2 p1_0) (toz3 c3) toz4 (toz0 c4))⟩)
        ·
          have c5 : l2_1.toInt < (i 3138).toInt := kd_leF c; clear c
          refine ft_go mi_k73 3 23 [(2, .int l2_1), (0, .ref 49), (1, .ref 112)] [.int l2_1, .ref 113] i a q r (by rfl) ?_
          refine ko_lald2 mi_k73.1 (l := q 113) (n := 60) (c := 60) (ax := (0, 0, 0, 0, 0)) (mi_k73.2 _ _ (by rfl)) (by rfl) (by rfl) (hG.I.2.2.2 113) rfl (toz2 p1_0) (toz5 c3 fi_7171.2) ?_
          have s6 : (((lg_cmp ((q 113).getD l2_1.toNatClampNeg 0) 9).toInt < 0 ↔ ((q 113).getD l2_1.toNatClampNeg 0).toInt < (9 : Int64).toInt)) ∧ ((0 < (lg_cmp ((q 113).getD l2_1.toNatClampNeg 0) 9).toInt ↔ (9 : Int64).toInt < ((q 113).getD l2_1.toNatClampNeg 0).toInt)) := kl_cmp
          refine ft_go mi_k73 2 28 [(2, .int l2_1), (0, .ref 49), (1, .ref 112)] [.int (lg_cmp ((q 113).getD l2_1.toNatClampNeg 0) 9)] i a q r (by rfl) ?_
          refine ft_if mi_k73 ((lg_cmp ((q 113).getD l2_1.toNatClampNeg 0) 9) == 0) 50 31 [(2, .int l2_1), (0, .ref 49), (1, .ref 112)] [] (by rfl) (fun c => ?_) (fun c => ?_)
          ·
            have c7 : (lg_cmp ((q 113).getD l2_1.toNatClampNeg 0) 9).toInt = (0 : Int32).toInt := kd_eq c; clear c
            have s8 : (l2_1 + 1).toInt = l2_1.toInt + (1 : Int32).toInt := kd_add (toz6 p1_0 ktoz1) (toz7 c3 fi_7171.2 ktoz1)
            refine ft_go mi_k73 2 2 [(2, .int (l2_1 + 1)), (0, .ref 49), (1, .ref 112)] [] i a q r (by rfl) ?_
            exact ih1 _ (toz8 p1_0 s8 ktoz1) (uNo_9 O1_0 (toz2 p1_0) (toz9 s8 ktoz1) (toz3 c5) (toz10 c7 s6.1 s6.2 ktoz0 ktozL9)) (kj_meas (toz11 s8 ktoz1) (toz12 c3) hm1)
          ·
            have c9 : (lg_cmp ((q 113).getD l2_1.toNatClampNeg 0) 9).toInt ≠ (0 : Int32).toInt := kd_eqF c; clear c
            refine ft_go mi_k73 3 36 [(2, .int l2_1), (0, .ref 49), (1, .ref 112)] [.int l2_1, .ref 113] i a q r (by rfl) ?_
            refine ko_lald2 mi_k73.1 (l := q 113) (n := 60) (c := 60) (ax := (0, 0, 0, 0, 0)) (mi_k73.2 _ _ (by rfl)) (by rfl) (by rfl) (hG.I.2.2.2 113) rfl (toz2 p1_0) (toz5 c3 fi_7171.2) ?_
            refine ft_go mi_k73 3 42 [(2, .int l2_1), (0, .ref 49), (1, .ref 112)] [.int l2_1, .ref 75, .long ((q 113).getD l2_1.toNatClampNeg 0)] i a q r (by rfl) ?_
            refine ko_iald3 mi_k73.1 (n := 20) (c := 20) (ax := (0, 0, 0, 0, 0)) (mi_k73.2 _ _ (by rfl)) (by rfl) (ksG75 _ _ _ _) (hG.I.2.1 75) rfl (toz2 p1_0) (toz13 c5 fi_3138.2) ?_
            have b10 : ((-2147483648 : Int) ≤ ((a 75).getD l2_1.toNatClampNeg 0).toInt) ∧ (((a 75).getD l2_1.toNatClampNeg 0).toInt ≤ 2147483647) := kd_bd ((a 75).getD l2_1.toNatClampNeg 0)
            have s11 : (((a 75).getD l2_1.toNatClampNeg 0).toInt64).toInt = ((a 75).getD l2_1.toNatClampNeg 0).toInt := kl_i2l
            have s12 : (((lg_cmp ((q 113).getD l2_1.toNatClampNeg 0) (((a 75).getD l2_1.toNatClampNeg 0).toInt64)).toInt < 0 ↔ ((q 113).getD l2_1.toNatClampNeg 0).toInt < (((a 75).getD l2_1.toNatClampNeg 0).toInt64).toInt)) ∧ ((0 < (lg_cmp ((q 113).getD l2_1.toNatClampNeg 0) (((a 75).getD l2_1.toNatClampNeg 0).toInt64)).toInt ↔ (((a 75).getD l2_1.toNatClampNeg 0).toInt64).toInt < ((q 113).getD l2_1.toNatClampNeg 0).toInt)) := kl_cmp
            refine ft_go mi_k73 2 45 [(2, .int l2_1), (0, .ref 49), (1, .ref 112)] [.int (lg_cmp ((q 113).getD l2_1.toNatClampNeg 0) (((a 75).getD l2_1.toNatClampNeg 0).toInt64))] i a q r (by rfl) ?_
            refine ft_if mi_k73 ((lg_cmp ((q 113).getD l2_1.toNatClampNeg 0) (((a 75).getD l2_1.toNatClampNeg 0).toInt64)) == 0) 50 48 [(2, .int l2_1), (0, .ref 49), (1, .ref 112)] [] (by rfl) (fun c => ?_) (fun c => ?_)
            ·
              have c13 : (lg_cmp ((q 113).getD l2_1.toNatClampNeg 0) (((a 75).getD l2_1.toNatClampNeg 0).toInt64)).toInt = (0 : Int32).toInt := kd_eq c; clear c
              have s14 : (l2_1 + 1).toInt = l2_1.toInt + (1 : Int32).toInt := kd_add (toz6 p1_0 ktoz1) (toz7 c3 fi_7171.2 ktoz1)
              refine ft_go mi_k73 2 2 [(2, .int (l2_1 + 1)), (0, .ref 49), (1, .ref 112)] [] i a q r (by rfl) ?_
              exact ih1 _ (toz8 p1_0 s14 ktoz1) (uNo_y O1_0 (toz2 p1_0) (toz9 s14 ktoz1) (toz3 c5) (toz14 c13 s11 s12.1 s12.2 ktoz0)) (kj_meas (toz11 s14 ktoz1) (toz12 c3) hm1)
            ·
              have c15 : (lg_cmp ((q 113).getD l2_1.toNatClampNeg 0) (((a 75).getD l2_1.toNatClampNeg 0).toInt64)).toInt ≠ (0 : Int32).toInt := kd_eqF c; clear c
              refine ft_go mi_k73 1 49 [(2, .int l2_1), (0, .ref 49), (1, .ref 112)] [.int l2_1] i a q r (by rfl) ?_
              exact ft_ret mi_k73 (by rfl) (hP l2_1 ⟨trivial, (fUn_at O1_0 (toz2 p1_0) (toz3 c3) toz4 ⟨(toz15 c9 s6.1 s6.2 ktoz0 ktozL9), (toz16 c15 s11 s12.1 s12.2 ktoz0)⟩)⟩)
  exact lp1 _ _ (toz17 ktoz0) (uNo_0 ktoz0) (Nat.lt_succ_self _)
set_option maxRecDepth 100000 in
theorem ke73_49_114 {i : Nat → Int32} {a : Nat → List Int32} {q : Nat → List Int64} {r : Nat → Nat} (hI : kI i a q) (hr : kr r)  : km 1 73 [.ref 49, .ref 114] (ks i a q r) (kPI (ks i a q r) (fun v => (True) ∧ fUn (i 3138).toInt (i 7299).toInt (fun j => ((q 115).getD j 0).toInt) (fun j => ((a 75).getD j 0).toInt) v)) := by
  have hG := kG_self kW0 hI hr
  refine km_ofPI (q := (mi_h73, mi_c73)) rfl (by decide) (Nat.le_of_ble_eq_true rfl) ?_
  intro P hP
  refine ft_go mi_k73 2 2 [(2, .int 0), (0, .ref 49), (1, .ref 114)] [] i a q r (by rfl) ?_
  have lp1 : ∀ (nz : Nat) (l2_1 : Int32), (0 : Int) ≤ l2_1.toInt → uNo (i 3138).toInt (fun j => ((q 115).getD j 0).toInt) (fun j => ((a 75).getD j 0).toInt) l2_1.toInt → (((i 7299).toInt - l2_1.toInt)).toNat < nz → ko 1 (mi_h73, mi_c73) P (2, [(2, .int l2_1), (0, .ref 49), (1, .ref 114)], [], (0, 0), ks i a q r) := by
    intro nz
    induction nz with
    | zero =>
      intro _ _ _ hm
      exact absurd hm (Nat.not_lt_zero _)
    | succ nz ih1 =>
      intro l2_1 p1_0 O1_0 hm1
      have fi_7299 : ((0 : Int) ≤ (i 7299).toInt) ∧ ((i 7299).toInt ≤ 60) := hG.I.1 7299
      refine ft_go mi_k73 3 7 [(2, .int l2_1), (0, .ref 49), (1, .ref 114)] [.int (i 7299), .int l2_1] i a q r (by rfl) ?_
      refine ft_if mi_k73 (decide ((i 7299) ≤ l2_1)) 56 10 [(2, .int l2_1), (0, .ref 49), (1, .ref 114)] [] (by rfl) (fun c => ?_) (fun c => ?_)
      ·
        have c2 : (i 7299).toInt ≤ l2_1.toInt := kd_le c; clear c
        refine ft_go mi_k73 1 58 [(2, .int l2_1), (0, .ref 49), (1, .ref 114)] [.int (-2)] i a q r (by rfl) ?_
        have fi_3138 : ((0 : Int) ≤ (i 3138).toInt) ∧ ((i 3138).toInt ≤ 20) := hG.I.1 3138
        exact ft_ret mi_k73 (by rfl) (hP (-2) ⟨trivial, (fUn_no O1_0 (toz0 c2) (toz1 ktozm2))⟩)
      ·
        have c3 : l2_1.toInt < (i 7299).toInt := kd_leF c; clear c
        have fi_3138 : ((0 : Int) ≤ (i 3138).toInt) ∧ ((i 3138).toInt ≤ 20) := hG.I.1 3138
        refine ft_go mi_k73 3 15 [(2, .int l2_1), (0, .ref 49), (1, .ref 114)] [.int (i 3138), .int l2_1] i a q r (by rfl) ?_
        refine ft_if mi_k73 (decide ((i 3138) ≤ l2_1)) 48 18 [(2, .int l2_1), (0, .ref 49), (1, .ref 114)] [] (by rfl) (fun c => ?_) (fun c => ?_)
        ·
          have c4 : (i 3138).toInt ≤ l2_1.toInt := kd_le c; clear c
          refine ft_go mi_k73 1 49 [(2, .int l2_1), (0, .ref 49), (1, .ref 114)] [.int l2_1] i a q r (by rfl) ?_
          exact ft_ret mi_k73 (by rfl) (hP l2_1 ⟨trivial, (fUn_end O1_0 (toz2 p1_0) (toz3 c3) toz4 (toz0 c4))⟩)
        ·
          have c5 : l2_1.toInt < (i 3138).toInt := kd_leF c; clear c
          refine ft_go mi_k73 3 23 [(2, .int l2_1), (0, .ref 49), (1, .ref 114)] [.int l2_1, .ref 115] i a q r (by rfl) ?_
          refine ko_lald2 mi_k73.1 (l := q 115) (n := 60) (c := 60) (ax := (0, 0, 0, 0, 0)) (mi_k73.2 _ _ (by rfl)) (by rfl) (by rfl) (hG.I.2.2.2 115) rfl (toz2 p1_0) (toz5 c3 fi_7299.2) ?_
          have s6 : (((lg_cmp ((q 115).getD l2_1.toNatClampNeg 0) 9).toInt < 0 ↔ ((q 115).getD l2_1.toNatClampNeg 0).toInt < (9 : Int64).toInt)) ∧ ((0 < (lg_cmp ((q 115).getD l2_1.toNatClampNeg 0) 9).toInt ↔ (9 : Int64).toInt < ((q 115).getD l2_1.toNatClampNeg 0).toInt)) := kl_cmp
          refine ft_go mi_k73 2 28 [(2, .int l2_1), (0, .ref 49), (1, .ref 114)] [.int (lg_cmp ((q 115).getD l2_1.toNatClampNeg 0) 9)] i a q r (by rfl) ?_
          refine ft_if mi_k73 ((lg_cmp ((q 115).getD l2_1.toNatClampNeg 0) 9) == 0) 50 31 [(2, .int l2_1), (0, .ref 49), (1, .ref 114)] [] (by rfl) (fun c => ?_) (fun c => ?_)
          ·
            have c7 : (lg_cmp ((q 115).getD l2_1.toNatClampNeg 0) 9).toInt = (0 : Int32).toInt := kd_eq c; clear c
            have s8 : (l2_1 + 1).toInt = l2_1.toInt + (1 : Int32).toInt := kd_add (toz6 p1_0 ktoz1) (toz7 c3 fi_7299.2 ktoz1)
            refine ft_go mi_k73 2 2 [(2, .int (l2_1 + 1)), (0, .ref 49), (1, .ref 114)] [] i a q r (by rfl) ?_
            exact ih1 _ (toz8 p1_0 s8 ktoz1) (uNo_9 O1_0 (toz2 p1_0) (toz9 s8 ktoz1) (toz3 c5) (toz10 c7 s6.1 s6.2 ktoz0 ktozL9)) (kj_meas (toz11 s8 ktoz1) (toz12 c3) hm1)
          ·
            have c9 : (lg_cmp ((q 115).getD l2_1.toNatClampNeg 0) 9).toInt ≠ (0 : Int32).toInt := kd_eqF c; clear c
            refine ft_go mi_k73 3 36 [(2, .int l2_1), (0, .ref 49), (1, .ref 114)] [.int l2_1, .ref 115] i a q r (by rfl) ?_
            refine ko_lald2 mi_k73.1 (l := q 115) (n := 60) (c := 60) (ax := (0, 0, 0, 0, 0)) (mi_k73.2 _ _ (by rfl)) (by rfl) (by rfl) (hG.I.2.2.2 115) rfl (toz2 p1_0) (toz5 c3 fi_7299.2) ?_
            refine ft_go mi_k73 3 42 [(2, .int l2_1), (0, .ref 49), (1, .ref 114)] [.int l2_1, .ref 75, .long ((q 115).getD l2_1.toNatClampNeg 0)] i a q r (by rfl) ?_
            refine ko_iald3 mi_k73.1 (n := 20) (c := 20) (ax := (0, 0, 0, 0, 0)) (mi_k73.2 _ _ (by rfl)) (by rfl) (ksG75 _ _ _ _) (hG.I.2.1 75) rfl (toz2 p1_0) (toz13 c5 fi_3138.2) ?_
            have b10 : ((-2147483648 : Int) ≤ ((a 75).getD l2_1.toNatClampNeg 0).toInt) ∧ (((a 75).getD l2_1.toNatClampNeg 0).toInt ≤ 2147483647) := kd_bd ((a 75).getD l2_1.toNatClampNeg 0)
            have s11 : (((a 75).getD l2_1.toNatClampNeg 0).toInt64).toInt = ((a 75).getD l2_1.toNatClampNeg 0).toInt := kl_i2l
            have s12 : (((lg_cmp ((q 115).getD l2_1.toNatClampNeg 0) (((a 75).getD l2_1.toNatClampNeg 0).toInt64)).toInt < 0 ↔ ((q 115).getD l2_1.toNatClampNeg 0).toInt < (((a 75).getD l2_1.toNatClampNeg 0).toInt64).toInt)) ∧ ((0 < (lg_cmp ((q 115).getD l2_1.toNatClampNeg 0) (((a 75).getD l2_1.toNatClampNeg 0).toInt64)).toInt ↔ (((a 75).getD l2_1.toNatClampNeg 0).toInt64).toInt < ((q 115).getD l2_1.toNatClampNeg 0).toInt)) := kl_cmp
            refine ft_go mi_k73 2 45 [(2, .int l2_1), (0, .ref 49), (1, .ref 114)] [.int (lg_cmp ((q 115).getD l2_1.toNatClampNeg 0) (((a 75).getD l2_1.toNatClampNeg 0).toInt64))] i a q r (by rfl) ?_
            refine ft_if mi_k73 ((lg_cmp ((q 115).getD l2_1.toNatClampNeg 0) (((a 75).getD l2_1.toNatClampNeg 0).toInt64)) == 0) 50 48 [(2, .int l2_1), (0, .ref 49), (1, .ref 114)] [] (by rfl) (fun c => ?_) (fun c => ?_)
            ·
              have c13 : (lg_cmp ((q 115).getD l2_1.toNatClampNeg 0) (((a 75).getD l2_1.toNatClampNeg 0).toInt64)).toInt = (0 : Int32).toInt := kd_eq c; clear c
              have s14 : (l2_1 + 1).toInt = l2_1.toInt + (1 : Int32).toInt := kd_add (toz6 p1_0 ktoz1) (toz7 c3 fi_7299.2 ktoz1)
              refine ft_go mi_k73 2 2 [(2, .int (l2_1 + 1)), (0, .ref 49), (1, .ref 114)] [] i a q r (by rfl) ?_
              exact ih1 _ (toz8 p1_0 s14 ktoz1) (uNo_y O1_0 (toz2 p1_0) (toz9 s14 ktoz1) (toz3 c5) (toz14 c13 s11 s12.1 s12.2 ktoz0)) (kj_meas (toz11 s14 ktoz1) (toz12 c3) hm1)
            ·
              have c15 : (lg_cmp ((q 115).getD l2_1.toNatClampNeg 0) (((a 75).getD l2_1.toNatClampNeg 0).toInt64)).toInt ≠ (0 : Int32).toInt := kd_eqF c; clear c
              refine ft_go mi_k73 1 49 [(2, .int l2_1), (0, .ref 49), (1, .ref 114)] [.int l2_1] i a q r (by rfl) ?_
              exact ft_ret mi_k73 (by rfl) (hP l2_1 ⟨trivial, (fUn_at O1_0 (toz2 p1_0) (toz3 c3) toz4 ⟨(toz15 c9 s6.1 s6.2 ktoz0 ktozL9), (toz16 c15 s11 s12.1 s12.2 ktoz0)⟩)⟩)
  exact lp1 _ _ (toz17 ktoz0) (uNo_0 ktoz0) (Nat.lt_succ_self _)
