theorem kok1 : (1 : Int32).toInt = 1 := by decide
theorem kok999 : (999 : Int32).toInt = 999 := by decide
theorem kok4 : (4 : Int32).toInt = 4 := by decide
theorem ok7 {a0 a1 a2 a3 a4 : Int} (h0 : a0 = a1) : ¬ (((0 : Int) ≤ a0) ∧ (a0 < a2) ∧ ((0 : Int) ≤ a1) ∧ (a1 < a2) ∧ (a0 ≠ a1) ∧ ((1 : Int) ≤ a3) ∧ (a3 ≤ 999) ∧ (a3 ≤ a4)) := oj35 h0
theorem ok8 {a0 a1 a2 a3 a4 : Int} (h0 : a0 = a1) : ¬ (((0 : Int) ≤ a0) ∧ (a0 < a2) ∧ ((0 : Int) ≤ a1) ∧ (a1 < a2) ∧ (a0 ≠ a1) ∧ ((1 : Int) ≤ a3) ∧ (a3 ≤ 999) ∧ (a4 < a3)) := oj36 h0
theorem ok9 {a0 : Int} (h0 : (0 : Int) ≤ a0) : (0 : Int) ≤ a0 := oz3 h0
theorem ok10 {a0 a1 : Int} (h0 : a0 ≤ 8) (h1 : a1 < a0) : a1 < 31 := oz385 h0 h1
theorem ok11 {a0 a1 : Int} (h0 : a0 ≤ a1) : (-2147483648 : Int) ≤ a1 - a0 := oz551 h0
theorem ok12 {a0 a1 a2 : Int} (h0 : a0 ≤ 2147483647) (h1 : a1 ≤ a2) (h2 : a1 = 1) : a0 - a2 ≤ 2147483647 := oz552 h0 h1 h2
theorem ok13 {a0 a1 a2 : Int} (h0 : a0 ≤ 8) (h1 : a1 < a0) : a1 = 18 → (0 : Int) ≤ a2 ∧ a2 ≤ 5 := oz553 h0 h1
theorem ok14 {a0 a1 a2 : Int} (h0 : a0 ≤ 8) (h1 : a1 < a0) : 19 ≤ a1 → a1 ≤ 24 → (0 : Int) ≤ a2 ∧ a2 ≤ 7 := oz554 h0 h1
theorem ok15 {a0 a1 : Int} (h0 : a0 ≠ a1) : a1 ≠ a0 := oz351 h0
theorem ok16 {a0 : Int} (h0 : a0 = 4) : (0 : Int) ≤ a0 := oz262 h0
theorem ok17 {a0 : Int} (h0 : a0 = 4) : a0 < 5 := oz555 h0
theorem ok18 {a0 a1 : Int} (h0 : a0 ≠ a1) : a0 ≠ a1 := oz556 h0
theorem ok19 {a0 a1 a2 a3 a4 a5 a6 : Int} (h0 : a0 ≤ a1) (h1 : a2 ≠ a3) (h2 : (0 : Int) ≤ a2) (h3 : a2 < a4) (h4 : (0 : Int) ≤ a3) (h5 : a3 < a4) (h6 : a5 ≤ a0) (h7 : a0 ≤ a6) (h8 : a5 = 1) (h9 : a6 = 999) : ¬ (¬ (((0 : Int) ≤ a2) ∧ (a2 < a4) ∧ ((0 : Int) ≤ a3) ∧ (a3 < a4) ∧ (a2 ≠ a3) ∧ ((1 : Int) ≤ a0) ∧ (a0 ≤ 999) ∧ (a0 ≤ a1))) := by omega
theorem ok20 {a0 a1 a2 a3 a4 : Int} (h0 : a0 ≤ a1) : ¬ (((0 : Int) ≤ a2) ∧ (a2 < a3) ∧ ((0 : Int) ≤ a4) ∧ (a4 < a3) ∧ (a2 ≠ a4) ∧ ((1 : Int) ≤ a0) ∧ (a0 ≤ 999) ∧ (a1 < a0)) := oj46 h0
theorem ok21 {a0 a1 a2 a3 a4 a5 : Int} (h0 : a0 ≠ a1) (h1 : (0 : Int) ≤ a0) (h2 : a0 < a2) (h3 : (0 : Int) ≤ a1) (h4 : a1 < a2) (h5 : a3 ≤ a4) (h6 : a4 ≤ a5) (h7 : a3 = 1) (h8 : a5 = 999) : ¬ (¬ (((0 : Int) ≤ a0) ∧ (a0 < a2) ∧ ((0 : Int) ≤ a1) ∧ (a1 < a2) ∧ (a0 ≠ a1) ∧ ((1 : Int) ≤ a4) ∧ (a4 ≤ 999))) := oj47 h0 h1 h2 h3 h4 h5 h6 h7 h8
theorem ok22 {a0 a1 a2 a3 a4 : Int} (h0 : a0 < a1) : ¬ (((0 : Int) ≤ a2) ∧ (a2 < a3) ∧ ((0 : Int) ≤ a4) ∧ (a4 < a3) ∧ (a2 ≠ a4) ∧ ((1 : Int) ≤ a1) ∧ (a1 ≤ 999) ∧ (a1 ≤ a0)) := oj48 h0
theorem ok23 {a0 a1 a2 a3 a4 a5 a6 : Int} (h0 : ¬ ((a0 ≤ a1) ∧ (a1 ≤ a2))) (h1 : a0 = 1) (h2 : a2 = 999) : ¬ (((0 : Int) ≤ a3) ∧ (a3 < a4) ∧ ((0 : Int) ≤ a5) ∧ (a5 < a4) ∧ (a3 ≠ a5) ∧ ((1 : Int) ≤ a1) ∧ (a1 ≤ 999) ∧ (a1 ≤ a6)) := oj49 h0 h1 h2
theorem ok24 {a0 a1 a2 a3 a4 a5 a6 : Int} (h0 : ¬ ((a0 ≤ a1) ∧ (a1 ≤ a2))) (h1 : a0 = 1) (h2 : a2 = 999) : ¬ (((0 : Int) ≤ a3) ∧ (a3 < a4) ∧ ((0 : Int) ≤ a5) ∧ (a5 < a4) ∧ (a3 ≠ a5) ∧ ((1 : Int) ≤ a1) ∧ (a1 ≤ 999) ∧ (a6 < a1)) := oj50 h0 h1 h2
theorem ok25 {a0 a1 a2 a3 a4 : Int} (h0 : ¬ (((0 : Int) ≤ a0) ∧ (a0 < a1))) : ¬ (((0 : Int) ≤ a2) ∧ (a2 < a1) ∧ ((0 : Int) ≤ a0) ∧ (a0 < a1) ∧ (a2 ≠ a0) ∧ ((1 : Int) ≤ a3) ∧ (a3 ≤ 999) ∧ (a3 ≤ a4)) := oj51 h0
theorem ok26 {a0 a1 a2 a3 a4 : Int} (h0 : ¬ (((0 : Int) ≤ a0) ∧ (a0 < a1))) : ¬ (((0 : Int) ≤ a2) ∧ (a2 < a1) ∧ ((0 : Int) ≤ a0) ∧ (a0 < a1) ∧ (a2 ≠ a0) ∧ ((1 : Int) ≤ a3) ∧ (a3 ≤ 999) ∧ (a4 < a3)) := oj52 h0
theorem ok27 {a0 a1 a2 a3 a4 : Int} (h0 : ¬ (((0 : Int) ≤ a0) ∧ (a0 < a1))) : ¬ (((0 : Int) ≤ a0) ∧ (a0 < a1) ∧ ((0 : Int) ≤ a2) ∧ (a2 < a1) ∧ (a0 ≠ a2) ∧ ((1 : Int) ≤ a3) ∧ (a3 ≤ 999) ∧ (a3 ≤ a4)) := oj53 h0
theorem ok28 {a0 a1 a2 a3 a4 : Int} (h0 : ¬ (((0 : Int) ≤ a0) ∧ (a0 < a1))) : ¬ (((0 : Int) ≤ a0) ∧ (a0 < a1) ∧ ((0 : Int) ≤ a2) ∧ (a2 < a1) ∧ (a0 ≠ a2) ∧ ((1 : Int) ≤ a3) ∧ (a3 ≤ 999) ∧ (a4 < a3)) := oj54 h0
def yw204_116 : kW := ([], [118, 130], [], [])
set_option maxRecDepth 100000 in
theorem ke204_116 {i : Nat → Int32} {a : Nat → List Int32} {q : Nat → List Int64} {r : Nat → Nat} (hI : kI i a q) (hr : kr r) (x1 : Int32) (x2 : Int32) (x3 : Int32) : km 5 204 [.ref 116, .int x1, .int x2, .int x3] (ks i a q r) (kVI yw204_116 i a q r (fun v i1 a1 q1 r1 => (True) ∧ ((((0 : Int) ≤ x1.toInt) ∧ (x1.toInt < (i 7424).toInt) ∧ ((0 : Int) ≤ x2.toInt) ∧ (x2.toInt < (i 7424).toInt) ∧ (x1.toInt ≠ x2.toInt) ∧ ((1 : Int) ≤ x3.toInt) ∧ (x3.toInt ≤ 999) ∧ (x3.toInt ≤ ((a 118).getD x1.toNatClampNeg 0).toInt) → a1 118 = (((a 118).set x1.toNatClampNeg ((a 118).getD x1.toNatClampNeg 0 - x3)).set x2.toNatClampNeg (sMn 999 (((a 118).set x1.toNatClampNeg ((a 118).getD x1.toNatClampNeg 0 - x3)).getD x2.toNatClampNeg 0 + x3)))) ∧ (((0 : Int) ≤ x1.toInt) ∧ (x1.toInt < (i 7424).toInt) ∧ ((0 : Int) ≤ x2.toInt) ∧ (x2.toInt < (i 7424).toInt) ∧ (x1.toInt ≠ x2.toInt) ∧ ((1 : Int) ≤ x3.toInt) ∧ (x3.toInt ≤ 999) ∧ (x3.toInt ≤ ((a 118).getD x1.toNatClampNeg 0).toInt) → a1 130 = (a 130).set (4 : Int32).toNatClampNeg ((a 130).getD (4 : Int32).toNatClampNeg 0 + x3)) ∧ (((0 : Int) ≤ x1.toInt) ∧ (x1.toInt < (i 7424).toInt) ∧ ((0 : Int) ≤ x2.toInt) ∧ (x2.toInt < (i 7424).toInt) ∧ (x1.toInt ≠ x2.toInt) ∧ ((1 : Int) ≤ x3.toInt) ∧ (x3.toInt ≤ 999) ∧ (x3.toInt ≤ ((a 118).getD x1.toNatClampNeg 0).toInt) → v = (((a 118).set x1.toNatClampNeg ((a 118).getD x1.toNatClampNeg 0 - x3)).set x2.toNatClampNeg (sMn 999 (((a 118).set x1.toNatClampNeg ((a 118).getD x1.toNatClampNeg 0 - x3)).getD x2.toNatClampNeg 0 + x3))).getD x1.toNatClampNeg 0) ∧ (¬ (((0 : Int) ≤ x1.toInt) ∧ (x1.toInt < (i 7424).toInt) ∧ ((0 : Int) ≤ x2.toInt) ∧ (x2.toInt < (i 7424).toInt) ∧ (x1.toInt ≠ x2.toInt) ∧ ((1 : Int) ≤ x3.toInt) ∧ (x3.toInt ≤ 999) ∧ (x3.toInt ≤ ((a 118).getD x1.toNatClampNeg 0).toInt)) → a1 118 = a 118) ∧ (¬ (((0 : Int) ≤ x1.toInt) ∧ (x1.toInt < (i 7424).toInt) ∧ ((0 : Int) ≤ x2.toInt) ∧ (x2.toInt < (i 7424).toInt) ∧ (x1.toInt ≠ x2.toInt) ∧ ((1 : Int) ≤ x3.toInt) ∧ (x3.toInt ≤ 999) ∧ (x3.toInt ≤ ((a 118).getD x1.toNatClampNeg 0).toInt)) → a1 130 = a 130) ∧ (((0 : Int) ≤ x1.toInt) ∧ (x1.toInt < (i 7424).toInt) ∧ ((0 : Int) ≤ x2.toInt) ∧ (x2.toInt < (i 7424).toInt) ∧ (x1.toInt ≠ x2.toInt) ∧ ((1 : Int) ≤ x3.toInt) ∧ (x3.toInt ≤ 999) ∧ (((a 118).getD x1.toNatClampNeg 0).toInt < x3.toInt) → v = -5) ∧ (¬ (((0 : Int) ≤ x1.toInt) ∧ (x1.toInt < (i 7424).toInt) ∧ ((0 : Int) ≤ x2.toInt) ∧ (x2.toInt < (i 7424).toInt) ∧ (x1.toInt ≠ x2.toInt) ∧ ((1 : Int) ≤ x3.toInt) ∧ (x3.toInt ≤ 999)) → v = -1)))) := by
  have hG := kG_self yw204_116 hI hr
  refine km_ofI (q := (mi_h204, mi_c204)) rfl (by decide) (Nat.le_of_ble_eq_true rfl) ?_
  intro P hP
  refine ft_go mi_k204 2 2 [(0, .ref 116), (1, .int x1), (2, .int x2), (3, .int x3)] [.int x1, .ref 116] i a q r (by rfl) ?_
  refine ko_callPI mi_k204.1 (pc := 2) (ls := [(0, .ref 116), (1, .int x1), (2, .int x2), (3, .int x3)]) (st := [.int x1, .ref 116]) (h := ks i a q r) (i := (.invokevirtual 137, 3, 132, 0, 9, 0, 387)) (mi_k204.2 _ _ (by rfl)) (ft_invS mi_pq132 (by rfl)) (cy := mi_c132) mi_pq132 rfl (kc132_116 hG.I hG.R x1) (by decide) ?_
  intro vg1 hg1
  rcases hg1 with ⟨eg1, hg1⟩ | ⟨eg1, hg1⟩
  ·
    subst eg1
    have fi_7424 : ((0 : Int) ≤ (i 7424).toInt) ∧ ((i 7424).toInt ≤ 8) := hG.I.1 7424
    have z2 : ((0 : Int) ≤ x1.toInt) ∧ (x1.toInt < (i 7424).toInt) := hg1
    refine ft_go mi_k204 3 10 [(0, .ref 116), (1, .int x1), (2, .int x2), (3, .int x3)] [.int x2, .ref 116] i a q r (by rfl) ?_
    refine ko_callPI mi_k204.1 (pc := 10) (ls := [(0, .ref 116), (1, .int x1), (2, .int x2), (3, .int x3)]) (st := [.int x2, .ref 116]) (h := ks i a q r) (i := (.invokevirtual 137, 3, 132, 0, 9, 0, 387)) (mi_k204.2 _ _ (by rfl)) (ft_invS mi_pq132 (by rfl)) (cy := mi_c132) mi_pq132 rfl (kc132_116 hG.I hG.R x2) (by decide) ?_
    intro vg3 hg3
    rcases hg3 with ⟨eg3, hg3⟩ | ⟨eg3, hg3⟩
    ·
      subst eg3
      have z4 : ((0 : Int) ≤ x2.toInt) ∧ (x2.toInt < (i 7424).toInt) := hg3
      refine ft_go mi_k204 3 18 [(0, .ref 116), (1, .int x1), (2, .int x2), (3, .int x3)] [.int x2, .int x1] i a q r (by rfl) ?_
      refine ft_if mi_k204 (x1 == x2) 32 21 [(0, .ref 116), (1, .int x1), (2, .int x2), (3, .int x3)] [] (by rfl) (fun c => ?_) (fun c => ?_)
      ·
        have c5 : x1.toInt = x2.toInt := kd_eq c; clear c
        refine ft_go mi_k204 1 33 [(0, .ref 116), (1, .int x1), (2, .int x2), (3, .int x3)] [.int (-1)] i a q r (by rfl) ?_
        exact ft_ret mi_k204 (by rfl) (hP (-1) _ _ _ _ hG ⟨trivial, ⟨(fun h => absurd h (ok7 c5)), (fun h => absurd h (ok7 c5)), (fun h => absurd h (ok7 c5)), (fun _ => (show a 118 = a 118 from rfl)), (fun _ => (show a 130 = a 130 from rfl)), (fun h => absurd h (ok8 c5)), (fun _ => (show ((-1) : Int32) = -1 from (by first | rfl | (simp only [sMn, sMx]; done) | (simp only [sMn, sMx]; rfl))))⟩⟩)
      ·
        have c6 : x1.toInt ≠ x2.toInt := kd_eqF c; clear c
        refine ft_go mi_k204 3 26 [(0, .ref 116), (1, .int x1), (2, .int x2), (3, .int x3)] [.int 999, .int 1, .int x3] i a q r (by rfl) ?_
        refine ko_callPI mi_k204.1 (pc := 26) (ls := [(0, .ref 116), (1, .int x1), (2, .int x2), (3, .int x3)]) (st := [.int 999, .int 1, .int x3]) (h := ks i a q r) (i := (.invokestatic 119, 3, 131, 0, 9, 0, 379)) (mi_k204.2 _ _ (by rfl)) (ft_invS mi_pq131 (by rfl)) (cy := mi_c131) mi_pq131 rfl (kc131 hG.I hG.R x3 1 999) (by decide) ?_
        intro vg7 hg7
        rcases hg7 with ⟨eg7, hg7⟩ | ⟨eg7, hg7⟩
        ·
          subst eg7
          have z8 : ((1 : Int32).toInt ≤ x3.toInt) ∧ (x3.toInt ≤ (999 : Int32).toInt) := hg7
          refine ft_go mi_k204 4 39 [(0, .ref 116), (1, .int x1), (2, .int x2), (3, .int x3)] [.int x1, .ref 118] i a q r (by rfl) ?_
          refine ko_iald3 mi_k204.1 (n := 31) (c := 31) (ax := (0, 0, 0, 0, 0)) (mi_k204.2 _ _ (by rfl)) (by rfl) (ksG118 _ _ _ _) (hG.I.2.1 118) rfl (ok9 z2.1) (ok10 fi_7424.2 z2.2) ?_
          have r9 : ((x1.toInt = 18 → (0 : Int) ≤ ((a 118).getD x1.toNatClampNeg 0).toInt ∧ ((a 118).getD x1.toNatClampNeg 0).toInt ≤ 5)) ∧ ((19 ≤ x1.toInt → x1.toInt ≤ 24 → (0 : Int) ≤ ((a 118).getD x1.toNatClampNeg 0).toInt ∧ ((a 118).getD x1.toNatClampNeg 0).toInt ≤ 7)) := kE_ncond (p := 118) hG.I (by decide) (j := x1) (ok9 z2.1)
          refine ft_go mi_k204 1 41 [(0, .ref 116), (1, .int x1), (2, .int x2), (3, .int x3)] [.int x3, .int ((a 118).getD x1.toNatClampNeg 0)] i a q r (by rfl) ?_
          refine ft_if mi_k204 (decide (x3 ≤ ((a 118).getD x1.toNatClampNeg 0))) 47 44 [(0, .ref 116), (1, .int x1), (2, .int x2), (3, .int x3)] [] (by rfl) (fun c => ?_) (fun c => ?_)
          ·
            have c10 : x3.toInt ≤ ((a 118).getD x1.toNatClampNeg 0).toInt := kd_le c; clear c
            refine ft_go mi_k204 4 53 [(0, .ref 116), (1, .int x1), (2, .int x2), (3, .int x3)] [.int x1, .ref 118, .int x1, .ref 118] i a q r (by rfl) ?_
            refine ko_iald3 mi_k204.1 (n := 31) (c := 31) (ax := (0, 0, 0, 0, 0)) (mi_k204.2 _ _ (by rfl)) (by rfl) (ksG118 _ _ _ _) (hG.I.2.1 118) rfl (ok9 z2.1) (ok10 fi_7424.2 z2.2) ?_
            have b11 : ((-2147483648 : Int) ≤ ((a 118).getD x1.toNatClampNeg 0).toInt) ∧ (((a 118).getD x1.toNatClampNeg 0).toInt ≤ 2147483647) := kd_bd ((a 118).getD x1.toNatClampNeg 0)
            have b12 : ((-2147483648 : Int) ≤ x3.toInt) ∧ (x3.toInt ≤ 2147483647) := kd_bd x3
            have s13 : (((a 118).getD x1.toNatClampNeg 0) - x3).toInt = ((a 118).getD x1.toNatClampNeg 0).toInt - x3.toInt := kd_sub (ok11 c10) (ok12 b11.2 z8.1 kok1)
            refine ft_go mi_k204 2 56 [(0, .ref 116), (1, .int x1), (2, .int x2), (3, .int x3)] [.int (((a 118).getD x1.toNatClampNeg 0) - x3), .int x1, .ref 118] i a q r (by rfl) ?_
            refine ko_iast3 mi_k204.1 (n := 31) (c := 31) (ax := (0, 0, 0, 0, 0)) (mi_k204.2 _ _ (by rfl)) (by rfl) (ksG118 _ _ _ _) (ksA118 _ _ _ _) (hG.I.2.1 118) rfl (ok9 z2.1) (ok10 fi_7424.2 z2.2) ?_
            intro a14 ea14 fa14
            have hJ14 := kG_a3 hG 118 rfl ea14 fa14 (kE_nset (p := 118) (by decide) (ok9 z2.1) (ok13 fi_7424.2 z2.2) (ok14 fi_7424.2 z2.2))
            refine ft_go mi_k204 7 70 [(0, .ref 116), (1, .int x1), (2, .int x2), (3, .int x3)] [.int x2, .ref 118, .int 999, .int x2, .ref 118] i a14 q r (by rfl) ?_
            refine ko_iald3 mi_k204.1 (n := 31) (c := 31) (ax := (0, 0, 0, 0, 0)) (mi_k204.2 _ _ (by rfl)) (by rfl) (ksG118 _ _ _ _) (hJ14.I.2.1 118) rfl (ok9 z4.1) (ok10 fi_7424.2 z4.2) ?_
            have r15 : ((x2.toInt = 18 → (0 : Int) ≤ ((a14 118).getD x2.toNatClampNeg 0).toInt ∧ ((a14 118).getD x2.toNatClampNeg 0).toInt ≤ 5)) ∧ ((19 ≤ x2.toInt → x2.toInt ≤ 24 → (0 : Int) ≤ ((a14 118).getD x2.toNatClampNeg 0).toInt ∧ ((a14 118).getD x2.toNatClampNeg 0).toInt ≤ 7)) := kE_ncond (p := 118) hJ14.I (by decide) (j := x2) (ok9 z4.1)
            have u16 : ((a14 118).getD x2.toNatClampNeg 0).toInt = ((a 118).getD x2.toNatClampNeg 0).toInt := congrArg Int32.toInt ((congrArg (fun z : List Int32 => z.getD x2.toNatClampNeg 0) ea14).trans (kgs_ne (ok9 z4.1) (ok9 z2.1) (ok15 c6)))
            have b17 : ((-2147483648 : Int) ≤ ((a14 118).getD x2.toNatClampNeg 0).toInt) ∧ (((a14 118).getD x2.toNatClampNeg 0).toInt ≤ 2147483647) := kd_bd ((a14 118).getD x2.toNatClampNeg 0)
            refine ft_go mi_k204 2 73 [(0, .ref 116), (1, .int x1), (2, .int x2), (3, .int x3)] [.int (((a14 118).getD x2.toNatClampNeg 0) + x3), .int 999, .int x2, .ref 118] i a14 q r (by rfl) ?_
            have m19 : (((bif decide ((((a14 118).getD x2.toNatClampNeg 0) + x3) < 999) then (((a14 118).getD x2.toNatClampNeg 0) + x3) else 999).toInt ≤ (999 : Int32).toInt) ∧ ((bif decide ((((a14 118).getD x2.toNatClampNeg 0) + x3) < 999) then (((a14 118).getD x2.toNatClampNeg 0) + x3) else 999).toInt ≤ (((a14 118).getD x2.toNatClampNeg 0) + x3).toInt)) ∧ ((bif decide ((((a14 118).getD x2.toNatClampNeg 0) + x3) < 999) then (((a14 118).getD x2.toNatClampNeg 0) + x3) else 999).toInt = (999 : Int32).toInt ∨ (bif decide ((((a14 118).getD x2.toNatClampNeg 0) + x3) < 999) then (((a14 118).getD x2.toNatClampNeg 0) + x3) else 999).toInt = (((a14 118).getD x2.toNatClampNeg 0) + x3).toInt) := kd_min
            refine ft_go mi_k204 1 76 [(0, .ref 116), (1, .int x1), (2, .int x2), (3, .int x3)] [.int (bif decide ((((a14 118).getD x2.toNatClampNeg 0) + x3) < 999) then (((a14 118).getD x2.toNatClampNeg 0) + x3) else 999), .int x2, .ref 118] i a14 q r (by rfl) ?_
            generalize hm18 : (bif decide ((((a14 118).getD x2.toNatClampNeg 0) + x3) < 999) then (((a14 118).getD x2.toNatClampNeg 0) + x3) else 999) = m18 at m19 ⊢
            have qm18 := hm18.symm
            refine ko_iast3 mi_k204.1 (n := 31) (c := 31) (ax := (0, 0, 0, 0, 0)) (mi_k204.2 _ _ (by rfl)) (by rfl) (ksG118 _ _ _ _) (ksA118 _ _ _ _) (hJ14.I.2.1 118) rfl (ok9 z4.1) (ok10 fi_7424.2 z4.2) ?_
            intro a20 ea20 fa20
            have hJ20 := kG_a3 hJ14 118 rfl ea20 fa20 (kE_nset (p := 118) (by decide) (ok9 z4.1) (ok13 fi_7424.2 z4.2) (ok14 fi_7424.2 z4.2))
            refine ft_go mi_k204 4 83 [(0, .ref 116), (1, .int x1), (2, .int x2), (3, .int x3)] [.int 4, .ref 130, .int 4, .ref 130] i a20 q r (by rfl) ?_
            refine ko_iald3 mi_k204.1 (n := 5) (c := 5) (ax := (0, 0, 0, 0, 0)) (mi_k204.2 _ _ (by rfl)) (by rfl) (ksG130 _ _ _ _) (hJ20.I.2.1 130) rfl (ok16 kok4) (ok17 kok4) ?_
            have b21 : ((-2147483648 : Int) ≤ ((a20 130).getD (4 : Int32).toNatClampNeg 0).toInt) ∧ (((a20 130).getD (4 : Int32).toNatClampNeg 0).toInt ≤ 2147483647) := kd_bd ((a20 130).getD (4 : Int32).toNatClampNeg 0)
            refine ft_go mi_k204 2 86 [(0, .ref 116), (1, .int x1), (2, .int x2), (3, .int x3)] [.int (((a20 130).getD (4 : Int32).toNatClampNeg 0) + x3), .int 4, .ref 130] i a20 q r (by rfl) ?_
            refine ko_iast3 mi_k204.1 (n := 5) (c := 5) (ax := (0, 0, 0, 0, 0)) (mi_k204.2 _ _ (by rfl)) (by rfl) (ksG130 _ _ _ _) (ksA130 _ _ _ _) (hJ20.I.2.1 130) rfl (ok16 kok4) (ok17 kok4) ?_
            intro a22 ea22 fa22
            have hJ22 := kG_a3 hJ20 130 rfl ea22 fa22 (kd_bd _)
            refine ft_go mi_k204 3 92 [(0, .ref 116), (1, .int x1), (2, .int x2), (3, .int x3)] [.int x1, .ref 118] i a22 q r (by rfl) ?_
            refine ko_iald3 mi_k204.1 (n := 31) (c := 31) (ax := (0, 0, 0, 0, 0)) (mi_k204.2 _ _ (by rfl)) (by rfl) (ksG118 _ _ _ _) (hJ22.I.2.1 118) rfl (ok9 z2.1) (ok10 fi_7424.2 z2.2) ?_
            have r23 : ((x1.toInt = 18 → (0 : Int) ≤ ((a22 118).getD x1.toNatClampNeg 0).toInt ∧ ((a22 118).getD x1.toNatClampNeg 0).toInt ≤ 5)) ∧ ((19 ≤ x1.toInt → x1.toInt ≤ 24 → (0 : Int) ≤ ((a22 118).getD x1.toNatClampNeg 0).toInt ∧ ((a22 118).getD x1.toNatClampNeg 0).toInt ≤ 7)) := kE_ncond (p := 118) hJ22.I (by decide) (j := x1) (ok9 z2.1)
            have u24 : ((a14 118).getD x1.toNatClampNeg 0).toInt = (((a 118).getD x1.toNatClampNeg 0) - x3).toInt := congrArg Int32.toInt ((congrArg (fun z : List Int32 => z.getD x1.toNatClampNeg 0) ea14).trans (kgs_eq2 (n := 31) (c := 31) (hG.I.2.1 118) rfl (ok9 z2.1) (ok10 fi_7424.2 z2.2)))
            have u25 : ((a20 118).getD x1.toNatClampNeg 0).toInt = ((a14 118).getD x1.toNatClampNeg 0).toInt := congrArg Int32.toInt ((congrArg (fun z : List Int32 => z.getD x1.toNatClampNeg 0) ea20).trans (kgs_ne (ok9 z2.1) (ok9 z4.1) (ok18 c6)))
            have u26 : ((a22 118).getD x1.toNatClampNeg 0).toInt = ((a20 118).getD x1.toNatClampNeg 0).toInt := congrArg (fun z : List Int32 => (z.getD x1.toNatClampNeg 0).toInt) (fa22 118 (by decide))
            exact ft_ret mi_k204 (by rfl) (hP ((a22 118).getD x1.toNatClampNeg 0) _ _ _ _ hJ22 ⟨trivial, ⟨(fun _ => (show a22 118 = (((a 118).set x1.toNatClampNeg ((a 118).getD x1.toNatClampNeg 0 - x3)).set x2.toNatClampNeg (sMn 999 (((a 118).set x1.toNatClampNeg ((a 118).getD x1.toNatClampNeg 0 - x3)).getD x2.toNatClampNeg 0 + x3))) from (by first | rfl | (simp only [fa22 118 (by decide), ea20, ea14, qm18, sMn, sMx]; done) | (simp only [fa22 118 (by decide), ea20, ea14, qm18, sMn, sMx]; rfl)))), (fun _ => (show a22 130 = (a 130).set (4 : Int32).toNatClampNeg ((a 130).getD (4 : Int32).toNatClampNeg 0 + x3) from (by first | rfl | (simp only [ea22, fa20 130 (by decide), fa14 130 (by decide), sMn, sMx]; done) | (simp only [ea22, fa20 130 (by decide), fa14 130 (by decide), sMn, sMx]; rfl)))), (fun _ => (show ((a22 118).getD x1.toNatClampNeg 0) = (((a 118).set x1.toNatClampNeg ((a 118).getD x1.toNatClampNeg 0 - x3)).set x2.toNatClampNeg (sMn 999 (((a 118).set x1.toNatClampNeg ((a 118).getD x1.toNatClampNeg 0 - x3)).getD x2.toNatClampNeg 0 + x3))).getD x1.toNatClampNeg 0 from (by first | rfl | (simp only [fa22 118 (by decide), ea20, ea14, qm18, sMn, sMx]; done) | (simp only [fa22 118 (by decide), ea20, ea14, qm18, sMn, sMx]; rfl)))), (fun h => absurd h (ok19 c10 c6 z2.1 z2.2 z4.1 z4.2 z8.1 z8.2 kok1 kok999)), (fun h => absurd h (ok19 c10 c6 z2.1 z2.2 z4.1 z4.2 z8.1 z8.2 kok1 kok999)), (fun h => absurd h (ok20 c10)), (fun h => absurd h (ok21 c6 z2.1 z2.2 z4.1 z4.2 z8.1 z8.2 kok1 kok999))⟩⟩)
          ·
            have c27 : ((a 118).getD x1.toNatClampNeg 0).toInt < x3.toInt := kd_leF c; clear c
            refine ft_go mi_k204 1 46 [(0, .ref 116), (1, .int x1), (2, .int x2), (3, .int x3)] [.int (-5)] i a q r (by rfl) ?_
            exact ft_ret mi_k204 (by rfl) (hP (-5) _ _ _ _ hG ⟨trivial, ⟨(fun h => absurd h (ok22 c27)), (fun h => absurd h (ok22 c27)), (fun h => absurd h (ok22 c27)), (fun _ => (show a 118 = a 118 from rfl)), (fun _ => (show a 130 = a 130 from rfl)), (fun _ => (show ((-5) : Int32) = -5 from (by first | rfl | (simp only [sMn, sMx]; done) | (simp only [sMn, sMx]; rfl)))), (fun h => absurd h (ok21 c6 z2.1 z2.2 z4.1 z4.2 z8.1 z8.2 kok1 kok999))⟩⟩)
        ·
          subst eg7
          have z28 : ¬ (((1 : Int32).toInt ≤ x3.toInt) ∧ (x3.toInt ≤ (999 : Int32).toInt)) := hg7
          refine ft_go mi_k204 2 33 [(0, .ref 116), (1, .int x1), (2, .int x2), (3, .int x3)] [.int (-1)] i a q r (by rfl) ?_
          exact ft_ret mi_k204 (by rfl) (hP (-1) _ _ _ _ hG ⟨trivial, ⟨(fun h => absurd h (ok23 z28 kok1 kok999)), (fun h => absurd h (ok23 z28 kok1 kok999)), (fun h => absurd h (ok23 z28 kok1 kok999)), (fun _ => (show a 118 = a 118 from rfl)), (fun _ => (show a 130 = a 130 from rfl)), (fun h => absurd h (ok24 z28 kok1 kok999)), (fun _ => (show ((-1) : Int32) = -1 from (by first | rfl | (simp only [sMn, sMx]; done) | (simp only [sMn, sMx]; rfl))))⟩⟩)
    ·
      subst eg3
      have z29 : ¬ (((0 : Int) ≤ x2.toInt) ∧ (x2.toInt < (i 7424).toInt)) := hg3
      refine ft_go mi_k204 2 33 [(0, .ref 116), (1, .int x1), (2, .int x2), (3, .int x3)] [.int (-1)] i a q r (by rfl) ?_
      exact ft_ret mi_k204 (by rfl) (hP (-1) _ _ _ _ hG ⟨trivial, ⟨(fun h => absurd h (ok25 z29)), (fun h => absurd h (ok25 z29)), (fun h => absurd h (ok25 z29)), (fun _ => (show a 118 = a 118 from rfl)), (fun _ => (show a 130 = a 130 from rfl)), (fun h => absurd h (ok26 z29)), (fun _ => (show ((-1) : Int32) = -1 from (by first | rfl | (simp only [sMn, sMx]; done) | (simp only [sMn, sMx]; rfl))))⟩⟩)
  ·
    subst eg1
    have z30 : ¬ (((0 : Int) ≤ x1.toInt) ∧ (x1.toInt < (i 7424).toInt)) := hg1
    refine ft_go mi_k204 2 33 [(0, .ref 116), (1, .int x1), (2, .int x2), (3, .int x3)] [.int (-1)] i a q r (by rfl) ?_
    exact ft_ret mi_k204 (by rfl) (hP (-1) _ _ _ _ hG ⟨trivial, ⟨(fun h => absurd h (ok27 z30)), (fun h => absurd h (ok27 z30)), (fun h => absurd h (ok27 z30)), (fun _ => (show a 118 = a 118 from rfl)), (fun _ => (show a 130 = a 130 from rfl)), (fun h => absurd h (ok28 z30)), (fun _ => (show ((-1) : Int32) = -1 from (by first | rfl | (simp only [sMn, sMx]; done) | (simp only [sMn, sMx]; rfl))))⟩⟩)
