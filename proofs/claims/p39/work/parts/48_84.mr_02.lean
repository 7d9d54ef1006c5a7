set_option maxRecDepth 100000 in
theorem ke87_0 {i : Nat → Int32} {a : Nat → List Int32} {q : Nat → List Int64} {r : Nat → Nat} (hI : kI i a q) (hr : kr r) (x1 : Int32) (x2 : Int32) : km 3 87 [.ref 0, .int x1, .int x2] (ks i a q r) (kPI (ks i a q r) (fun v => (True) ∧ ((¬ (((0 : Int) ≤ x1.toInt) ∧ ((0 : Int) ≤ x2.toInt) ∧ (x2.toInt ≤ 1)) → v = -1) ∧ (((0 : Int) ≤ x1.toInt) ∧ ((0 : Int) ≤ x2.toInt) ∧ (x2.toInt ≤ 1) ∧ ((i 450).toInt ≤ x1.toInt) → v = -2) ∧ (((0 : Int) ≤ x1.toInt) ∧ ((0 : Int) ≤ x2.toInt) ∧ (x2.toInt ≤ 1) ∧ (x2.toInt = 0) ∧ (x1.toInt < (i 450).toInt) → v = (a 8).getD x1.toNatClampNeg 0) ∧ (((0 : Int) ≤ x1.toInt) ∧ ((0 : Int) ≤ x2.toInt) ∧ (x2.toInt ≤ 1) ∧ (x2.toInt = 1) ∧ (x1.toInt < (i 450).toInt) → v = (a 9).getD x1.toNatClampNeg 0)))) := by
  have hG := kG_self kW0 hI hr
  refine km_ofPI (q := (mi_h87, mi_c87)) rfl (by decide) (Nat.le_of_ble_eq_true rfl) ?_
  intro P hP
  refine ft_go mi_k87 1 1 [(0, .ref 0), (1, .int x1), (2, .int x2)] [.int x1] i a q r (by rfl) ?_
  refine ft_if mi_k87 (decide (x1 < 0)) 13 4 [(0, .ref 0), (1, .int x1), (2, .int x2)] [] (by rfl) (fun c => ?_) (fun c => ?_)
  ·
    have c1 : x1.toInt < (0 : Int32).toInt := kd_lt c; clear c
    refine ft_go mi_k87 1 14 [(0, .ref 0), (1, .int x1), (2, .int x2)] [.int (-1)] i a q r (by rfl) ?_
    have fi_450 : ((0 : Int) ≤ (i 450).toInt) ∧ ((i 450).toInt ≤ 5) := hG.I.1 450
    exact ft_ret mi_k87 (by rfl) (hP (-1) ⟨trivial, ⟨(fun _ => (show ((-1) : Int32) = -1 from (by first | rfl | (simp only [sMn, sMx]; done) | (simp only [sMn, sMx]; rfl)))), (fun h => absurd h (orm314 c1 korm0)), (fun h => absurd h (orm315 c1 korm0)), (fun h => absurd h (orm316 c1 korm0))⟩⟩)
  ·
    have c2 : (0 : Int32).toInt ≤ x1.toInt := kd_ltF c; clear c
    refine ft_go mi_k87 3 7 [(0, .ref 0), (1, .int x1), (2, .int x2)] [.int 1, .int 0, .int x2] i a q r (by rfl) ?_
    refine ko_callPI mi_k87.1 (pc := 7) (ls := [(0, .ref 0), (1, .int x1), (2, .int x2)]) (st := [.int 1, .int 0, .int x2]) (h := ks i a q r) (i := (.invokestatic 74, 3, 120, 0, 9, 0, 152)) (mi_k87.2 _ _ (by rfl)) (ft_invS mi_pq120 (by rfl)) (cy := mi_c120) mi_pq120 rfl (kc120 hG.I hG.R x2 0 1) (by decide) ?_
    intro vg3 hg3
    rcases hg3 with ⟨eg3, hg3⟩ | ⟨eg3, hg3⟩
    ·
      subst eg3
      have z4 : ((0 : Int32).toInt ≤ x2.toInt) ∧ (x2.toInt ≤ (1 : Int32).toInt) := hg3
      have fi_450 : ((0 : Int) ≤ (i 450).toInt) ∧ ((i 450).toInt ≤ 5) := hG.I.1 450
      refine ft_go mi_k87 6 26 [(0, .ref 0), (1, .int x1), (2, .int x2)] [.int (i 450), .int x1] i a q r (by rfl) ?_
      refine ft_if mi_k87 (decide (x1 < (i 450))) 32 29 [(0, .ref 0), (1, .int x1), (2, .int x2)] [] (by rfl) (fun c => ?_) (fun c => ?_)
      ·
        have c5 : x1.toInt < (i 450).toInt := kd_lt c; clear c
        refine ft_go mi_k87 1 33 [(0, .ref 0), (1, .int x1), (2, .int x2)] [.int x2] i a q r (by rfl) ?_
        refine ft_if mi_k87 (x2 != 0) 51 36 [(0, .ref 0), (1, .int x1), (2, .int x2)] [] (by rfl) (fun c => ?_) (fun c => ?_)
        ·
          have c6 : x2.toInt ≠ (0 : Int32).toInt := kd_ne c; clear c
          refine ft_go mi_k87 5 62 [(0, .ref 0), (1, .int x1), (2, .int x2)] [.int x1, .ref 9] i a q r (by rfl) ?_
          refine ko_iald3 mi_k87.1 (n := 5) (c := 5) (ax := (0, 0, 0, 0, 0)) (mi_k87.2 _ _ (by rfl)) (by rfl) (ksG9 _ _ _ _) (hG.I.2.1 9) rfl (orm317 c2 korm0) (orm318 c5 fi_450.2) ?_
          exact ft_ret mi_k87 (by rfl) (hP ((a 9).getD x1.toNatClampNeg 0) ⟨trivial, ⟨(fun h => absurd (orm319 c2 z4.1 z4.2 korm0 korm1) h), (fun h => absurd h (orm320 c5)), (fun h => absurd h (orm321 c6 z4.1 korm0)), (fun _ => (show ((a 9).getD x1.toNatClampNeg 0) = (a 9).getD x1.toNatClampNeg 0 from (by first | rfl | (simp only [sMn, sMx]; done) | (simp only [sMn, sMx]; rfl))))⟩⟩)
        ·
          have c7 : x2.toInt = (0 : Int32).toInt := kd_neF c; clear c
          refine ft_go mi_k87 5 47 [(0, .ref 0), (1, .int x1), (2, .int x2)] [.int x1, .ref 8] i a q r (by rfl) ?_
          refine ko_iald3 mi_k87.1 (n := 5) (c := 5) (ax := (0, 0, 0, 0, 0)) (mi_k87.2 _ _ (by rfl)) (by rfl) (ksG8 _ _ _ _) (hG.I.2.1 8) rfl (orm317 c2 korm0) (orm318 c5 fi_450.2) ?_
          refine ft_go mi_k87 1 63 [(0, .ref 0), (1, .int x1), (2, .int x2)] [.int ((a 8).getD x1.toNatClampNeg 0)] i a q r (by rfl) ?_
          exact ft_ret mi_k87 (by rfl) (hP ((a 8).getD x1.toNatClampNeg 0) ⟨trivial, ⟨(fun h => absurd (orm319 c2 z4.1 z4.2 korm0 korm1) h), (fun h => absurd h (orm320 c5)), (fun _ => (show ((a 8).getD x1.toNatClampNeg 0) = (a 8).getD x1.toNatClampNeg 0 from (by first | rfl | (simp only [sMn, sMx]; done) | (simp only [sMn, sMx]; rfl)))), (fun h => absurd h (orm322 c7 korm0))⟩⟩)
      ·
        have c8 : (i 450).toInt ≤ x1.toInt := kd_ltF c; clear c
        refine ft_go mi_k87 1 31 [(0, .ref 0), (1, .int x1), (2, .int x2)] [.int (-2)] i a q r (by rfl) ?_
        exact ft_ret mi_k87 (by rfl) (hP (-2) ⟨trivial, ⟨(fun h => absurd (orm319 c2 z4.1 z4.2 korm0 korm1) h), (fun _ => (show ((-2) : Int32) = -2 from (by first | rfl | (simp only [sMn, sMx]; done) | (simp only [sMn, sMx]; rfl)))), (fun h => absurd h (orm323 c8)), (fun h => absurd h (orm324 c8))⟩⟩)
    ·
      subst eg3
      have z9 : ¬ (((0 : Int32).toInt ≤ x2.toInt) ∧ (x2.toInt ≤ (1 : Int32).toInt)) := hg3
      refine ft_go mi_k87 2 14 [(0, .ref 0), (1, .int x1), (2, .int x2)] [.int (-1)] i a q r (by rfl) ?_
      have fi_450 : ((0 : Int) ≤ (i 450).toInt) ∧ ((i 450).toInt ≤ 5) := hG.I.1 450
      exact ft_ret mi_k87 (by rfl) (hP (-1) ⟨trivial, ⟨(fun _ => (show ((-1) : Int32) = -1 from (by first | rfl | (simp only [sMn, sMx]; done) | (simp only [sMn, sMx]; rfl)))), (fun h => absurd h (orm325 z9 korm0 korm1)), (fun h => absurd h (orm326 z9 korm0 korm1)), (fun h => absurd h (orm327 z9 korm0 korm1))⟩⟩)
set_option maxRecDepth 100000 in
theorem ke164_116 {i : Nat → Int32} {a : Nat → List Int32} {q : Nat → List Int64} {r : Nat → Nat} (hI : kI i a q) (hr : kr r) (x1 : Int32) (x2 : Int32) : km 3 164 [.ref 116, .int x1, .int x2] (ks i a q r) (kPI (ks i a q r) (fun v => (True) ∧ ((¬ (((0 : Int) ≤ x1.toInt) ∧ ((0 : Int) ≤ x2.toInt) ∧ (x2.toInt ≤ 1)) → v = -1) ∧ (((0 : Int) ≤ x1.toInt) ∧ ((0 : Int) ≤ x2.toInt) ∧ (x2.toInt ≤ 1) ∧ (((a 118).getD (18 : Int32).toNatClampNeg 0).toInt ≤ x1.toInt) → v = -2) ∧ (((0 : Int) ≤ x1.toInt) ∧ ((0 : Int) ≤ x2.toInt) ∧ (x2.toInt ≤ 1) ∧ (x2.toInt = 0) ∧ (x1.toInt < ((a 118).getD (18 : Int32).toNatClampNeg 0).toInt) → v = (a 118).getD (19 + 6 * x2 + x1).toNatClampNeg 0) ∧ (((0 : Int) ≤ x1.toInt) ∧ ((0 : Int) ≤ x2.toInt) ∧ (x2.toInt ≤ 1) ∧ (x2.toInt = 1) ∧ (x1.toInt < ((a 118).getD (18 : Int32).toNatClampNeg 0).toInt) → v = (a 118).getD (19 + 6 * x2 + x1).toNatClampNeg 0)))) := by
  have hG := kG_self kW0 hI hr
  refine km_ofPI (q := (mi_h164, mi_c164)) rfl (by decide) (Nat.le_of_ble_eq_true rfl) ?_
  intro P hP
  refine ft_go mi_k164 1 1 [(0, .ref 116), (1, .int x1), (2, .int x2)] [.int x1] i a q r (by rfl) ?_
  refine ft_if mi_k164 (decide (x1 < 0)) 13 4 [(0, .ref 116), (1, .int x1), (2, .int x2)] [] (by rfl) (fun c => ?_) (fun c => ?_)
  ·
    have c1 : x1.toInt < (0 : Int32).toInt := kd_lt c; clear c
    refine ft_go mi_k164 1 14 [(0, .ref 116), (1, .int x1), (2, .int x2)] [.int (-1)] i a q r (by rfl) ?_
    have r2 : ((0 : Int) ≤ ((a 118).getD (18 : Int32).toNatClampNeg 0).toInt) ∧ (((a 118).getD (18 : Int32).toNatClampNeg 0).toInt ≤ 5) := kE_n18 (p := 118) hG.I (by decide)
    exact ft_ret mi_k164 (by rfl) (hP (-1) ⟨trivial, ⟨(fun _ => (show ((-1) : Int32) = -1 from (by first | rfl | (simp only [sMn, sMx]; done) | (simp only [sMn, sMx]; rfl)))), (fun h => absurd h (orm314 c1 korm0)), (fun h => absurd h (orm315 c1 korm0)), (fun h => absurd h (orm316 c1 korm0))⟩⟩)
  ·
    have c3 : (0 : Int32).toInt ≤ x1.toInt := kd_ltF c; clear c
    refine ft_go mi_k164 3 7 [(0, .ref 116), (1, .int x1), (2, .int x2)] [.int 1, .int 0, .int x2] i a q r (by rfl) ?_
    refine ko_callPI mi_k164.1 (pc := 7) (ls := [(0, .ref 116), (1, .int x1), (2, .int x2)]) (st := [.int 1, .int 0, .int x2]) (h := ks i a q r) (i := (.invokestatic 119, 3, 131, 0, 9, 0, 379)) (mi_k164.2 _ _ (by rfl)) (ft_invS mi_pq131 (by rfl)) (cy := mi_c131) mi_pq131 rfl (kc131 hG.I hG.R x2 0 1) (by decide) ?_
    intro vg4 hg4
    rcases hg4 with ⟨eg4, hg4⟩ | ⟨eg4, hg4⟩
    ·
      subst eg4
      have z5 : ((0 : Int32).toInt ≤ x2.toInt) ∧ (x2.toInt ≤ (1 : Int32).toInt) := hg4
      refine ft_go mi_k164 5 22 [(0, .ref 116), (1, .int x1), (2, .int x2)] [.int 18, .ref 118, .int x1] i a q r (by rfl) ?_
      refine ko_iald3 mi_k164.1 (n := 31) (c := 31) (ax := (0, 0, 0, 0, 0)) (mi_k164.2 _ _ (by rfl)) (by rfl) (ksG118 _ _ _ _) (hG.I.2.1 118) rfl (orm328 korm18) (orm329 korm18) ?_
      have r6 : ((0 : Int) ≤ ((a 118).getD (18 : Int32).toNatClampNeg 0).toInt) ∧ (((a 118).getD (18 : Int32).toNatClampNeg 0).toInt ≤ 5) := kE_n18 (p := 118) hG.I (by decide)
      refine ft_if mi_k164 (decide (x1 < ((a 118).getD (18 : Int32).toNatClampNeg 0))) 31 26 [(0, .ref 116), (1, .int x1), (2, .int x2)] [] (by rfl) (fun c => ?_) (fun c => ?_)
      ·
        have c7 : x1.toInt < ((a 118).getD (18 : Int32).toNatClampNeg 0).toInt := kd_lt c; clear c
        have s8 : (6 * x2).toInt = 6 * x2.toInt := kd_cmul 6 korm6 (orm330 z5.1 korm0) (orm331 z5.2 korm1)
        have s9 : (19 + (6 * x2)).toInt = (19 : Int32).toInt + (6 * x2).toInt := kd_add (orm332 s8 z5.1 korm0 korm19) (orm333 s8 z5.2 korm1 korm19)
        have s10 : ((19 + (6 * x2)) + x1).toInt = (19 + (6 * x2)).toInt + x1.toInt := kd_add (orm334 c3 s8 s9 z5.1 korm0 korm19) (orm335 c7 r6.2 s8 s9 z5.2 korm19 korm1)
        refine ft_go mi_k164 9 44 [(0, .ref 116), (1, .int x1), (2, .int x2)] [.int ((19 + (6 * x2)) + x1), .ref 118] i a q r (by rfl) ?_
        refine ko_iald3 mi_k164.1 (n := 31) (c := 31) (ax := (0, 0, 0, 0, 0)) (mi_k164.2 _ _ (by rfl)) (by rfl) (ksG118 _ _ _ _) (hG.I.2.1 118) rfl (orm336 c3 s10 s8 s9 z5.1 korm0 korm19) (orm337 c7 r6.2 s10 s8 s9 z5.2 korm19 korm1) ?_
        have r11 : ((((19 + (6 * x2)) + x1).toInt = 18 → (0 : Int) ≤ ((a 118).getD ((19 + (6 * x2)) + x1).toNatClampNeg 0).toInt ∧ ((a 118).getD ((19 + (6 * x2)) + x1).toNatClampNeg 0).toInt ≤ 5)) ∧ ((19 ≤ ((19 + (6 * x2)) + x1).toInt → ((19 + (6 * x2)) + x1).toInt ≤ 24 → (0 : Int) ≤ ((a 118).getD ((19 + (6 * x2)) + x1).toNatClampNeg 0).toInt ∧ ((a 118).getD ((19 + (6 * x2)) + x1).toNatClampNeg 0).toInt ≤ 7)) := kE_ncond (p := 118) hG.I (by decide) (j := ((19 + (6 * x2)) + x1)) (orm336 c3 s10 s8 s9 z5.1 korm0 korm19)
        exact ft_ret mi_k164 (by rfl) (hP ((a 118).getD ((19 + (6 * x2)) + x1).toNatClampNeg 0) ⟨trivial, ⟨(fun h => absurd (orm319 c3 z5.1 z5.2 korm0 korm1) h), (fun h => absurd h (orm320 c7)), (fun hc => (show ((a 118).getD ((19 + (6 * x2)) + x1).toNatClampNeg 0) = (a 118).getD (19 + 6 * x2 + x1).toNatClampNeg 0 from (by first | rfl | (simp only [sMn, sMx]; done) | (simp only [sMn, sMx]; rfl)))), (fun hc => (show ((a 118).getD ((19 + (6 * x2)) + x1).toNatClampNeg 0) = (a 118).getD (19 + 6 * x2 + x1).toNatClampNeg 0 from (by first | rfl | (simp only [sMn, sMx]; done) | (simp only [sMn, sMx]; rfl))))⟩⟩)
      ·
        have c12 : ((a 118).getD (18 : Int32).toNatClampNeg 0).toInt ≤ x1.toInt := kd_ltF c; clear c
        refine ft_go mi_k164 2 45 [(0, .ref 116), (1, .int x1), (2, .int x2)] [.int (-2)] i a q r (by rfl) ?_
        exact ft_ret mi_k164 (by rfl) (hP (-2) ⟨trivial, ⟨(fun h => absurd (orm319 c3 z5.1 z5.2 korm0 korm1) h), (fun _ => (show ((-2) : Int32) = -2 from (by first | rfl | (simp only [sMn, sMx]; done) | (simp only [sMn, sMx]; rfl)))), (fun h => absurd h (orm323 c12)), (fun h => absurd h (orm324 c12))⟩⟩)
    ·
      subst eg4
      have z13 : ¬ (((0 : Int32).toInt ≤ x2.toInt) ∧ (x2.toInt ≤ (1 : Int32).toInt)) := hg4
      refine ft_go mi_k164 2 14 [(0, .ref 116), (1, .int x1), (2, .int x2)] [.int (-1)] i a q r (by rfl) ?_
      have r14 : ((0 : Int) ≤ ((a 118).getD (18 : Int32).toNatClampNeg 0).toInt) ∧ (((a 118).getD (18 : Int32).toNatClampNeg 0).toInt ≤ 5) := kE_n18 (p := 118) hG.I (by decide)
      exact ft_ret mi_k164 (by rfl) (hP (-1) ⟨trivial, ⟨(fun _ => (show ((-1) : Int32) = -1 from (by first | rfl | (simp only [sMn, sMx]; done) | (simp only [sMn, sMx]; rfl)))), (fun h => absurd h (orm325 z13 korm0 korm1)), (fun h => absurd h (orm326 z13 korm0 korm1)), (fun h => absurd h (orm327 z13 korm0 korm1))⟩⟩)
set_option maxRecDepth 100000 in
theorem ke105_0 {i : Nat → Int32} {a : Nat → List Int32} {q : Nat → List Int64} {r : Nat → Nat} (hI : kI i a q) (hr : kr r) (x1 : Int32) : km 3 105 [.ref 0, .int x1] (ks i a q r) (kPI (ks i a q r) (fun v => (True) ∧ ((((0 : Int) ≤ x1.toInt) ∧ (x1.toInt ≤ 4) → v = (a 14).getD x1.toNatClampNeg 0) ∧ (¬ (((0 : Int) ≤ x1.toInt) ∧ (x1.toInt ≤ 4)) → v = -1)))) := by
  have hG := kG_self kW0 hI hr
  refine km_ofPI (q := (mi_h105, mi_c105)) rfl (by decide) (Nat.le_of_ble_eq_true rfl) ?_
  intro P hP
  refine ft_go mi_k105 3 3 [(0, .ref 0), (1, .int x1)] [.int 4, .int 0, .int x1] i a q r (by rfl) ?_
  refine ko_callPI mi_k105.1 (pc := 3) (ls := [(0, .ref 0), (1, .int x1)]) (st := [.int 4, .int 0, .int x1]) (h := ks i a q r) (i := (.invokestatic 74, 3, 120, 0, 9, 0, 152)) (mi_k105.2 _ _ (by rfl)) (ft_invS mi_pq120 (by rfl)) (cy := mi_c120) mi_pq120 rfl (kc120 hG.I hG.R x1 0 4) (by decide) ?_
  intro vg1 hg1
  rcases hg1 with ⟨eg1, hg1⟩ | ⟨eg1, hg1⟩
  ·
    subst eg1
    have z2 : ((0 : Int32).toInt ≤ x1.toInt) ∧ (x1.toInt ≤ (4 : Int32).toInt) := hg1
    refine ft_go mi_k105 5 17 [(0, .ref 0), (1, .int x1)] [.int x1, .ref 14] i a q r (by rfl) ?_
    refine ko_iald3 mi_k105.1 (n := 5) (c := 5) (ax := (0, 0, 0, 0, 0)) (mi_k105.2 _ _ (by rfl)) (by rfl) (ksG14 _ _ _ _) (hG.I.2.1 14) rfl (orm317 z2.1 korm0) (orm338 z2.2 korm4) ?_
    refine ft_go mi_k105 1 22 [(0, .ref 0), (1, .int x1)] [.int ((a 14).getD x1.toNatClampNeg 0)] i a q r (by rfl) ?_
    exact ft_ret mi_k105 (by rfl) (hP ((a 14).getD x1.toNatClampNeg 0) ⟨trivial, ⟨(fun _ => (show ((a 14).getD x1.toNatClampNeg 0) = (a 14).getD x1.toNatClampNeg 0 from (by first | rfl | (simp only [sMn, sMx]; done) | (simp only [sMn, sMx]; rfl)))), (fun h => absurd (orm339 z2.1 z2.2 korm0 korm4) h)⟩⟩)
  ·
    subst eg1
    have z3 : ¬ (((0 : Int32).toInt ≤ x1.toInt) ∧ (x1.toInt ≤ (4 : Int32).toInt)) := hg1
    refine ft_go mi_k105 2 22 [(0, .ref 0), (1, .int x1)] [.int (-1)] i a q r (by rfl) ?_
    exact ft_ret mi_k105 (by rfl) (hP (-1) ⟨trivial, ⟨(fun h => absurd h (orm340 z3 korm0 korm4)), (fun _ => (show ((-1) : Int32) = -1 from (by first | rfl | (simp only [sMn, sMx]; done) | (simp only [sMn, sMx]; rfl))))⟩⟩)
set_option maxRecDepth 100000 in
theorem ke205_116 {i : Nat → Int32} {a : Nat → List Int32} {q : Nat → List Int64} {r : Nat → Nat} (hI : kI i a q) (hr : kr r) (x1 : Int32) : km 3 205 [.ref 116, .int x1] (ks i a q r) (kPI (ks i a q r) (fun v => (True) ∧ ((((0 : Int) ≤ x1.toInt) ∧ (x1.toInt ≤ 4) → v = (a 130).getD x1.toNatClampNeg 0) ∧ (¬ (((0 : Int) ≤ x1.toInt) ∧ (x1.toInt ≤ 4)) → v = -1)))) := by
  have hG := kG_self kW0 hI hr
  refine km_ofPI (q := (mi_h205, mi_c205)) rfl (by decide) (Nat.le_of_ble_eq_true rfl) ?_
  intro P hP
  refine ft_go mi_k205 3 3 [(0, .ref 116), (1, .int x1)] [.int 4, .int 0, .int x1] i a q r (by rfl) ?_
  refine ko_callPI mi_k205.1 (pc := 3) (ls := [(0, .ref 116), (1, .int x1)]) (st := [.int 4, .int 0, .int x1]) (h := ks i a q r) (i := (.invokestatic 119, 3, 131, 0, 9, 0, 379)) (mi_k205.2 _ _ (by rfl)) (ft_invS mi_pq131 (by rfl)) (cy := mi_c131) mi_pq131 rfl (kc131 hG.I hG.R x1 0 4) (by decide) ?_
  intro vg1 hg1
  rcases hg1 with ⟨eg1, hg1⟩ | ⟨eg1, hg1⟩
  ·
    subst eg1
    have z2 : ((0 : Int32).toInt ≤ x1.toInt) ∧ (x1.toInt ≤ (4 : Int32).toInt) := hg1
    refine ft_go mi_k205 4 14 [(0, .ref 116), (1, .int x1)] [.int x1, .ref 130] i a q r (by rfl) ?_
    refine ko_iald3 mi_k205.1 (n := 5) (c := 5) (ax := (0, 0, 0, 0, 0)) (mi_k205.2 _ _ (by rfl)) (by rfl) (ksG130 _ _ _ _) (hG.I.2.1 130) rfl (orm317 z2.1 korm0) (orm338 z2.2 korm4) ?_
    refine ft_go mi_k205 1 19 [(0, .ref 116), (1, .int x1)] [.int ((a 130).getD x1.toNatClampNeg 0)] i a q r (by rfl) ?_
    exact ft_ret mi_k205 (by rfl) (hP ((a 130).getD x1.toNatClampNeg 0) ⟨trivial, ⟨(fun _ => (show ((a 130).getD x1.toNatClampNeg 0) = (a 130).getD x1.toNatClampNeg 0 from (by first | rfl | (simp only [sMn, sMx]; done) | (simp only [sMn, sMx]; rfl)))), (fun h => absurd (orm339 z2.1 z2.2 korm0 korm4) h)⟩⟩)
  ·
    subst eg1
    have z3 : ¬ (((0 : Int32).toInt ≤ x1.toInt) ∧ (x1.toInt ≤ (4 : Int32).toInt)) := hg1
    refine ft_go mi_k205 2 19 [(0, .ref 116), (1, .int x1)] [.int (-1)] i a q r (by rfl) ?_
    exact ft_ret mi_k205 (by rfl) (hP (-1) ⟨trivial, ⟨(fun h => absurd h (orm340 z3 korm0 korm4)), (fun _ => (show ((-1) : Int32) = -1 from (by first | rfl | (simp only [sMn, sMx]; done) | (simp only [sMn, sMx]; rfl))))⟩⟩)
set_option maxRecDepth 100000 in
theorem ke119_0 {i : Nat → Int32} {a : Nat → List Int32} {q : Nat → List Int64} {r : Nat → Nat} (hI : kI i a q) (hr : kr r) (x1 : Int32) : km 1 119 [.ref 0, .int x1] (ks i a q r) (kPI (ks i a q r) (fun v => (True) ∧ ((x1.toInt = 0 → v = i 64) ∧ (x1.toInt = 1 → v = i 450) ∧ (x1.toInt = 2 → v = i 6273) ∧ (x1.toInt = 3 → v = i 5701) ∧ (x1.toInt = 4 → v = i 6017) ∧ (x1.toInt = 5 → v = i 6019) ∧ ((x1.toInt < 0) ∨ ((5 : Int) < x1.toInt) → v = -1)))) := by
  have hG := kG_self kW0 hI hr
  refine km_ofPI (q := (mi_h119, mi_c119)) rfl (by decide) (Nat.le_of_ble_eq_true rfl) ?_
  intro P hP
  refine ft_go mi_k119 1 1 [(0, .ref 0), (1, .int x1)] [.int x1] i a q r (by rfl) ?_
  by_cases w1 : x1.toInt = 0
  ·
    refine ko_eq (x1 := (1, [(0, .ref 0), (1, .int x1)], [.int 0], (0, 0), ks i a q r)) (by rw [(kj_eq w1 (by decide) : x1 = 0)]) ?_
    have fi_64 : ((0 : Int) ≤ (i 64).toInt) ∧ ((i 64).toInt ≤ 8) := hG.I.1 64
    refine ft_go mi_k119 4 47 [(0, .ref 0), (1, .int x1)] [.int (i 64)] i a q r (by rfl) ?_
    exact ft_ret mi_k119 (by rfl) (hP (i 64) ⟨trivial, ⟨(fun _ => (show (i 64) = i 64 from (by first | rfl | (simp only [sMn, sMx]; done) | (simp only [sMn, sMx]; rfl)))), (fun h => absurd h (orm341 w1)), (fun h => absurd h (orm342 w1)), (fun h => absurd h (orm343 w1)), (fun h => absurd h (orm344 w1)), (fun h => absurd h (orm345 w1)), (fun h => absurd h (orm346 w1))⟩⟩)
  by_cases w2 : x1.toInt = 1
  ·
    refine ko_eq (x1 := (1, [(0, .ref 0), (1, .int x1)], [.int 1], (0, 0), ks i a q r)) (by rw [(kj_eq w2 (by decide) : x1 = 1)]) ?_
    have fi_450 : ((0 : Int) ≤ (i 450).toInt) ∧ ((i 450).toInt ≤ 5) := hG.I.1 450
    refine ft_go mi_k119 5 58 [(0, .ref 0), (1, .int x1)] [.int (i 450)] i a q r (by rfl) ?_
    exact ft_ret mi_k119 (by rfl) (hP (i 450) ⟨trivial, ⟨(fun h => absurd h (orm13 w2)), (fun _ => (show (i 450) = i 450 from (by first | rfl | (simp only [sMn, sMx]; done) | (simp only [sMn, sMx]; rfl)))), (fun h => absurd h (orm347 w2)), (fun h => absurd h (orm348 w2)), (fun h => absurd h (orm14 w2)), (fun h => absurd h (orm15 w2)), (fun h => absurd h (orm349 w2))⟩⟩)
  by_cases w3 : x1.toInt = 2
  ·
    refine ko_eq (x1 := (1, [(0, .ref 0), (1, .int x1)], [.int 2], (0, 0), ks i a q r)) (by rw [(kj_eq w3 (by decide) : x1 = 2)]) ?_
    have fi_6273 : ((0 : Int) ≤ (i 6273).toInt) ∧ ((i 6273).toInt ≤ 120) := hG.I.1 6273
    refine ft_go mi_k119 4 66 [(0, .ref 0), (1, .int x1)] [.int (i 6273)] i a q r (by rfl) ?_
    exact ft_ret mi_k119 (by rfl) (hP (i 6273) ⟨trivial, ⟨(fun h => absurd h (orm23 w3)), (fun h => absurd h (orm350 w3)), (fun _ => (show (i 6273) = i 6273 from (by first | rfl | (simp only [sMn, sMx]; done) | (simp only [sMn, sMx]; rfl)))), (fun h => absurd h (orm351 w3)), (fun h => absurd h (orm24 w3)), (fun h => absurd h (orm25 w3)), (fun h => absurd h (orm352 w3))⟩⟩)
  by_cases w4 : x1.toInt = 3
  ·
    refine ko_eq (x1 := (1, [(0, .ref 0), (1, .int x1)], [.int 3], (0, 0), ks i a q r)) (by rw [(kj_eq w4 (by decide) : x1 = 3)]) ?_
    have fi_5701 : ((0 : Int) ≤ (i 5701).toInt) ∧ ((i 5701).toInt ≤ 40) := hG.I.1 5701
    refine ft_go mi_k119 4 74 [(0, .ref 0), (1, .int x1)] [.int (i 5701)] i a q r (by rfl) ?_
    exact ft_ret mi_k119 (by rfl) (hP (i 5701) ⟨trivial, ⟨(fun h => absurd h (orm33 w4)), (fun h => absurd h (orm353 w4)), (fun h => absurd h (orm354 w4)), (fun _ => (show (i 5701) = i 5701 from (by first | rfl | (simp only [sMn, sMx]; done) | (simp only [sMn, sMx]; rfl)))), (fun h => absurd h (orm34 w4)), (fun h => absurd h (orm35 w4)), (fun h => absurd h (orm355 w4))⟩⟩)
  by_cases w5 : x1.toInt = 4
  ·
    refine ko_eq (x1 := (1, [(0, .ref 0), (1, .int x1)], [.int 4], (0, 0), ks i a q r)) (by rw [(kj_eq w5 (by decide) : x1 = 4)]) ?_
    have fi_6017 : ((0 : Int) ≤ (i 6017).toInt) ∧ ((i 6017).toInt ≤ 50) := hG.I.1 6017
    refine ft_go mi_k119 4 82 [(0, .ref 0), (1, .int x1)] [.int (i 6017)] i a q r (by rfl) ?_
    exact ft_ret mi_k119 (by rfl) (hP (i 6017) ⟨trivial, ⟨(fun h => absurd h (orm38 w5)), (fun h => absurd h (orm356 w5)), (fun h => absurd h (orm357 w5)), (fun h => absurd h (orm358 w5)), (fun _ => (show (i 6017) = i 6017 from (by first | rfl | (simp only [sMn, sMx]; done) | (simp only [sMn, sMx]; rfl)))), (fun h => absurd h (orm359 w5)), (fun h => absurd h (orm360 w5))⟩⟩)
  by_cases w6 : x1.toInt = 5
  ·
    refine ko_eq (x1 := (1, [(0, .ref 0), (1, .int x1)], [.int 5], (0, 0), ks i a q r)) (by rw [(kj_eq w6 (by decide) : x1 = 5)]) ?_
    have fi_6019 : ((0 : Int) ≤ (i 6019).toInt) ∧ ((i 6019).toInt ≤ 1000) := hG.I.1 6019
    refine ft_go mi_k119 4 90 [(0, .ref 0), (1, .int x1)] [.int (i 6019)] i a q r (by rfl) ?_
    exact ft_ret mi_k119 (by rfl) (hP (i 6019) ⟨trivial, ⟨(fun h => absurd h (orm41 w6)), (fun h => absurd h (orm361 w6)), (fun h => absurd h (orm362 w6)), (fun h => absurd h (orm363 w6)), (fun h => absurd h (orm42 w6)), (fun _ => (show (i 6019) = i 6019 from (by first | rfl | (simp only [sMn, sMx]; done) | (simp only [sMn, sMx]; rfl)))), (fun h => absurd h (orm364 w6))⟩⟩)
  refine ko_sw (ls := [(0, .ref 0), (1, .int x1)]) (r := []) (h := ks i a q r) mi_in119 (v := x1) (i := (.tableswitch 90 0 5 #[39, 47, 58, 66, 74, 82], 39, 0, 0, 0, 0, 0)) (by rfl) rfl (orm365 w1 w2 w3 w4 w5 w6) 91 (by rfl) ?_
  refine ft_go mi_k119 1 92 [(0, .ref 0), (1, .int x1)] [.int (-1)] i a q r (by rfl) ?_
  exact ft_ret mi_k119 (by rfl) (hP (-1) ⟨trivial, ⟨(fun h => absurd h (orm366 w1)), (fun h => absurd h (orm367 w1 w2)), (fun h => absurd h (orm368 w1 w2 w3)), (fun h => absurd h (orm369 w1 w2 w3 w4)), (fun h => absurd h (orm370 w1 w2 w3 w4 w5)), (fun h => absurd h (orm371 w1 w2 w3 w4 w5 w6)), (fun _ => (show ((-1) : Int32) = -1 from (by first | rfl | (simp only [sMn, sMx]; done) | (simp only [sMn, sMx]; rfl))))⟩⟩)
set_option maxRecDepth 100000 in
theorem ke225_116 {i : Nat → Int32} {a : Nat → List Int32} {q : Nat → List Int64} {r : Nat → Nat} (hI : kI i a q) (hr : kr r) (x1 : Int32) : km 1 225 [.ref 116, .int x1] (ks i a q r) (kPI (ks i a q r) (fun v => (True) ∧ ((x1.toInt = 0 → v = i 7424) ∧ (x1.toInt = 1 → v = (a 118).getD (18 : Int32).toNatClampNeg 0) ∧ (x1.toInt = 2 → v = i 7429) ∧ (x1.toInt = 3 → v = i 7453) ∧ (x1.toInt = 4 → v = i 7455) ∧ (x1.toInt = 5 → v = i 7457) ∧ ((x1.toInt < 0) ∨ ((5 : Int) < x1.toInt) → v = -1)))) := by
  have hG := kG_self kW0 hI hr
  refine km_ofPI (q := (mi_h225, mi_c225)) rfl (by decide) (Nat.le_of_ble_eq_true rfl) ?_
  intro P hP
  refine ft_go mi_k225 1 1 [(0, .ref 116), (1, .int x1)] [.int x1] i a q r (by rfl) ?_
  by_cases w1 : x1.toInt = 0
  ·
    refine ko_eq (x1 := (1, [(0, .ref 116), (1, .int x1)], [.int 0], (0, 0), ks i a q r)) (by rw [(kj_eq w1 (by decide) : x1 = 0)]) ?_
    have fi_7424 : ((0 : Int) ≤ (i 7424).toInt) ∧ ((i 7424).toInt ≤ 8) := hG.I.1 7424
    refine ft_go mi_k225 3 44 [(0, .ref 116), (1, .int x1)] [.int (i 7424)] i a q r (by rfl) ?_
    exact ft_ret mi_k225 (by rfl) (hP (i 7424) ⟨trivial, ⟨(fun _ => (show (i 7424) = i 7424 from (by first | rfl | (simp only [sMn, sMx]; done) | (simp only [sMn, sMx]; rfl)))), (fun h => absurd h (orm341 w1)), (fun h => absurd h (orm342 w1)), (fun h => absurd h (orm343 w1)), (fun h => absurd h (orm344 w1)), (fun h => absurd h (orm345 w1)), (fun h => absurd h (orm346 w1))⟩⟩)
  by_cases w2 : x1.toInt = 1
  ·
    refine ko_eq (x1 := (1, [(0, .ref 116), (1, .int x1)], [.int 1], (0, 0), ks i a q r)) (by rw [(kj_eq w2 (by decide) : x1 = 1)]) ?_
    refine ft_go mi_k225 4 51 [(0, .ref 116), (1, .int x1)] [.int 18, .ref 118] i a q r (by rfl) ?_
    refine ko_iald3 mi_k225.1 (n := 31) (c := 31) (ax := (0, 0, 0, 0, 0)) (mi_k225.2 _ _ (by rfl)) (by rfl) (ksG118 _ _ _ _) (hG.I.2.1 118) rfl (orm328 korm18) (orm329 korm18) ?_
    have r3 : ((0 : Int) ≤ ((a 118).getD (18 : Int32).toNatClampNeg 0).toInt) ∧ (((a 118).getD (18 : Int32).toNatClampNeg 0).toInt ≤ 5) := kE_n18 (p := 118) hG.I (by decide)
    exact ft_ret mi_k225 (by rfl) (hP ((a 118).getD (18 : Int32).toNatClampNeg 0) ⟨trivial, ⟨(fun h => absurd h (orm13 w2)), (fun _ => (show ((a 118).getD (18 : Int32).toNatClampNeg 0) = (a 118).getD (18 : Int32).toNatClampNeg 0 from (by first | rfl | (simp only [sMn, sMx]; done) | (simp only [sMn, sMx]; rfl)))), (fun h => absurd h (orm347 w2)), (fun h => absurd h (orm348 w2)), (fun h => absurd h (orm14 w2)), (fun h => absurd h (orm15 w2)), (fun h => absurd h (orm349 w2))⟩⟩)
  by_cases w4 : x1.toInt = 2
  ·
    refine ko_eq (x1 := (1, [(0, .ref 116), (1, .int x1)], [.int 2], (0, 0), ks i a q r)) (by rw [(kj_eq w4 (by decide) : x1 = 2)]) ?_
    have fi_7429 : ((0 : Int) ≤ (i 7429).toInt) ∧ ((i 7429).toInt ≤ 120) := hG.I.1 7429
    refine ft_go mi_k225 3 57 [(0, .ref 116), (1, .int x1)] [.int (i 7429)] i a q r (by rfl) ?_
    exact ft_ret mi_k225 (by rfl) (hP (i 7429) ⟨trivial, ⟨(fun h => absurd h (orm23 w4)), (fun h => absurd h (orm350 w4)), (fun _ => (show (i 7429) = i 7429 from (by first | rfl | (simp only [sMn, sMx]; done) | (simp only [sMn, sMx]; rfl)))), (fun h => absurd h (orm351 w4)), (fun h => absurd h (orm24 w4)), (fun h => absurd h (orm25 w4)), (fun h => absurd h (orm352 w4))⟩⟩)
  by_cases w5 : x1.toInt = 3
  ·
    refine ko_eq (x1 := (1, [(0, .ref 116), (1, .int x1)], [.int 3], (0, 0), ks i a q r)) (by rw [(kj_eq w5 (by decide) : x1 = 3)]) ?_
    have fi_7453 : ((0 : Int) ≤ (i 7453).toInt) ∧ ((i 7453).toInt ≤ 40) := hG.I.1 7453
    refine ft_go mi_k225 3 62 [(0, .ref 116), (1, .int x1)] [.int (i 7453)] i a q r (by rfl) ?_
    exact ft_ret mi_k225 (by rfl) (hP (i 7453) ⟨trivial, ⟨(fun h => absurd h (orm33 w5)), (fun h => absurd h (orm353 w5)), (fun h => absurd h (orm354 w5)), (fun _ => (show (i 7453) = i 7453 from (by first | rfl | (simp only [sMn, sMx]; done) | (simp only [sMn, sMx]; rfl)))), (fun h => absurd h (orm34 w5)), (fun h => absurd h (orm35 w5)), (fun h => absurd h (orm355 w5))⟩⟩)
  by_cases w6 : x1.toInt = 4
  ·
    refine ko_eq (x1 := (1, [(0, .ref 116), (1, .int x1)], [.int 4], (0, 0), ks i a q r)) (by rw [(kj_eq w6 (by decide) : x1 = 4)]) ?_
    have fi_7455 : ((0 : Int) ≤ (i 7455).toInt) ∧ ((i 7455).toInt ≤ 50) := hG.I.1 7455
    refine ft_go mi_k225 3 67 [(0, .ref 116), (1, .int x1)] [.int (i 7455)] i a q r (by rfl) ?_
    exact ft_ret mi_k225 (by rfl) (hP (i 7455) ⟨trivial, ⟨(fun h => absurd h (orm38 w6)), (fun h => absurd h (orm356 w6)), (fun h => absurd h (orm357 w6)), (fun h => absurd h (orm358 w6)), (fun _ => (show (i 7455) = i 7455 from (by first | rfl | (simp only [sMn, sMx]; done) | (simp only [sMn, sMx]; rfl)))), (fun h => absurd h (orm359 w6)), (fun h => absurd h (orm360 w6))⟩⟩)
  by_cases w7 : x1.toInt = 5
  ·
    refine ko_eq (x1 := (1, [(0, .ref 116), (1, .int x1)], [.int 5], (0, 0), ks i a q r)) (by rw [(kj_eq w7 (by decide) : x1 = 5)]) ?_
    have fi_7457 : ((0 : Int) ≤ (i 7457).toInt) ∧ ((i 7457).toInt ≤ 1000) := hG.I.1 7457
    refine ft_go mi_k225 3 72 [(0, .ref 116), (1, .int x1)] [.int (i 7457)] i a q r (by rfl) ?_
    exact ft_ret mi_k225 (by rfl) (hP (i 7457) ⟨trivial, ⟨(fun h => absurd h (orm41 w7)), (fun h => absurd h (orm361 w7)), (fun h => absurd h (orm362 w7)), (fun h => absurd h (orm363 w7)), (fun h => absurd h (orm42 w7)), (fun _ => (show (i 7457) = i 7457 from (by first | rfl | (simp only [sMn, sMx]; done) | (simp only [sMn, sMx]; rfl)))), (fun h => absurd h (orm364 w7))⟩⟩)
  refine ko_sw (ls := [(0, .ref 116), (1, .int x1)]) (r := []) (h := ks i a q r) mi_in225 (v := x1) (i := (.tableswitch 72 0 5 #[39, 44, 52, 57, 62, 67], 39, 0, 0, 0, 0, 0)) (by rfl) rfl (orm365 w1 w2 w4 w5 w6 w7) 73 (by rfl) ?_
  refine ft_go mi_k225 1 74 [(0, .ref 116), (1, .int x1)] [.int (-1)] i a q r (by rfl) ?_
  exact ft_ret mi_k225 (by rfl) (hP (-1) ⟨trivial, ⟨(fun h => absurd h (orm366 w1)), (fun h => absurd h (orm367 w1 w2)), (fun h => absurd h (orm368 w1 w2 w4)), (fun h => absurd h (orm369 w1 w2 w4 w5)), (fun h => absurd h (orm370 w1 w2 w4 w5 w6)), (fun h => absurd h (orm371 w1 w2 w4 w5 w6 w7)), (fun _ => (show ((-1) : Int32) = -1 from (by first | rfl | (simp only [sMn, sMx]; done) | (simp only [sMn, sMx]; rfl))))⟩⟩)
def yw3_31_7 : kW := ([1986], [32, 33], [], [])
set_option maxRecDepth 100000 in
theorem ke3_31_7 {i : Nat → Int32} {a : Nat → List Int32} {q : Nat → List Int64} {r : Nat → Nat} (hI : kI i a q) (hr : kr r)  : km 1 3 [.ref 31, .ref 7] (ks i a q r) (kVN yw3_31_7 i a q r (fun i1 a1 q1 r1 => (True) ∧ (a1 32 = mi_cpy (a 8) (a 32) (0 : Int32).toNatClampNeg (0 : Int32).toNatClampNeg (5 : Int32).toNatClampNeg ∧ a1 33 = mi_cpy (a 9) (a 33) (0 : Int32).toNatClampNeg (0 : Int32).toNatClampNeg (5 : Int32).toNatClampNeg ∧ i1 1986 = i 450))) := by
  have hG := kG_self yw3_31_7 hI hr
  refine km_ofN (q := (mi_h3, mi_c3)) rfl (by decide) (Nat.le_of_ble_eq_true rfl) ?_
  intro P hP
  refine ft_go mi_k3 7 11 [(0, .ref 31), (1, .ref 7)] [.int 5, .int 0, .ref 32, .int 0, .ref 8] i a q r (by rfl) ?_
  refine ko_copyI3 mi_k3.1 (n := 5) (c := 5) (m := 5) (b := 5) (mi_k3.2 _ _ (by rfl)) (by rfl) (by rfl) (by rfl) (ksG8 _ _ _ _) (ksG32 _ _ _ _) (ksA32 _ _ _ _) (hG.I.2.1 8) rfl (hG.I.2.1 32) rfl (orm373 korm5) (orm284 korm0) (orm284 korm0) (orm374 korm0 korm5) (orm374 korm0 korm5) ?_
  intro a2 ea2 fa2
  have hJ2 := kG_al3 hG 32 rfl ea2 fa2 (kcpy_len2 (n := 5) (c := 5) (m := 5) (b := 5) (sp := 0) (dp := 0) (n1 := 5) (hG.I.2.1 8) rfl (hG.I.2.1 32) rfl (orm373 korm5) (orm284 korm0) (orm284 korm0) (orm374 korm0 korm5) (orm374 korm0 korm5)) (fun _ => kd_bd _)
  refine ft_go mi_k3 7 25 [(0, .ref 31), (1, .ref 7)] [.int 5, .int 0, .ref 33, .int 0, .ref 9] i a2 q r (by rfl) ?_
  refine ko_copyI3 mi_k3.1 (n := 5) (c := 5) (m := 5) (b := 5) (mi_k3.2 _ _ (by rfl)) (by rfl) (by rfl) (by rfl) (ksG9 _ _ _ _) (ksG33 _ _ _ _) (ksA33 _ _ _ _) (hJ2.I.2.1 9) rfl (hJ2.I.2.1 33) rfl (orm373 korm5) (orm284 korm0) (orm284 korm0) (orm374 korm0 korm5) (orm374 korm0 korm5) ?_
  intro a4 ea4 fa4
  have hJ4 := kG_al3 hJ2 33 rfl ea4 fa4 (kcpy_len2 (n := 5) (c := 5) (m := 5) (b := 5) (sp := 0) (dp := 0) (n1 := 5) (hJ2.I.2.1 9) rfl (hJ2.I.2.1 33) rfl (orm373 korm5) (orm284 korm0) (orm284 korm0) (orm374 korm0 korm5) (orm374 korm0 korm5)) (fun _ => kd_bd _)
  have fi_450 : ((0 : Int) ≤ (i 450).toInt) ∧ ((i 450).toInt ≤ 5) := hJ4.I.1 450
  have hJ5 := kG_i hJ4 1986 rfl (v := (i 450)) ⟨(orm0 fi_450.1), (orm375 fi_450.2)⟩
  refine ft_go mi_k3 4 36 [(0, .ref 31), (1, .ref 7)] [] (ku i 1986 (i 450)) a4 q r (by rfl) ?_
  exact ft_ret mi_k3 (by rfl) (hP  _ _ _ _ hJ5 ⟨trivial, ⟨(show a4 32 = mi_cpy (a 8) (a 32) (0 : Int32).toNatClampNeg (0 : Int32).toNatClampNeg (5 : Int32).toNatClampNeg from (by first | rfl | (simp only [fa4 32 (by decide), ea2, sMn, sMx]; done) | (simp only [fa4 32 (by decide), ea2, sMn, sMx]; rfl))), (show a4 33 = mi_cpy (a 9) (a 33) (0 : Int32).toNatClampNeg (0 : Int32).toNatClampNeg (5 : Int32).toNatClampNeg from (by first | rfl | (simp only [ea4, fa2 9 (by decide), fa2 33 (by decide), sMn, sMx]; done) | (simp only [ea4, fa2 9 (by decide), fa2 33 (by decide), sMn, sMx]; rfl))), (show (i 450) = i 450 from (by first | rfl | (simp only [sMn, sMx]; done) | (simp only [sMn, sMx]; rfl)))⟩⟩)
def yw33_25_1 : kW := ([1608, 1609, 1986], [26, 30, 32, 33, 38], [], [])
set_option maxRecDepth 100000 in
theorem ke33_25_1 {i : Nat → Int32} {a : Nat → List Int32} {q : Nat → List Int64} {r : Nat → Nat} (hI : kI i a q) (hr : kr r) (x2 : Int32) : km 3 33 [.ref 25, .ref 1, .int x2] (ks i a q r) (kVN yw33_25_1 i a q r (fun i1 a1 q1 r1 => (True) ∧ (a1 26 = mi_cpy (a 2) (a 26) (0 : Int32).toNatClampNeg (0 : Int32).toNatClampNeg (sMx 0 (sMn x2 8)).toNatClampNeg ∧ a1 30 = mi_cpy (a 6) (a 30) (0 : Int32).toNatClampNeg (0 : Int32).toNatClampNeg (sMx 0 (sMn x2 8)).toNatClampNeg ∧ a1 38 = mi_cpy (a 14) (a 38) (0 : Int32).toNatClampNeg (0 : Int32).toNatClampNeg (5 : Int32).toNatClampNeg ∧ i1 1608 = i 72 ∧ i1 1609 = i 73 ∧ a1 32 = mi_cpy (a 8) (a 32) (0 : Int32).toNatClampNeg (0 : Int32).toNatClampNeg (5 : Int32).toNatClampNeg ∧ a1 33 = mi_cpy (a 9) (a 33) (0 : Int32).toNatClampNeg (0 : Int32).toNatClampNeg (5 : Int32).toNatClampNeg ∧ i1 1986 = i 450))) := by
  have hG := kG_self yw33_25_1 hI hr
  refine km_ofN (q := (mi_h33, mi_c33)) rfl (by decide) (Nat.le_of_ble_eq_true rfl) ?_
  intro P hP
  refine ft_go mi_k33 3 4 [(0, .ref 25), (1, .ref 1), (2, .int x2)] [.int 8, .int x2, .int 0] i a q r (by rfl) ?_
  have m2 : (((bif decide (8 < x2) then 8 else x2).toInt ≤ x2.toInt) ∧ ((bif decide (8 < x2) then 8 else x2).toInt ≤ (8 : Int32).toInt)) ∧ ((bif decide (8 < x2) then 8 else x2).toInt = x2.toInt ∨ (bif decide (8 < x2) then 8 else x2).toInt = (8 : Int32).toInt) := kd_min
  refine ft_go mi_k33 1 7 [(0, .ref 25), (1, .ref 1), (2, .int x2)] [.int (bif decide (8 < x2) then 8 else x2), .int 0] i a q r (by rfl) ?_
  generalize hm1 : (bif decide (8 < x2) then 8 else x2) = m1 at m2 ⊢
  have qm1 := hm1.symm
  have m4 : (((0 : Int32).toInt ≤ (bif decide (0 < m1) then m1 else 0).toInt) ∧ (m1.toInt ≤ (bif decide (0 < m1) then m1 else 0).toInt)) ∧ ((bif decide (0 < m1) then m1 else 0).toInt = (0 : Int32).toInt ∨ (bif decide (0 < m1) then m1 else 0).toInt = m1.toInt) := kd_max
  refine ft_go mi_k33 1 10 [(0, .ref 25), (1, .ref 1), (2, .int x2)] [.int (bif decide (0 < m1) then m1 else 0)] i a q r (by rfl) ?_
  generalize hm3 : (bif decide (0 < m1) then m1 else 0) = m3 at m4 ⊢
  have qm3 := hm3.symm
  refine ft_go mi_k33 8 22 [(3, .int m3), (0, .ref 25), (1, .ref 1), (2, .int x2)] [.int m3, .int 0, .ref 26, .int 0, .ref 2] i a q r (by rfl) ?_
  refine ko_copyI3 mi_k33.1 (n := 8) (c := 8) (m := 8) (b := 8) (mi_k33.2 _ _ (by rfl)) (by rfl) (by rfl) (by rfl) (ksG2 _ _ _ _) (ksG26 _ _ _ _) (ksA26 _ _ _ _) (hG.I.2.1 2) rfl (hG.I.2.1 26) rfl (orm317 m4.1.1 korm0) (orm284 korm0) (orm284 korm0) (orm372 m2.1.2 m4.2 korm8 korm0) (orm372 m2.1.2 m4.2 korm8 korm0) ?_
  intro a6 ea6 fa6
  have hJ6 := kG_al3 hG 26 rfl ea6 fa6 (kcpy_len2 (n := 8) (c := 8) (m := 8) (b := 8) (sp := 0) (dp := 0) (n1 := m3) (hG.I.2.1 2) rfl (hG.I.2.1 26) rfl (orm317 m4.1.1 korm0) (orm284 korm0) (orm284 korm0) (orm372 m2.1.2 m4.2 korm8 korm0) (orm372 m2.1.2 m4.2 korm8 korm0)) (fun _ => kd_bd _)
  refine ft_go mi_k33 7 36 [(3, .int m3), (0, .ref 25), (1, .ref 1), (2, .int x2)] [.int m3, .int 0, .ref 30, .int 0, .ref 6] i a6 q r (by rfl) ?_
  refine ko_copyI3 mi_k33.1 (n := 8) (c := 8) (m := 8) (b := 8) (mi_k33.2 _ _ (by rfl)) (by rfl) (by rfl) (by rfl) (ksG6 _ _ _ _) (ksG30 _ _ _ _) (ksA30 _ _ _ _) (hJ6.I.2.1 6) rfl (hJ6.I.2.1 30) rfl (orm317 m4.1.1 korm0) (orm284 korm0) (orm284 korm0) (orm372 m2.1.2 m4.2 korm8 korm0) (orm372 m2.1.2 m4.2 korm8 korm0) ?_
  intro a8 ea8 fa8
  have hJ8 := kG_al3 hJ6 30 rfl ea8 fa8 (kcpy_len2 (n := 8) (c := 8) (m := 8) (b := 8) (sp := 0) (dp := 0) (n1 := m3) (hJ6.I.2.1 6) rfl (hJ6.I.2.1 30) rfl (orm317 m4.1.1 korm0) (orm284 korm0) (orm284 korm0) (orm372 m2.1.2 m4.2 korm8 korm0) (orm372 m2.1.2 m4.2 korm8 korm0)) (fun _ => kd_bd _)
  refine ft_go mi_k33 7 50 [(3, .int m3), (0, .ref 25), (1, .ref 1), (2, .int x2)] [.int 5, .int 0, .ref 38, .int 0, .ref 14] i a8 q r (by rfl) ?_
  refine ko_copyI3 mi_k33.1 (n := 5) (c := 5) (m := 5) (b := 5) (mi_k33.2 _ _ (by rfl)) (by rfl) (by rfl) (by rfl) (ksG14 _ _ _ _) (ksG38 _ _ _ _) (ksA38 _ _ _ _) (hJ8.I.2.1 14) rfl (hJ8.I.2.1 38) rfl (orm373 korm5) (orm284 korm0) (orm284 korm0) (orm374 korm0 korm5) (orm374 korm0 korm5) ?_
  intro a10 ea10 fa10
  have hJ10 := kG_al3 hJ8 38 rfl ea10 fa10 (kcpy_len2 (n := 5) (c := 5) (m := 5) (b := 5) (sp := 0) (dp := 0) (n1 := 5) (hJ8.I.2.1 14) rfl (hJ8.I.2.1 38) rfl (orm373 korm5) (orm284 korm0) (orm284 korm0) (orm374 korm0 korm5) (orm374 korm0 korm5)) (fun _ => kd_bd _)
  have hJ11 := kG_i hJ10 1608 rfl (v := (i 72)) (kd_bd _)
  have hJ12 := kG_i hJ11 1609 rfl (v := (i 73)) (kd_bd _)
  refine ft_go mi_k33 12 77 [(3, .int m3), (0, .ref 25), (1, .ref 1), (2, .int x2)] [.ref 7, .ref 31] (ku (ku i 1608 (i 72)) 1609 (i 73)) a10 q r (by rfl) ?_
  refine ko_callN mi_k33.1 (pc := 77) (ls := [(3, .int m3), (0, .ref 25), (1, .ref 1), (2, .int x2)]) (st := [.ref 7, .ref 31]) (h := ks (ku (ku i 1608 (i 72)) 1609 (i 73)) a10 q r) (i := (.invokevirtual 139, 3, 3, 0, 9, 0, 217)) (mi_k33.2 _ _ (by rfl)) (ft_invS mi_pq3 (by rfl)) (cy := mi_c3) mi_pq3 rfl (ke3_31_7 hJ12.I hJ12.R ) (by decide) ?_
  intro ig13 ag13 qg13 rg13 kg13 hg13
  have hGg13 := kG_call hJ12 kg13 (by decide +kernel)
  obtain ⟨hg13, og13⟩ := hg13
  have q14 : ag13 32 = mi_cpy (a10 8) (a10 32) (0 : Int32).toNatClampNeg (0 : Int32).toNatClampNeg (5 : Int32).toNatClampNeg := og13.1
  have q15 : ag13 33 = mi_cpy (a10 9) (a10 33) (0 : Int32).toNatClampNeg (0 : Int32).toNatClampNeg (5 : Int32).toNatClampNeg := og13.2.1
  have q16 : ig13 1986 = i 450 := og13.2.2
  exact ft_ret mi_k33 (by rfl) (hP  _ _ _ _ hGg13 ⟨trivial, ⟨(show ag13 26 = mi_cpy (a 2) (a 26) (0 : Int32).toNatClampNeg (0 : Int32).toNatClampNeg (sMx 0 (sMn x2 8)).toNatClampNeg from (by first | rfl | (simp only [kg13.fa 26 rfl, fa10 26 (by decide), fa8 26 (by decide), ea6, qm3, qm1, sMn, sMx]; done) | (simp only [kg13.fa 26 rfl, fa10 26 (by decide), fa8 26 (by decide), ea6, qm3, qm1, sMn, sMx]; rfl))), (show ag13 30 = mi_cpy (a 6) (a 30) (0 : Int32).toNatClampNeg (0 : Int32).toNatClampNeg (sMx 0 (sMn x2 8)).toNatClampNeg from (by first | rfl | (simp only [kg13.fa 30 rfl, fa10 30 (by decide), ea8, fa6 6 (by decide), fa6 30 (by decide), qm3, qm1, sMn, sMx]; done) | (simp only [kg13.fa 30 rfl, fa10 30 (by decide), ea8, fa6 6 (by decide), fa6 30 (by decide), qm3, qm1, sMn, sMx]; rfl))), (show ag13 38 = mi_cpy (a 14) (a 38) (0 : Int32).toNatClampNeg (0 : Int32).toNatClampNeg (5 : Int32).toNatClampNeg from (by first | rfl | (simp only [kg13.fa 38 rfl, ea10, fa8 14 (by decide), fa8 38 (by decide), fa6 38 (by decide), fa6 14 (by decide), sMn, sMx]; done) | (simp only [kg13.fa 38 rfl, ea10, fa8 14 (by decide), fa8 38 (by decide), fa6 38 (by decide), fa6 14 (by decide), sMn, sMx]; rfl))), (show ig13 1608 = i 72 from (by first | rfl | (simp only [(show ig13 1608 = (i 72) from kg13.fi 1608 rfl), sMn, sMx]; done) | (simp only [(show ig13 1608 = (i 72) from kg13.fi 1608 rfl), sMn, sMx]; rfl))), (show ig13 1609 = i 73 from (by first | rfl | (simp only [(show ig13 1609 = (i 73) from kg13.fi 1609 rfl), sMn, sMx]; done) | (simp only [(show ig13 1609 = (i 73) from kg13.fi 1609 rfl), sMn, sMx]; rfl))), (show ag13 32 = mi_cpy (a 8) (a 32) (0 : Int32).toNatClampNeg (0 : Int32).toNatClampNeg (5 : Int32).toNatClampNeg from (by first | rfl | (simp only [q14, fa10 8 (by decide), fa10 32 (by decide), fa8 32 (by decide), fa6 32 (by decide), fa8 8 (by decide), fa6 8 (by decide), sMn, sMx]; done) | (simp only [q14, fa10 8 (by decide), fa10 32 (by decide), fa8 32 (by decide), fa6 32 (by decide), fa8 8 (by decide), fa6 8 (by decide), sMn, sMx]; rfl))), (show ag13 33 = mi_cpy (a 9) (a 33) (0 : Int32).toNatClampNeg (0 : Int32).toNatClampNeg (5 : Int32).toNatClampNeg from (by first | rfl | (simp only [q15, fa10 9 (by decide), fa10 33 (by decide), fa8 33 (by decide), fa6 33 (by decide), fa8 9 (by decide), fa6 9 (by decide), sMn, sMx]; done) | (simp only [q15, fa10 9 (by decide), fa10 33 (by decide), fa8 33 (by decide), fa6 33 (by decide), fa8 9 (by decide), fa6 9 (by decide), sMn, sMx]; rfl))), (show ig13 1986 = i 450 from (by first | rfl | (simp only [q16, sMn, sMx]; done) | (simp only [q16, sMn, sMx]; rfl)))⟩⟩)
def yw3_7_31 : kW := ([450], [8, 9], [], [])
set_option maxRecDepth 100000 in
theorem ke3_7_31 {i : Nat → Int32} {a : Nat → List Int32} {q : Nat → List Int64} {r : Nat → Nat} (hI : kI i a q) (hr : kr r)  : km 1 3 [.ref 7, .ref 31] (ks i a q r) (kVN yw3_7_31 i a q r (fun i1 a1 q1 r1 => (True) ∧ (a1 8 = mi_cpy (a 32) (a 8) (0 : Int32).toNatClampNeg (0 : Int32).toNatClampNeg (5 : Int32).toNatClampNeg ∧ a1 9 = mi_cpy (a 33) (a 9) (0 : Int32).toNatClampNeg (0 : Int32).toNatClampNeg (5 : Int32).toNatClampNeg ∧ i1 450 = i 1986))) := by
  have hG := kG_self yw3_7_31 hI hr
  refine km_ofN (q := (mi_h3, mi_c3)) rfl (by decide) (Nat.le_of_ble_eq_true rfl) ?_
  intro P hP
  refine ft_go mi_k3 7 11 [(0, .ref 7), (1, .ref 31)] [.int 5, .int 0, .ref 8, .int 0, .ref 32] i a q r (by rfl) ?_
  refine ko_copyI3 mi_k3.1 (n := 5) (c := 5) (m := 5) (b := 5) (mi_k3.2 _ _ (by rfl)) (by rfl) (by rfl) (by rfl) (ksG32 _ _ _ _) (ksG8 _ _ _ _) (ksA8 _ _ _ _) (hG.I.2.1 32) rfl (hG.I.2.1 8) rfl (orm373 korm5) (orm284 korm0) (orm284 korm0) (orm374 korm0 korm5) (orm374 korm0 korm5) ?_
  intro a2 ea2 fa2
  have hJ2 := kG_al3 hG 8 rfl ea2 fa2 (kcpy_len2 (n := 5) (c := 5) (m := 5) (b := 5) (sp := 0) (dp := 0) (n1 := 5) (hG.I.2.1 32) rfl (hG.I.2.1 8) rfl (orm373 korm5) (orm284 korm0) (orm284 korm0) (orm374 korm0 korm5) (orm374 korm0 korm5)) (fun _ => kd_bd _)
  refine ft_go mi_k3 7 25 [(0, .ref 7), (1, .ref 31)] [.int 5, .int 0, .ref 9, .int 0, .ref 33] i a2 q r (by rfl) ?_
  refine ko_copyI3 mi_k3.1 (n := 5) (c := 5) (m := 5) (b := 5) (mi_k3.2 _ _ (by rfl)) (by rfl) (by rfl) (by rfl) (ksG33 _ _ _ _) (ksG9 _ _ _ _) (ksA9 _ _ _ _) (hJ2.I.2.1 33) rfl (hJ2.I.2.1 9) rfl (orm373 korm5) (orm284 korm0) (orm284 korm0) (orm374 korm0 korm5) (orm374 korm0 korm5) ?_
  intro a4 ea4 fa4
  have hJ4 := kG_al3 hJ2 9 rfl ea4 fa4 (kcpy_len2 (n := 5) (c := 5) (m := 5) (b := 5) (sp := 0) (dp := 0) (n1 := 5) (hJ2.I.2.1 33) rfl (hJ2.I.2.1 9) rfl (orm373 korm5) (orm284 korm0) (orm284 korm0) (orm374 korm0 korm5) (orm374 korm0 korm5)) (fun _ => kd_bd _)
  have fi_1986 : ((0 : Int) ≤ (i 1986).toInt) ∧ ((i 1986).toInt ≤ 5) := hJ4.I.1 1986
  have hJ5 := kG_i hJ4 450 rfl (v := (i 1986)) ⟨(orm0 fi_1986.1), (orm375 fi_1986.2)⟩
  refine ft_go mi_k3 4 36 [(0, .ref 7), (1, .ref 31)] [] (ku i 450 (i 1986)) a4 q r (by rfl) ?_
  exact ft_ret mi_k3 (by rfl) (hP  _ _ _ _ hJ5 ⟨trivial, ⟨(show a4 8 = mi_cpy (a 32) (a 8) (0 : Int32).toNatClampNeg (0 : Int32).toNatClampNeg (5 : Int32).toNatClampNeg from (by first | rfl | (simp only [fa4 8 (by decide), ea2, sMn, sMx]; done) | (simp only [fa4 8 (by decide), ea2, sMn, sMx]; rfl))), (show a4 9 = mi_cpy (a 33) (a 9) (0 : Int32).toNatClampNeg (0 : Int32).toNatClampNeg (5 : Int32).toNatClampNeg from (by first | rfl | (simp only [ea4, fa2 33 (by decide), fa2 9 (by decide), sMn, sMx]; done) | (simp only [ea4, fa2 33 (by decide), fa2 9 (by decide), sMn, sMx]; rfl))), (show (i 1986) = i 1986 from (by first | rfl | (simp only [sMn, sMx]; done) | (simp only [sMn, sMx]; rfl)))⟩⟩)
def yw33_1_25 : kW := ([72, 73, 450], [2, 6, 8, 9, 14], [], [])
set_option maxRecDepth 100000 in
theorem ke33_1_25 {i : Nat → Int32} {a : Nat → List Int32} {q : Nat → List Int64} {r : Nat → Nat} (hI : kI i a q) (hr : kr r) (x2 : Int32) : km 3 33 [.ref 1, .ref 25, .int x2] (ks i a q r) (kVN yw33_1_25 i a q r (fun i1 a1 q1 r1 => (True) ∧ (a1 2 = mi_cpy (a 26) (a 2) (0 : Int32).toNatClampNeg (0 : Int32).toNatClampNeg (sMx 0 (sMn x2 8)).toNatClampNeg ∧ a1 6 = mi_cpy (a 30) (a 6) (0 : Int32).toNatClampNeg (0 : Int32).toNatClampNeg (sMx 0 (sMn x2 8)).toNatClampNeg ∧ a1 14 = mi_cpy (a 38) (a 14) (0 : Int32).toNatClampNeg (0 : Int32).toNatClampNeg (5 : Int32).toNatClampNeg ∧ i1 72 = i 1608 ∧ i1 73 = i 1609 ∧ a1 8 = mi_cpy (a 32) (a 8) (0 : Int32).toNatClampNeg (0 : Int32).toNatClampNeg (5 : Int32).toNatClampNeg ∧ a1 9 = mi_cpy (a 33) (a 9) (0 : Int32).toNatClampNeg (0 : Int32).toNatClampNeg (5 : Int32).toNatClampNeg ∧ i1 450 = i 1986))) := by
  have hG := kG_self yw33_1_25 hI hr
  refine km_ofN (q := (mi_h33, mi_c33)) rfl (by decide) (Nat.le_of_ble_eq_true rfl) ?_
  intro P hP
  refine ft_go mi_k33 3 4 [(0, .ref 1), (1, .ref 25), (2, .int x2)] [.int 8, .int x2, .int 0] i a q r (by rfl) ?_
  have m2 : (((bif decide (8 < x2) then 8 else x2).toInt ≤ x2.toInt) ∧ ((bif decide (8 < x2) then 8 else x2).toInt ≤ (8 : Int32).toInt)) ∧ ((bif decide (8 < x2) then 8 else x2).toInt = x2.toInt ∨ (bif decide (8 < x2) then 8 else x2).toInt = (8 : Int32).toInt) := kd_min
  refine ft_go mi_k33 1 7 [(0, .ref 1), (1, .ref 25), (2, .int x2)] [.int (bif decide (8 < x2) then 8 else x2), .int 0] i a q r (by rfl) ?_
  generalize hm1 : (bif decide (8 < x2) then 8 else x2) = m1 at m2 ⊢
  have qm1 := hm1.symm
  have m4 : (((0 : Int32).toInt ≤ (bif decide (0 < m1) then m1 else 0).toInt) ∧ (m1.toInt ≤ (bif decide (0 < m1) then m1 else 0).toInt)) ∧ ((bif decide (0 < m1) then m1 else 0).toInt = (0 : Int32).toInt ∨ (bif decide (0 < m1) then m1 else 0).toInt = m1.toInt) := kd_max
  refine ft_go mi_k33 1 10 [(0, .ref 1), (1, .ref 25), (2, .int x2)] [.int (bif decide (0 < m1) then m1 else 0)] i a q r (by rfl) ?_
  generalize hm3 : (bif decide (0 < m1) then m1 else 0) = m3 at m4 ⊢
  have qm3 := hm3.symm
  refine ft_go mi_k33 8 22 [(3, .int m3), (0, .ref 1), (1, .ref 25), (2, .int x2)] [.int m3, .int 0, .ref 2, .int 0, .ref 26] i a q r (by rfl) ?_
  refine ko_copyI3 mi_k33.1 (n := 8) (c := 8) (m := 8) (b := 8) (mi_k33.2 _ _ (by rfl)) (by rfl) (by rfl) (by rfl) (ksG26 _ _ _ _) (ksG2 _ _ _ _) (ksA2 _ _ _ _) (hG.I.2.1 26) rfl (hG.I.2.1 2) rfl (orm317 m4.1.1 korm0) (orm284 korm0) (orm284 korm0) (orm372 m2.1.2 m4.2 korm8 korm0) (orm372 m2.1.2 m4.2 korm8 korm0) ?_
  intro a6 ea6 fa6
  have hJ6 := kG_al3 hG 2 rfl ea6 fa6 (kcpy_len2 (n := 8) (c := 8) (m := 8) (b := 8) (sp := 0) (dp := 0) (n1 := m3) (hG.I.2.1 26) rfl (hG.I.2.1 2) rfl (orm317 m4.1.1 korm0) (orm284 korm0) (orm284 korm0) (orm372 m2.1.2 m4.2 korm8 korm0) (orm372 m2.1.2 m4.2 korm8 korm0)) (fun _ => kd_bd _)
  refine ft_go mi_k33 7 36 [(3, .int m3), (0, .ref 1), (1, .ref 25), (2, .int x2)] [.int m3, .int 0, .ref 6, .int 0, .ref 30] i a6 q r (by rfl) ?_
  refine ko_copyI3 mi_k33.1 (n := 8) (c := 8) (m := 8) (b := 8) (mi_k33.2 _ _ (by rfl)) (by rfl) (by rfl) (by rfl) (ksG30 _ _ _ _) (ksG6 _ _ _ _) (ksA6 _ _ _ _) (hJ6.I.2.1 30) rfl (hJ6.I.2.1 6) rfl (orm317 m4.1.1 korm0) (orm284 korm0) (orm284 korm0) (orm372 m2.1.2 m4.2 korm8 korm0) (orm372 m2.1.2 m4.2 korm8 korm0) ?_
  intro a8 ea8 fa8
  have hJ8 := kG_al3 hJ6 6 rfl ea8 fa8 (kcpy_len2 (n := 8) (c := 8) (m := 8) (b := 8) (sp := 0) (dp := 0) (n1 := m3) (hJ6.I.2.1 30) rfl (hJ6.I.2.1 6) rfl (orm317 m4.1.1 korm0) (orm284 korm0) (orm284 korm0) (orm372 m2.1.2 m4.2 korm8 korm0) (orm372 m2.1.2 m4.2 korm8 korm0)) (fun _ => kd_bd _)
  refine ft_go mi_k33 7 50 [(3, .int m3), (0, .ref 1), (1, .ref 25), (2, .int x2)] [.int 5, .int 0, .ref 14, .int 0, .ref 38] i a8 q r (by rfl) ?_
  refine ko_copyI3 mi_k33.1 (n := 5) (c := 5) (m := 5) (b := 5) (mi_k33.2 _ _ (by rfl)) (by rfl) (by rfl) (by rfl) (ksG38 _ _ _ _) (ksG14 _ _ _ _) (ksA14 _ _ _ _) (hJ8.I.2.1 38) rfl (hJ8.I.2.1 14) rfl (orm373 korm5) (orm284 korm0) (orm284 korm0) (orm374 korm0 korm5) (orm374 korm0 korm5) ?_
  intro a10 ea10 fa10
  have hJ10 := kG_al3 hJ8 14 rfl ea10 fa10 (kcpy_len2 (n := 5) (c := 5) (m := 5) (b := 5) (sp := 0) (dp := 0) (n1 := 5) (hJ8.I.2.1 38) rfl (hJ8.I.2.1 14) rfl (orm373 korm5) (orm284 korm0) (orm284 korm0) (orm374 korm0 korm5) (orm374 korm0 korm5)) (fun _ => kd_bd _)
  have hJ11 := kG_i hJ10 72 rfl (v := (i 1608)) (kd_bd _)
  have hJ12 := kG_i hJ11 73 rfl (v := (i 1609)) (kd_bd _)
  refine ft_go mi_k33 12 77 [(3, .int m3), (0, .ref 1), (1, .ref 25), (2, .int x2)] [.ref 31, .ref 7] (ku (ku i 72 (i 1608)) 73 (i 1609)) a10 q r (by rfl) ?_
  refine ko_callN mi_k33.1 (pc := 77) (ls := [(3, .int m3), (0, .ref 1), (1, .ref 25), (2, .int x2)]) (st := [.ref 31, .ref 7]) (h := ks (ku (ku i 72 (i 1608)) 73 (i 1609)) a10 q r) (i := (.invokevirtual 139, 3, 3, 0, 9, 0, 217)) (mi_k33.2 _ _ (by rfl)) (ft_invS mi_pq3 (by rfl)) (cy := mi_c3) mi_pq3 rfl (ke3_7_31 hJ12.I hJ12.R ) (by decide) ?_
  intro ig13 ag13 qg13 rg13 kg13 hg13
  have hGg13 := kG_call hJ12 kg13 (by decide +kernel)
  obtain ⟨hg13, og13⟩ := hg13
  have q14 : ag13 8 = mi_cpy (a10 32) (a10 8) (0 : Int32).toNatClampNeg (0 : Int32).toNatClampNeg (5 : Int32).toNatClampNeg := og13.1
  have q15 : ag13 9 = mi_cpy (a10 33) (a10 9) (0 : Int32).toNatClampNeg (0 : Int32).toNatClampNeg (5 : Int32).toNatClampNeg := og13.2.1
  have q16 : ig13 450 = i 1986 := og13.2.2
  exact ft_ret mi_k33 (by rfl) (hP  _ _ _ _ hGg13 ⟨trivial, ⟨(show ag13 2 = mi_cpy (a 26) (a 2) (0 : Int32).toNatClampNeg (0 : Int32).toNatClampNeg (sMx 0 (sMn x2 8)).toNatClampNeg from (by first | rfl | (simp only [kg13.fa 2 rfl, fa10 2 (by decide), fa8 2 (by decide), ea6, qm3, qm1, sMn, sMx]; done) | (simp only [kg13.fa 2 rfl, fa10 2 (by decide), fa8 2 (by decide), ea6, qm3, qm1, sMn, sMx]; rfl))), (show ag13 6 = mi_cpy (a 30) (a 6) (0 : Int32).toNatClampNeg (0 : Int32).toNatClampNeg (sMx 0 (sMn x2 8)).toNatClampNeg from (by first | rfl | (simp only [kg13.fa 6 rfl, fa10 6 (by decide), ea8, fa6 30 (by decide), fa6 6 (by decide), qm3, qm1, sMn, sMx]; done) | (simp only [kg13.fa 6 rfl, fa10 6 (by decide), ea8, fa6 30 (by decide), fa6 6 (by decide), qm3, qm1, sMn, sMx]; rfl))), (show ag13 14 = mi_cpy (a 38) (a 14) (0 : Int32).toNatClampNeg (0 : Int32).toNatClampNeg (5 : Int32).toNatClampNeg from (by first | rfl | (simp only [kg13.fa 14 rfl, ea10, fa8 38 (by decide), fa8 14 (by decide), fa6 14 (by decide), fa6 38 (by decide), sMn, sMx]; done) | (simp only [kg13.fa 14 rfl, ea10, fa8 38 (by decide), fa8 14 (by decide), fa6 14 (by decide), fa6 38 (by decide), sMn, sMx]; rfl))), (show ig13 72 = i 1608 from (by first | rfl | (simp only [(show ig13 72 = (i 1608) from kg13.fi 72 rfl), sMn, sMx]; done) | (simp only [(show ig13 72 = (i 1608) from kg13.fi 72 rfl), sMn, sMx]; rfl))), (show ig13 73 = i 1609 from (by first | rfl | (simp only [(show ig13 73 = (i 1609) from kg13.fi 73 rfl), sMn, sMx]; done) | (simp only [(show ig13 73 = (i 1609) from kg13.fi 73 rfl), sMn, sMx]; rfl))), (show ag13 8 = mi_cpy (a 32) (a 8) (0 : Int32).toNatClampNeg (0 : Int32).toNatClampNeg (5 : Int32).toNatClampNeg from (by first | rfl | (simp only [q14, fa10 32 (by decide), fa10 8 (by decide), fa8 8 (by decide), fa6 8 (by decide), fa8 32 (by decide), fa6 32 (by decide), sMn, sMx]; done) | (simp only [q14, fa10 32 (by decide), fa10 8 (by decide), fa8 8 (by decide), fa6 8 (by decide), fa8 32 (by decide), fa6 32 (by decide), sMn, sMx]; rfl))), (show ag13 9 = mi_cpy (a 33) (a 9) (0 : Int32).toNatClampNeg (0 : Int32).toNatClampNeg (5 : Int32).toNatClampNeg from (by first | rfl | (simp only [q15, fa10 33 (by decide), fa10 9 (by decide), fa8 9 (by decide), fa6 9 (by decide), fa8 33 (by decide), fa6 33 (by decide), sMn, sMx]; done) | (simp only [q15, fa10 33 (by decide), fa10 9 (by decide), fa8 9 (by decide), fa6 9 (by decide), fa8 33 (by decide), fa6 33 (by decide), sMn, sMx]; rfl))), (show ig13 450 = i 1986 from (by first | rfl | (simp only [q16, sMn, sMx]; done) | (simp only [q16, sMn, sMx]; rfl)))⟩⟩)
def yw106_0 : kW := ([2, 1600, 1608, 1609, 1986], [26, 30, 32, 33, 38], [], [])
