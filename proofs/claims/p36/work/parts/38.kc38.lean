set_option maxRecDepth 100000 in
theorem kc10 {i : Nat → Int32} {a : Nat → List Int32} {q : Nat → List Int64} {r : Nat → Nat} (hI : kI i a q) (hr : kr r) (x1 : Int32) (x2 : Int32) : km 1 10 [.int x1, .int x2] (ks i a q r) (kPI (ks i a q r) (fun v => (v = 1 ∧ (True)) ∨ (v = 0 ∧ (True)))) := by
  have hG := kG_self kW0 hI hr
  refine km_ofPI (q := (mi_h10, mi_c10)) rfl (by decide) (Nat.le_of_ble_eq_true rfl) ?_
  intro P hP
  refine ko_steps mi_in10 4 _ (4, [(3, .int 0), (2, .int x1), (0, .int x1), (1, .int x2)], [], (0, 0), ks i a q r) (by rfl) ?_
  have lp1 : ∀ (n : Nat) (l3_1 : Int32) (l2_1 : Int32), (0 : Int) ≤ l3_1.toInt → ((8 - l3_1.toInt)).toNat < n → ko 1 (mi_h10, mi_c10) P (4, [(3, .int l3_1), (2, .int l2_1), (0, .int x1), (1, .int x2)], [], (0, 0), ks i a q r) := by
    intro n
    induction n with
    | zero =>
      intro _ _ _ hm
      exact absurd hm (Nat.not_lt_zero _)
    | succ n ih1 =>
      intro l3_1 l2_1 p1_0 hm1
      refine ko_steps mi_in10 2 _ (7, [(3, .int l3_1), (2, .int l2_1), (0, .int x1), (1, .int x2)], [.int 8, .int l3_1], (0, 0), ks i a q r) (by rfl) ?_
      refine ko_if mi_in10 (decide (8 ≤ l3_1)) 39 10 ([(3, .int l3_1), (2, .int l2_1), (0, .int x1), (1, .int x2)], [], (0, 0), ks i a q r) (by rfl) (fun c => ?_) (fun c => ?_)
      ·
        have c2 : (8 : Int32).toInt ≤ l3_1.toInt := kd_le c; clear c
        refine ko_steps mi_in10 1 _ (40, [(3, .int l3_1), (2, .int l2_1), (0, .int x1), (1, .int x2)], [.int 0], (0, 0), ks i a q r) (by rfl) ?_
        exact ko_ret mi_in10 (by rfl) (hP 0 (Or.inr ⟨rfl, trivial⟩))
      ·
        have c3 : l3_1.toInt < (8 : Int32).toInt := kd_leF c; clear c
        refine ko_steps mi_in10 1 _ (11, [(3, .int l3_1), (2, .int l2_1), (0, .int x1), (1, .int x2)], [.int l2_1], (0, 0), ks i a q r) (by rfl) ?_
        refine ko_if mi_in10 (decide (l2_1 < 0)) 39 14 ([(3, .int l3_1), (2, .int l2_1), (0, .int x1), (1, .int x2)], [], (0, 0), ks i a q r) (by rfl) (fun c => ?_) (fun c => ?_)
        ·
          have c4 : l2_1.toInt < (0 : Int32).toInt := kd_lt c; clear c
          refine ko_steps mi_in10 1 _ (40, [(3, .int l3_1), (2, .int l2_1), (0, .int x1), (1, .int x2)], [.int 0], (0, 0), ks i a q r) (by rfl) ?_
          exact ko_ret mi_in10 (by rfl) (hP 0 (Or.inr ⟨rfl, trivial⟩))
        ·
          have c5 : (0 : Int32).toInt ≤ l2_1.toInt := kd_ltF c; clear c
          refine ko_steps mi_in10 2 _ (17, [(3, .int l3_1), (2, .int l2_1), (0, .int x1), (1, .int x2)], [.int 8, .int l2_1], (0, 0), ks i a q r) (by rfl) ?_
          refine ko_if mi_in10 (decide (8 ≤ l2_1)) 39 20 ([(3, .int l3_1), (2, .int l2_1), (0, .int x1), (1, .int x2)], [], (0, 0), ks i a q r) (by rfl) (fun c => ?_) (fun c => ?_)
          ·
            have c6 : (8 : Int32).toInt ≤ l2_1.toInt := kd_le c; clear c
            refine ko_steps mi_in10 1 _ (40, [(3, .int l3_1), (2, .int l2_1), (0, .int x1), (1, .int x2)], [.int 0], (0, 0), ks i a q r) (by rfl) ?_
            exact ko_ret mi_in10 (by rfl) (hP 0 (Or.inr ⟨rfl, trivial⟩))
          ·
            have c7 : l2_1.toInt < (8 : Int32).toInt := kd_leF c; clear c
            refine ko_steps mi_in10 2 _ (22, [(3, .int l3_1), (2, .int l2_1), (0, .int x1), (1, .int x2)], [.int x2, .int l2_1], (0, 0), ks i a q r) (by rfl) ?_
            refine ko_if mi_in10 (l2_1 != x2) 27 25 ([(3, .int l3_1), (2, .int l2_1), (0, .int x1), (1, .int x2)], [], (0, 0), ks i a q r) (by rfl) (fun c => ?_) (fun c => ?_)
            ·
              have c8 : l2_1.toInt ≠ x2.toInt := kd_ne c; clear c
              refine ko_steps mi_in10 2 _ (31, [(3, .int l3_1), (2, .int l2_1), (0, .int x1), (1, .int x2)], [.int l2_1, .ref (mi_RO + 4)], (0, 0), ks i a q r) (by rfl) ?_
              refine ko_iaro2 mi_in10 (l := [(-1), 0, 0, 2, 1, 3, 0, 4]) (n := 8) (c := 8) (ax := (0, 0, 0, 0, 0)) (by rfl) (by rfl) (by rfl) rfl rfl (oz389 c5 kn0) (oz936 c7 kn8) ?_
              have r9 : ((-1 : Int) ≤ (([(-1), 0, 0, 2, 1, 3, 0, 4] : List Int32).getD l2_1.toNatClampNeg 0).toInt) ∧ ((([(-1), 0, 0, 2, 1, 3, 0, 4] : List Int32).getD l2_1.toNatClampNeg 0).toInt ≤ 4) := kro_rng (lo := -1) (hi := 4) (by decide) (l2_1.toNatClampNeg)
              have s10 : (l3_1 + 1).toInt = l3_1.toInt + (1 : Int32).toInt := kd_add (oz12 p1_0 kn1) (oz474 c3 kn8 kn1)
              refine ko_steps mi_in10 3 _ (4, [(3, .int (l3_1 + 1)), (2, .int (([(-1), 0, 0, 2, 1, 3, 0, 4] : List Int32).getD l2_1.toNatClampNeg 0)), (0, .int x1), (1, .int x2)], [], (0, 0), ks i a q r) (by rfl) ?_
              exact ih1 _ _ (oz14 p1_0 s10 kn1) (kj_meas (oz475 s10 kn1) (oz476 c3 kn8) hm1)
            ·
              have c11 : l2_1.toInt = x2.toInt := kd_neF c; clear c
              refine ko_steps mi_in10 1 _ (26, [(3, .int l3_1), (2, .int l2_1), (0, .int x1), (1, .int x2)], [.int 1], (0, 0), ks i a q r) (by rfl) ?_
              exact ko_ret mi_in10 (by rfl) (hP 1 (Or.inl ⟨rfl, trivial⟩))
  exact lp1 _ _ _ (oz46 kn0) (Nat.lt_succ_self _)
set_option maxRecDepth 100000 in
theorem kc118_0 {i : Nat → Int32} {a : Nat → List Int32} {q : Nat → List Int64} {r : Nat → Nat} (hI : kI i a q) (hr : kr r) (x1 : Int32) (x2 : Int32) : km 5 118 [.ref 0, .int x1, .int x2] (ks i a q r) (kPI (ks i a q r) (fun v => True)) := by
  have hG := kG_self kW0 hI hr
  refine km_ofPI (q := (mi_h118, mi_c118)) rfl (by decide) (Nat.le_of_ble_eq_true rfl) ?_
  intro P hP
  refine ko_steps mi_in118 1 _ (1, [(0, .ref 0), (1, .int x1), (2, .int x2)], [.int x1], (0, 0), ks i a q r) (by rfl) ?_
  refine ko_callPI mi_in118 (pc := 1) (ls := [(0, .ref 0), (1, .int x1), (2, .int x2)]) (st := [.int x1]) (h := ks i a q r) (i := (.invokestatic 70, 3, 121, 0, 9, 0, 157)) (by rfl) (by rfl) (cy := mi_c121) rfl rfl (kc121 hG.I hG.R x1) (by decide) ?_
  intro vg1 hg1
  rcases hg1 with ⟨eg1, hg1⟩ | ⟨eg1, hg1⟩
  ·
    subst eg1
    have z2 : ((0 : Int) ≤ x1.toInt) ∧ (x1.toInt ≤ 5) := hg1
    refine ko_steps mi_in118 4 _ (11, [(0, .ref 0), (1, .int x1), (2, .int x2)], [.int 7, .int 0, .int x2], (0, 0), ks i a q r) (by rfl) ?_
    refine ko_callPI mi_in118 (pc := 11) (ls := [(0, .ref 0), (1, .int x1), (2, .int x2)]) (st := [.int 7, .int 0, .int x2]) (h := ks i a q r) (i := (.invokestatic 74, 3, 120, 0, 9, 0, 152)) (by rfl) (by rfl) (cy := mi_c120) rfl rfl (kc120 hG.I hG.R x2 0 7) (by decide) ?_
    intro vg3 hg3
    rcases hg3 with ⟨eg3, hg3⟩ | ⟨eg3, hg3⟩
    ·
      subst eg3
      have z4 : ((0 : Int32).toInt ≤ x2.toInt) ∧ (x2.toInt ≤ (7 : Int32).toInt) := hg3
      refine ko_steps mi_in118 4 _ (24, [(0, .ref 0), (1, .int x1), (2, .int x2)], [.int x1, .ref 97], (0, 0), ks i a q r) (by rfl) ?_
      by_cases w5 : x1.toInt = 0
      ·
        refine ko_eq (x1 := (24, [(0, .ref 0), (1, .int x1), (2, .int x2)], [.int 0, .ref 97], (0, 0), ks i a q r)) (by rw [(kj_eq w5 (by decide) : x1 = 0)]) ?_
        have fi_6656 : ((0 : Int) ≤ (i 6656).toInt) ∧ ((i 6656).toInt ≤ 2) := hG.I.1 6656
        refine ko_steps mi_in118 4 _ (30, [(3, .ref 104), (0, .ref 0), (1, .int x1), (2, .int x2)], [.int (i 6656)], (0, 0), ks i a q r) (by rfl) ?_
        refine ko_if mi_in118 ((i 6656) != 0) 36 33 ([(3, .ref 104), (0, .ref 0), (1, .int x1), (2, .int x2)], [], (0, 0), ks i a q r) (by rfl) (fun c => ?_) (fun c => ?_)
        ·
          have c6 : (i 6656).toInt ≠ (0 : Int32).toInt := kd_ne c; clear c
          refine ko_steps mi_in118 3 _ (41, [(3, .ref 104), (0, .ref 0), (1, .int x1), (2, .int x2)], [.int 1, .int (i 6656)], (0, 0), ks i a q r) (by rfl) ?_
          refine ko_if mi_in118 ((i 6656) != 1) 58 44 ([(3, .ref 104), (0, .ref 0), (1, .int x1), (2, .int x2)], [], (0, 0), ks i a q r) (by rfl) (fun c => ?_) (fun c => ?_)
          ·
            have c7 : (i 6656).toInt ≠ (1 : Int32).toInt := kd_ne c; clear c
            refine ko_steps mi_in118 1 _ (60, [(3, .ref 104), (0, .ref 0), (1, .int x1), (2, .int x2)], [.int (-12)], (0, 0), ks i a q r) (by rfl) ?_
            exact ko_ret mi_in118 (by rfl) (hP (-12) trivial)
          ·
            have c8 : (i 6656).toInt = (1 : Int32).toInt := kd_neF c; clear c
            refine ko_steps mi_in118 4 _ (52, [(3, .ref 104), (0, .ref 0), (1, .int x1), (2, .int x2)], [.int (i 6657), .ref 94], (0, 0), ks i a q r) (by rfl) ?_
            refine ko_callPI mi_in118 (pc := 52) (ls := [(3, .ref 104), (0, .ref 0), (1, .int x1), (2, .int x2)]) (st := [.int (i 6657), .ref 94]) (h := ks i a q r) (i := (.invokevirtual 301, 3, 8, 0, 9, 0, 304)) (by rfl) (by rfl) (cy := mi_c8) rfl rfl (kc8_94 hG.I hG.R (i 6657)) (by decide) ?_
            intro vg9 hg9
            rcases hg9 with ⟨eg9, hg9⟩ | ⟨eg9, hg9⟩
            ·
              subst eg9
              have fi_6017 : ((0 : Int) ≤ (i 6017).toInt) ∧ ((i 6017).toInt ≤ 50) := hG.I.1 6017
              have z10 : ((0 : Int) ≤ (i 6657).toInt) ∧ ((i 6657).toInt < (i 6017).toInt) := hg9
              refine ko_steps mi_in118 6 _ (72, [(3, .ref 104), (0, .ref 0), (1, .int x1), (2, .int x2)], [.int (i 6657), .ref 95], (0, 0), ks i a q r) (by rfl) ?_
              refine ko_iald3 mi_in118 (n := 50) (c := 50) (ax := (0, 0, 0, 0, 0)) (by rfl) (by rfl) (ksG95 _ _ _ _) (hG.I.2.1 95) rfl (oz3 z10.1) (oz1283 fi_6017.2 z10.2) ?_
              have r11 : ((0 : Int) ≤ ((a 95).getD (i 6657).toNatClampNeg 0).toInt) ∧ (((a 95).getD (i 6657).toNatClampNeg 0).toInt ≤ 7) := hG.I.2.2.1 95 ((i 6657).toNatClampNeg)
              refine ko_steps mi_in118 3 _ (78, [(4, .int ((a 95).getD (i 6657).toNatClampNeg 0)), (3, .ref 104), (0, .ref 0), (1, .int x1), (2, .int x2)], [.int x2, .int ((a 95).getD (i 6657).toNatClampNeg 0)], (0, 0), ks i a q r) (by rfl) ?_
              refine ko_callPI mi_in118 (pc := 78) (ls := [(4, .int ((a 95).getD (i 6657).toNatClampNeg 0)), (3, .ref 104), (0, .ref 0), (1, .int x1), (2, .int x2)]) (st := [.int x2, .int ((a 95).getD (i 6657).toNatClampNeg 0)]) (h := ks i a q r) (i := (.invokestatic 339, 3, 10, 0, 9, 0, 319)) (by rfl) (by rfl) (cy := mi_c10) rfl rfl (kc10 hG.I hG.R ((a 95).getD (i 6657).toNatClampNeg 0) x2) (by decide) ?_
              intro vg12 hg12
              rcases hg12 with ⟨eg12, hg12⟩ | ⟨eg12, hg12⟩
              ·
                subst eg12
                refine ko_steps mi_in118 3 _ (91, [(4, .int ((a 95).getD (i 6657).toNatClampNeg 0)), (3, .ref 104), (0, .ref 0), (1, .int x1), (2, .int x2)], [.int ((a 95).getD (i 6657).toNatClampNeg 0)], (0, 0), ks i a q r) (by rfl) ?_
                exact ko_ret mi_in118 (by rfl) (hP ((a 95).getD (i 6657).toNatClampNeg 0) trivial)
              ·
                subst eg12
                refine ko_steps mi_in118 2 _ (91, [(4, .int ((a 95).getD (i 6657).toNatClampNeg 0)), (3, .ref 104), (0, .ref 0), (1, .int x1), (2, .int x2)], [.int (-12)], (0, 0), ks i a q r) (by rfl) ?_
                exact ko_ret mi_in118 (by rfl) (hP (-12) trivial)
            ·
              subst eg9
              have fi_6017 : ((0 : Int) ≤ (i 6017).toInt) ∧ ((i 6017).toInt ≤ 50) := hG.I.1 6017
              have z13 : ¬ (((0 : Int) ≤ (i 6657).toInt) ∧ ((i 6657).toInt < (i 6017).toInt)) := hg9
              refine ko_steps mi_in118 2 _ (60, [(3, .ref 104), (0, .ref 0), (1, .int x1), (2, .int x2)], [.int (-12)], (0, 0), ks i a q r) (by rfl) ?_
              exact ko_ret mi_in118 (by rfl) (hP (-12) trivial)
        ·
          have c14 : (i 6656).toInt = (0 : Int32).toInt := kd_neF c; clear c
          refine ko_steps mi_in118 1 _ (35, [(3, .ref 104), (0, .ref 0), (1, .int x1), (2, .int x2)], [.int (-11)], (0, 0), ks i a q r) (by rfl) ?_
          exact ko_ret mi_in118 (by rfl) (hP (-11) trivial)
      by_cases w15 : x1.toInt = 1
      ·
        refine ko_eq (x1 := (24, [(0, .ref 0), (1, .int x1), (2, .int x2)], [.int 1, .ref 97], (0, 0), ks i a q r)) (by rw [(kj_eq w15 (by decide) : x1 = 1)]) ?_
        have fi_6784 : ((0 : Int) ≤ (i 6784).toInt) ∧ ((i 6784).toInt ≤ 2) := hG.I.1 6784
        refine ko_steps mi_in118 4 _ (30, [(3, .ref 106), (0, .ref 0), (1, .int x1), (2, .int x2)], [.int (i 6784)], (0, 0), ks i a q r) (by rfl) ?_
        refine ko_if mi_in118 ((i 6784) != 0) 36 33 ([(3, .ref 106), (0, .ref 0), (1, .int x1), (2, .int x2)], [], (0, 0), ks i a q r) (by rfl) (fun c => ?_) (fun c => ?_)
        ·
          have c16 : (i 6784).toInt ≠ (0 : Int32).toInt := kd_ne c; clear c
          refine ko_steps mi_in118 3 _ (41, [(3, .ref 106), (0, .ref 0), (1, .int x1), (2, .int x2)], [.int 1, .int (i 6784)], (0, 0), ks i a q r) (by rfl) ?_
          refine ko_if mi_in118 ((i 6784) != 1) 58 44 ([(3, .ref 106), (0, .ref 0), (1, .int x1), (2, .int x2)], [], (0, 0), ks i a q r) (by rfl) (fun c => ?_) (fun c => ?_)
          ·
            have c17 : (i 6784).toInt ≠ (1 : Int32).toInt := kd_ne c; clear c
            refine ko_steps mi_in118 1 _ (60, [(3, .ref 106), (0, .ref 0), (1, .int x1), (2, .int x2)], [.int (-12)], (0, 0), ks i a q r) (by rfl) ?_
            exact ko_ret mi_in118 (by rfl) (hP (-12) trivial)
          ·
            have c18 : (i 6784).toInt = (1 : Int32).toInt := kd_neF c; clear c
            refine ko_steps mi_in118 4 _ (52, [(3, .ref 106), (0, .ref 0), (1, .int x1), (2, .int x2)], [.int (i 6785), .ref 94], (0, 0), ks i a q r) (by rfl) ?_
            refine ko_callPI mi_in118 (pc := 52) (ls := [(3, .ref 106), (0, .ref 0), (1, .int x1), (2, .int x2)]) (st := [.int (i 6785), .ref 94]) (h := ks i a q r) (i := (.invokevirtual 301, 3, 8, 0, 9, 0, 304)) (by rfl) (by rfl) (cy := mi_c8) rfl rfl (kc8_94 hG.I hG.R (i 6785)) (by decide) ?_
            intro vg19 hg19
            rcases hg19 with ⟨eg19, hg19⟩ | ⟨eg19, hg19⟩
            ·
              subst eg19
              have fi_6017 : ((0 : Int) ≤ (i 6017).toInt) ∧ ((i 6017).toInt ≤ 50) := hG.I.1 6017
              have z20 : ((0 : Int) ≤ (i 6785).toInt) ∧ ((i 6785).toInt < (i 6017).toInt) := hg19
              refine ko_steps mi_in118 6 _ (72, [(3, .ref 106), (0, .ref 0), (1, .int x1), (2, .int x2)], [.int (i 6785), .ref 95], (0, 0), ks i a q r) (by rfl) ?_
              refine ko_iald3 mi_in118 (n := 50) (c := 50) (ax := (0, 0, 0, 0, 0)) (by rfl) (by rfl) (ksG95 _ _ _ _) (hG.I.2.1 95) rfl (oz3 z20.1) (oz1283 fi_6017.2 z20.2) ?_
              have r21 : ((0 : Int) ≤ ((a 95).getD (i 6785).toNatClampNeg 0).toInt) ∧ (((a 95).getD (i 6785).toNatClampNeg 0).toInt ≤ 7) := hG.I.2.2.1 95 ((i 6785).toNatClampNeg)
              refine ko_steps mi_in118 3 _ (78, [(4, .int ((a 95).getD (i 6785).toNatClampNeg 0)), (3, .ref 106), (0, .ref 0), (1, .int x1), (2, .int x2)], [.int x2, .int ((a 95).getD (i 6785).toNatClampNeg 0)], (0, 0), ks i a q r) (by rfl) ?_
              refine ko_callPI mi_in118 (pc := 78) (ls := [(4, .int ((a 95).getD (i 6785).toNatClampNeg 0)), (3, .ref 106), (0, .ref 0), (1, .int x1), (2, .int x2)]) (st := [.int x2, .int ((a 95).getD (i 6785).toNatClampNeg 0)]) (h := ks i a q r) (i := (.invokestatic 339, 3, 10, 0, 9, 0, 319)) (by rfl) (by rfl) (cy := mi_c10) rfl rfl (kc10 hG.I hG.R ((a 95).getD (i 6785).toNatClampNeg 0) x2) (by decide) ?_
              intro vg22 hg22
              rcases hg22 with ⟨eg22, hg22⟩ | ⟨eg22, hg22⟩
              ·
                subst eg22
                refine ko_steps mi_in118 3 _ (91, [(4, .int ((a 95).getD (i 6785).toNatClampNeg 0)), (3, .ref 106), (0, .ref 0), (1, .int x1), (2, .int x2)], [.int ((a 95).getD (i 6785).toNatClampNeg 0)], (0, 0), ks i a q r) (by rfl) ?_
                exact ko_ret mi_in118 (by rfl) (hP ((a 95).getD (i 6785).toNatClampNeg 0) trivial)
              ·
                subst eg22
                refine ko_steps mi_in118 2 _ (91, [(4, .int ((a 95).getD (i 6785).toNatClampNeg 0)), (3, .ref 106), (0, .ref 0), (1, .int x1), (2, .int x2)], [.int (-12)], (0, 0), ks i a q r) (by rfl) ?_
                exact ko_ret mi_in118 (by rfl) (hP (-12) trivial)
            ·
              subst eg19
              have fi_6017 : ((0 : Int) ≤ (i 6017).toInt) ∧ ((i 6017).toInt ≤ 50) := hG.I.1 6017
              have z23 : ¬ (((0 : Int) ≤ (i 6785).toInt) ∧ ((i 6785).toInt < (i 6017).toInt)) := hg19
              refine ko_steps mi_in118 2 _ (60, [(3, .ref 106), (0, .ref 0), (1, .int x1), (2, .int x2)], [.int (-12)], (0, 0), ks i a q r) (by rfl) ?_
              exact ko_ret mi_in118 (by rfl) (hP (-12) trivial)
        ·
          have c24 : (i 6784).toInt = (0 : Int32).toInt := kd_neF c; clear c
          refine ko_steps mi_in118 1 _ (35, [(3, .ref 106), (0, .ref 0), (1, .int x1), (2, .int x2)], [.int (-11)], (0, 0), ks i a q r) (by rfl) ?_
          exact ko_ret mi_in118 (by rfl) (hP (-11) trivial)
      by_cases w25 : x1.toInt = 2
      ·
        refine ko_eq (x1 := (24, [(0, .ref 0), (1, .int x1), (2, .int x2)], [.int 2, .ref 97], (0, 0), ks i a q r)) (by rw [(kj_eq w25 (by decide) : x1 = 2)]) ?_
        have fi_6912 : ((0 : Int) ≤ (i 6912).toInt) ∧ ((i 6912).toInt ≤ 2) := hG.I.1 6912
        refine ko_steps mi_in118 4 _ (30, [(3, .ref 108), (0, .ref 0), (1, .int x1), (2, .int x2)], [.int (i 6912)], (0, 0), ks i a q r) (by rfl) ?_
        refine ko_if mi_in118 ((i 6912) != 0) 36 33 ([(3, .ref 108), (0, .ref 0), (1, .int x1), (2, .int x2)], [], (0, 0), ks i a q r) (by rfl) (fun c => ?_) (fun c => ?_)
        ·
          have c26 : (i 6912).toInt ≠ (0 : Int32).toInt := kd_ne c; clear c
          refine ko_steps mi_in118 3 _ (41, [(3, .ref 108), (0, .ref 0), (1, .int x1), (2, .int x2)], [.int 1, .int (i 6912)], (0, 0), ks i a q r) (by rfl) ?_
          refine ko_if mi_in118 ((i 6912) != 1) 58 44 ([(3, .ref 108), (0, .ref 0), (1, .int x1), (2, .int x2)], [], (0, 0), ks i a q r) (by rfl) (fun c => ?_) (fun c => ?_)
          ·
            have c27 : (i 6912).toInt ≠ (1 : Int32).toInt := kd_ne c; clear c
            refine ko_steps mi_in118 1 _ (60, [(3, .ref 108), (0, .ref 0), (1, .int x1), (2, .int x2)], [.int (-12)], (0, 0), ks i a q r) (by rfl) ?_
            exact ko_ret mi_in118 (by rfl) (hP (-12) trivial)
          ·
            have c28 : (i 6912).toInt = (1 : Int32).toInt := kd_neF c; clear c
            refine ko_steps mi_in118 4 _ (52, [(3, .ref 108), (0, .ref 0), (1, .int x1), (2, .int x2)], [.int (i 6913), .ref 94], (0, 0), ks i a q r) (by rfl) ?_
            refine ko_callPI mi_in118 (pc := 52) (ls := [(3, .ref 108), (0, .ref 0), (1, .int x1), (2, .int x2)]) (st := [.int (i 6913), .ref 94]) (h := ks i a q r) (i := (.invokevirtual 301, 3, 8, 0, 9, 0, 304)) (by rfl) (by rfl) (cy := mi_c8) rfl rfl (kc8_94 hG.I hG.R (i 6913)) (by decide) ?_
            intro vg29 hg29
            rcases hg29 with ⟨eg29, hg29⟩ | ⟨eg29, hg29⟩
            ·
              subst eg29
              have fi_6017 : ((0 : Int) ≤ (i 6017).toInt) ∧ ((i 6017).toInt ≤ 50) := hG.I.1 6017
              have z30 : ((0 : Int) ≤ (i 6913).toInt) ∧ ((i 6913).toInt < (i 6017).toInt) := hg29
              refine ko_steps mi_in118 6 _ (72, [(3, .ref 108), (0, .ref 0), (1, .int x1), (2, .int x2)], [.int (i 6913), .ref 95], (0, 0), ks i a q r) (by rfl) ?_
              refine ko_iald3 mi_in118 (n := 50) (c := 50) (ax := (0, 0, 0, 0, 0)) (by rfl) (by rfl) (ksG95 _ _ _ _) (hG.I.2.1 95) rfl (oz3 z30.1) (oz1283 fi_6017.2 z30.2) ?_
              have r31 : ((0 : Int) ≤ ((a 95).getD (i 6913).toNatClampNeg 0).toInt) ∧ (((a 95).getD (i 6913).toNatClampNeg 0).toInt ≤ 7) := hG.I.2.2.1 95 ((i 6913).toNatClampNeg)
              refine ko_steps mi_in118 3 _ (78, [(4, .int ((a 95).getD (i 6913).toNatClampNeg 0)), (3, .ref 108), (0, .ref 0), (1, .int x1), (2, .int x2)], [.int x2, .int ((a 95).getD (i 6913).toNatClampNeg 0)], (0, 0), ks i a q r) (by rfl) ?_
              refine ko_callPI mi_in118 (pc := 78) (ls := [(4, .int ((a 95).getD (i 6913).toNatClampNeg 0)), (3, .ref 108), (0, .ref 0), (1, .int x1), (2, .int x2)]) (st := [.int x2, .int ((a 95).getD (i 6913).toNatClampNeg 0)]) (h := ks i a q r) (i := (.invokestatic 339, 3, 10, 0, 9, 0, 319)) (by rfl) (by rfl) (cy := mi_c10) rfl rfl (kc10 hG.I hG.R ((a 95).getD (i 6913).toNatClampNeg 0) x2) (by decide) ?_
              intro vg32 hg32
              rcases hg32 with ⟨eg32, hg32⟩ | ⟨eg32, hg32⟩
              ·
                subst eg32
                refine ko_steps mi_in118 3 _ (91, [(4, .int ((a 95).getD (i 6913).toNatClampNeg 0)), (3, .ref 108), (0, .ref 0), (1, .int x1), (2, .int x2)], [.int ((a 95).getD (i 6913).toNatClampNeg 0)], (0, 0), ks i a q r) (by rfl) ?_
                exact ko_ret mi_in118 (by rfl) (hP ((a 95).getD (i 6913).toNatClampNeg 0) trivial)
              ·
                subst eg32
                refine ko_steps mi_in118 2 _ (91, [(4, .int ((a 95).getD (i 6913).toNatClampNeg 0)), (3, .ref 108), (0, .ref 0), (1, .int x1), (2, .int x2)], [.int (-12)], (0, 0), ks i a q r) (by rfl) ?_
                exact ko_ret mi_in118 (by rfl) (hP (-12) trivial)
            ·
              subst eg29
              have fi_6017 : ((0 : Int) ≤ (i 6017).toInt) ∧ ((i 6017).toInt ≤ 50) := hG.I.1 6017
              have z33 : ¬ (((0 : Int) ≤ (i 6913).toInt) ∧ ((i 6913).toInt < (i 6017).toInt)) := hg29
              refine ko_steps mi_in118 2 _ (60, [(3, .ref 108), (0, .ref 0), (1, .int x1), (2, .int x2)], [.int (-12)], (0, 0), ks i a q r) (by rfl) ?_
              exact ko_ret mi_in118 (by rfl) (hP (-12) trivial)
        ·
          have c34 : (i 6912).toInt = (0 : Int32).toInt := kd_neF c; clear c
          refine ko_steps mi_in118 1 _ (35, [(3, .ref 108), (0, .ref 0), (1, .int x1), (2, .int x2)], [.int (-11)], (0, 0), ks i a q r) (by rfl) ?_
          exact ko_ret mi_in118 (by rfl) (hP (-11) trivial)
      by_cases w35 : x1.toInt = 3
      ·
        refine ko_eq (x1 := (24, [(0, .ref 0), (1, .int x1), (2, .int x2)], [.int 3, .ref 97], (0, 0), ks i a q r)) (by rw [(kj_eq w35 (by decide) : x1 = 3)]) ?_
        have fi_7040 : ((0 : Int) ≤ (i 7040).toInt) ∧ ((i 7040).toInt ≤ 2) := hG.I.1 7040
        refine ko_steps mi_in118 4 _ (30, [(3, .ref 110), (0, .ref 0), (1, .int x1), (2, .int x2)], [.int (i 7040)], (0, 0), ks i a q r) (by rfl) ?_
        refine ko_if mi_in118 ((i 7040) != 0) 36 33 ([(3, .ref 110), (0, .ref 0), (1, .int x1), (2, .int x2)], [], (0, 0), ks i a q r) (by rfl) (fun c => ?_) (fun c => ?_)
        ·
          have c36 : (i 7040).toInt ≠ (0 : Int32).toInt := kd_ne c; clear c
          refine ko_steps mi_in118 3 _ (41, [(3, .ref 110), (0, .ref 0), (1, .int x1), (2, .int x2)], [.int 1, .int (i 7040)], (0, 0), ks i a q r) (by rfl) ?_
          refine ko_if mi_in118 ((i 7040) != 1) 58 44 ([(3, .ref 110), (0, .ref 0), (1, .int x1), (2, .int x2)], [], (0, 0), ks i a q r) (by rfl) (fun c => ?_) (fun c => ?_)
          ·
            have c37 : (i 7040).toInt ≠ (1 : Int32).toInt := kd_ne c; clear c
            refine ko_steps mi_in118 1 _ (60, [(3, .ref 110), (0, .ref 0), (1, .int x1), (2, .int x2)], [.int (-12)], (0, 0), ks i a q r) (by rfl) ?_
            exact ko_ret mi_in118 (by rfl) (hP (-12) trivial)
          ·
            have c38 : (i 7040).toInt = (1 : Int32).toInt := kd_neF c; clear c
            refine ko_steps mi_in118 4 _ (52, [(3, .ref 110), (0, .ref 0), (1, .int x1), (2, .int x2)], [.int (i 7041), .ref 94], (0, 0), ks i a q r) (by rfl) ?_
            refine ko_callPI mi_in118 (pc := 52) (ls := [(3, .ref 110), (0, .ref 0), (1, .int x1), (2, .int x2)]) (st := [.int (i 7041), .ref 94]) (h := ks i a q r) (i := (.invokevirtual 301, 3, 8, 0, 9, 0, 304)) (by rfl) (by rfl) (cy := mi_c8) rfl rfl (kc8_94 hG.I hG.R (i 7041)) (by decide) ?_
            intro vg39 hg39
            rcases hg39 with ⟨eg39, hg39⟩ | ⟨eg39, hg39⟩
            ·
              subst eg39
              have fi_6017 : ((0 : Int) ≤ (i 6017).toInt) ∧ ((i 6017).toInt ≤ 50) := hG.I.1 6017
              have z40 : ((0 : Int) ≤ (i 7041).toInt) ∧ ((i 7041).toInt < (i 6017).toInt) := hg39
              refine ko_steps mi_in118 6 _ (72, [(3, .ref 110), (0, .ref 0), (1, .int x1), (2, .int x2)], [.int (i 7041), .ref 95], (0, 0), ks i a q r) (by rfl) ?_
              refine ko_iald3 mi_in118 (n := 50) (c := 50) (ax := (0, 0, 0, 0, 0)) (by rfl) (by rfl) (ksG95 _ _ _ _) (hG.I.2.1 95) rfl (oz3 z40.1) (oz1283 fi_6017.2 z40.2) ?_
              have r41 : ((0 : Int) ≤ ((a 95).getD (i 7041).toNatClampNeg 0).toInt) ∧ (((a 95).getD (i 7041).toNatClampNeg 0).toInt ≤ 7) := hG.I.2.2.1 95 ((i 7041).toNatClampNeg)
              refine ko_steps mi_in118 3 _ (78, [(4, .int ((a 95).getD (i 7041).toNatClampNeg 0)), (3, .ref 110), (0, .ref 0), (1, .int x1), (2, .int x2)], [.int x2, .int ((a 95).getD (i 7041).toNatClampNeg 0)], (0, 0), ks i a q r) (by rfl) ?_
              refine ko_callPI mi_in118 (pc := 78) (ls := [(4, .int ((a 95).getD (i 7041).toNatClampNeg 0)), (3, .ref 110), (0, .ref 0), (1, .int x1), (2, .int x2)]) (st := [.int x2, .int ((a 95).getD (i 7041).toNatClampNeg 0)]) (h := ks i a q r) (i := (.invokestatic 339, 3, 10, 0, 9, 0, 319)) (by rfl) (by rfl) (cy := mi_c10) rfl rfl (kc10 hG.I hG.R ((a 95).getD (i 7041).toNatClampNeg 0) x2) (by decide) ?_
              intro vg42 hg42
              rcases hg42 with ⟨eg42, hg42⟩ | ⟨eg42, hg42⟩
              ·
                subst eg42
                refine ko_steps mi_in118 3 _ (91, [(4, .int ((a 95).getD (i 7041).toNatClampNeg 0)), (3, .ref 110), (0, .ref 0), (1, .int x1), (2, .int x2)], [.int ((a 95).getD (i 7041).toNatClampNeg 0)], (0, 0), ks i a q r) (by rfl) ?_
                exact ko_ret mi_in118 (by rfl) (hP ((a 95).getD (i 7041).toNatClampNeg 0) trivial)
              ·
                subst eg42
                refine ko_steps mi_in118 2 _ (91, [(4, .int ((a 95).getD (i 7041).toNatClampNeg 0)), (3, .ref 110), (0, .ref 0), (1, .int x1), (2, .int x2)], [.int (-12)], (0, 0), ks i a q r) (by rfl) ?_
                exact ko_ret mi_in118 (by rfl) (hP (-12) trivial)
            ·
              subst eg39
              have fi_6017 : ((0 : Int) ≤ (i 6017).toInt) ∧ ((i 6017).toInt ≤ 50) := hG.I.1 6017
              have z43 : ¬ (((0 : Int) ≤ (i 7041).toInt) ∧ ((i 7041).toInt < (i 6017).toInt)) := hg39
              refine ko_steps mi_in118 2 _ (60, [(3, .ref 110), (0, .ref 0), (1, .int x1), (2, .int x2)], [.int (-12)], (0, 0), ks i a q r) (by rfl) ?_
              exact ko_ret mi_in118 (by rfl) (hP (-12) trivial)
        ·
          have c44 : (i 7040).toInt = (0 : Int32).toInt := kd_neF c; clear c
          refine ko_steps mi_in118 1 _ (35, [(3, .ref 110), (0, .ref 0), (1, .int x1), (2, .int x2)], [.int (-11)], (0, 0), ks i a q r) (by rfl) ?_
          exact ko_ret mi_in118 (by rfl) (hP (-11) trivial)
      by_cases w45 : x1.toInt = 4
      ·
        refine ko_eq (x1 := (24, [(0, .ref 0), (1, .int x1), (2, .int x2)], [.int 4, .ref 97], (0, 0), ks i a q r)) (by rw [(kj_eq w45 (by decide) : x1 = 4)]) ?_
        have fi_7168 : ((0 : Int) ≤ (i 7168).toInt) ∧ ((i 7168).toInt ≤ 2) := hG.I.1 7168
        refine ko_steps mi_in118 4 _ (30, [(3, .ref 112), (0, .ref 0), (1, .int x1), (2, .int x2)], [.int (i 7168)], (0, 0), ks i a q r) (by rfl) ?_
        refine ko_if mi_in118 ((i 7168) != 0) 36 33 ([(3, .ref 112), (0, .ref 0), (1, .int x1), (2, .int x2)], [], (0, 0), ks i a q r) (by rfl) (fun c => ?_) (fun c => ?_)
        ·
          have c46 : (i 7168).toInt ≠ (0 : Int32).toInt := kd_ne c; clear c
          refine ko_steps mi_in118 3 _ (41, [(3, .ref 112), (0, .ref 0), (1, .int x1), (2, .int x2)], [.int 1, .int (i 7168)], (0, 0), ks i a q r) (by rfl) ?_
          refine ko_if mi_in118 ((i 7168) != 1) 58 44 ([(3, .ref 112), (0, .ref 0), (1, .int x1), (2, .int x2)], [], (0, 0), ks i a q r) (by rfl) (fun c => ?_) (fun c => ?_)
          ·
            have c47 : (i 7168).toInt ≠ (1 : Int32).toInt := kd_ne c; clear c
            refine ko_steps mi_in118 1 _ (60, [(3, .ref 112), (0, .ref 0), (1, .int x1), (2, .int x2)], [.int (-12)], (0, 0), ks i a q r) (by rfl) ?_
            exact ko_ret mi_in118 (by rfl) (hP (-12) trivial)
          ·
            have c48 : (i 7168).toInt = (1 : Int32).toInt := kd_neF c; clear c
            refine ko_steps mi_in118 4 _ (52, [(3, .ref 112), (0, .ref 0), (1, .int x1), (2, .int x2)], [.int (i 7169), .ref 94], (0, 0), ks i a q r) (by rfl) ?_
            refine ko_callPI mi_in118 (pc := 52) (ls := [(3, .ref 112), (0, .ref 0), (1, .int x1), (2, .int x2)]) (st := [.int (i 7169), .ref 94]) (h := ks i a q r) (i := (.invokevirtual 301, 3, 8, 0, 9, 0, 304)) (by rfl) (by rfl) (cy := mi_c8) rfl rfl (kc8_94 hG.I hG.R (i 7169)) (by decide) ?_
            intro vg49 hg49
            rcases hg49 with ⟨eg49, hg49⟩ | ⟨eg49, hg49⟩
            ·
              subst eg49
              have fi_6017 : ((0 : Int) ≤ (i 6017).toInt) ∧ ((i 6017).toInt ≤ 50) := hG.I.1 6017
              have z50 : ((0 : Int) ≤ (i 7169).toInt) ∧ ((i 7169).toInt < (i 6017).toInt) := hg49
              refine ko_steps mi_in118 6 _ (72, [(3, .ref 112), (0, .ref 0), (1, .int x1), (2, .int x2)], [.int (i 7169), .ref 95], (0, 0), ks i a q r) (by rfl) ?_
              refine ko_iald3 mi_in118 (n := 50) (c := 50) (ax := (0, 0, 0, 0, 0)) (by rfl) (by rfl) (ksG95 _ _ _ _) (hG.I.2.1 95) rfl (oz3 z50.1) (oz1283 fi_6017.2 z50.2) ?_
              have r51 : ((0 : Int) ≤ ((a 95).getD (i 7169).toNatClampNeg 0).toInt) ∧ (((a 95).getD (i 7169).toNatClampNeg 0).toInt ≤ 7) := hG.I.2.2.1 95 ((i 7169).toNatClampNeg)
              refine ko_steps mi_in118 3 _ (78, [(4, .int ((a 95).getD (i 7169).toNatClampNeg 0)), (3, .ref 112), (0, .ref 0), (1, .int x1), (2, .int x2)], [.int x2, .int ((a 95).getD (i 7169).toNatClampNeg 0)], (0, 0), ks i a q r) (by rfl) ?_
              refine ko_callPI mi_in118 (pc := 78) (ls := [(4, .int ((a 95).getD (i 7169).toNatClampNeg 0)), (3, .ref 112), (0, .ref 0), (1, .int x1), (2, .int x2)]) (st := [.int x2, .int ((a 95).getD (i 7169).toNatClampNeg 0)]) (h := ks i a q r) (i := (.invokestatic 339, 3, 10, 0, 9, 0, 319)) (by rfl) (by rfl) (cy := mi_c10) rfl rfl (kc10 hG.I hG.R ((a 95).getD (i 7169).toNatClampNeg 0) x2) (by decide) ?_
              intro vg52 hg52
              rcases hg52 with ⟨eg52, hg52⟩ | ⟨eg52, hg52⟩
              ·
                subst eg52
                refine ko_steps mi_in118 3 _ (91, [(4, .int ((a 95).getD (i 7169).toNatClampNeg 0)), (3, .ref 112), (0, .ref 0), (1, .int x1), (2, .int x2)], [.int ((a 95).getD (i 7169).toNatClampNeg 0)], (0, 0), ks i a q r) (by rfl) ?_
                exact ko_ret mi_in118 (by rfl) (hP ((a 95).getD (i 7169).toNatClampNeg 0) trivial)
              ·
                subst eg52
                refine ko_steps mi_in118 2 _ (91, [(4, .int ((a 95).getD (i 7169).toNatClampNeg 0)), (3, .ref 112), (0, .ref 0), (1, .int x1), (2, .int x2)], [.int (-12)], (0, 0), ks i a q r) (by rfl) ?_
                exact ko_ret mi_in118 (by rfl) (hP (-12) trivial)
            ·
              subst eg49
              have fi_6017 : ((0 : Int) ≤ (i 6017).toInt) ∧ ((i 6017).toInt ≤ 50) := hG.I.1 6017
              have z53 : ¬ (((0 : Int) ≤ (i 7169).toInt) ∧ ((i 7169).toInt < (i 6017).toInt)) := hg49
              refine ko_steps mi_in118 2 _ (60, [(3, .ref 112), (0, .ref 0), (1, .int x1), (2, .int x2)], [.int (-12)], (0, 0), ks i a q r) (by rfl) ?_
              exact ko_ret mi_in118 (by rfl) (hP (-12) trivial)
        ·
          have c54 : (i 7168).toInt = (0 : Int32).toInt := kd_neF c; clear c
          refine ko_steps mi_in118 1 _ (35, [(3, .ref 112), (0, .ref 0), (1, .int x1), (2, .int x2)], [.int (-11)], (0, 0), ks i a q r) (by rfl) ?_
          exact ko_ret mi_in118 (by rfl) (hP (-11) trivial)
      by_cases w55 : x1.toInt = 5
      ·
        refine ko_eq (x1 := (24, [(0, .ref 0), (1, .int x1), (2, .int x2)], [.int 5, .ref 97], (0, 0), ks i a q r)) (by rw [(kj_eq w55 (by decide) : x1 = 5)]) ?_
        have fi_7296 : ((0 : Int) ≤ (i 7296).toInt) ∧ ((i 7296).toInt ≤ 2) := hG.I.1 7296
        refine ko_steps mi_in118 4 _ (30, [(3, .ref 114), (0, .ref 0), (1, .int x1), (2, .int x2)], [.int (i 7296)], (0, 0), ks i a q r) (by rfl) ?_
        refine ko_if mi_in118 ((i 7296) != 0) 36 33 ([(3, .ref 114), (0, .ref 0), (1, .int x1), (2, .int x2)], [], (0, 0), ks i a q r) (by rfl) (fun c => ?_) (fun c => ?_)
        ·
          have c56 : (i 7296).toInt ≠ (0 : Int32).toInt := kd_ne c; clear c
          refine ko_steps mi_in118 3 _ (41, [(3, .ref 114), (0, .ref 0), (1, .int x1), (2, .int x2)], [.int 1, .int (i 7296)], (0, 0), ks i a q r) (by rfl) ?_
          refine ko_if mi_in118 ((i 7296) != 1) 58 44 ([(3, .ref 114), (0, .ref 0), (1, .int x1), (2, .int x2)], [], (0, 0), ks i a q r) (by rfl) (fun c => ?_) (fun c => ?_)
          ·
            have c57 : (i 7296).toInt ≠ (1 : Int32).toInt := kd_ne c; clear c
            refine ko_steps mi_in118 1 _ (60, [(3, .ref 114), (0, .ref 0), (1, .int x1), (2, .int x2)], [.int (-12)], (0, 0), ks i a q r) (by rfl) ?_
            exact ko_ret mi_in118 (by rfl) (hP (-12) trivial)
          ·
            have c58 : (i 7296).toInt = (1 : Int32).toInt := kd_neF c; clear c
            refine ko_steps mi_in118 4 _ (52, [(3, .ref 114), (0, .ref 0), (1, .int x1), (2, .int x2)], [.int (i 7297), .ref 94], (0, 0), ks i a q r) (by rfl) ?_
            refine ko_callPI mi_in118 (pc := 52) (ls := [(3, .ref 114), (0, .ref 0), (1, .int x1), (2, .int x2)]) (st := [.int (i 7297), .ref 94]) (h := ks i a q r) (i := (.invokevirtual 301, 3, 8, 0, 9, 0, 304)) (by rfl) (by rfl) (cy := mi_c8) rfl rfl (kc8_94 hG.I hG.R (i 7297)) (by decide) ?_
            intro vg59 hg59
            rcases hg59 with ⟨eg59, hg59⟩ | ⟨eg59, hg59⟩
            ·
              subst eg59
              have fi_6017 : ((0 : Int) ≤ (i 6017).toInt) ∧ ((i 6017).toInt ≤ 50) := hG.I.1 6017
              have z60 : ((0 : Int) ≤ (i 7297).toInt) ∧ ((i 7297).toInt < (i 6017).toInt) := hg59
              refine ko_steps mi_in118 6 _ (72, [(3, .ref 114), (0, .ref 0), (1, .int x1), (2, .int x2)], [.int (i 7297), .ref 95], (0, 0), ks i a q r) (by rfl) ?_
              refine ko_iald3 mi_in118 (n := 50) (c := 50) (ax := (0, 0, 0, 0, 0)) (by rfl) (by rfl) (ksG95 _ _ _ _) (hG.I.2.1 95) rfl (oz3 z60.1) (oz1283 fi_6017.2 z60.2) ?_
              have r61 : ((0 : Int) ≤ ((a 95).getD (i 7297).toNatClampNeg 0).toInt) ∧ (((a 95).getD (i 7297).toNatClampNeg 0).toInt ≤ 7) := hG.I.2.2.1 95 ((i 7297).toNatClampNeg)
              refine ko_steps mi_in118 3 _ (78, [(4, .int ((a 95).getD (i 7297).toNatClampNeg 0)), (3, .ref 114), (0, .ref 0), (1, .int x1), (2, .int x2)], [.int x2, .int ((a 95).getD (i 7297).toNatClampNeg 0)], (0, 0), ks i a q r) (by rfl) ?_
              refine ko_callPI mi_in118 (pc := 78) (ls := [(4, .int ((a 95).getD (i 7297).toNatClampNeg 0)), (3, .ref 114), (0, .ref 0), (1, .int x1), (2, .int x2)]) (st := [.int x2, .int ((a 95).getD (i 7297).toNatClampNeg 0)]) (h := ks i a q r) (i := (.invokestatic 339, 3, 10, 0, 9, 0, 319)) (by rfl) (by rfl) (cy := mi_c10) rfl rfl (kc10 hG.I hG.R ((a 95).getD (i 7297).toNatClampNeg 0) x2) (by decide) ?_
              intro vg62 hg62
              rcases hg62 with ⟨eg62, hg62⟩ | ⟨eg62, hg62⟩
              ·
                subst eg62
                refine ko_steps mi_in118 3 _ (91, [(4, .int ((a 95).getD (i 7297).toNatClampNeg 0)), (3, .ref 114), (0, .ref 0), (1, .int x1), (2, .int x2)], [.int ((a 95).getD (i 7297).toNatClampNeg 0)], (0, 0), ks i a q r) (by rfl) ?_
                exact ko_ret mi_in118 (by rfl) (hP ((a 95).getD (i 7297).toNatClampNeg 0) trivial)
              ·
                subst eg62
                refine ko_steps mi_in118 2 _ (91, [(4, .int ((a 95).getD (i 7297).toNatClampNeg 0)), (3, .ref 114), (0, .ref 0), (1, .int x1), (2, .int x2)], [.int (-12)], (0, 0), ks i a q r) (by rfl) ?_
                exact ko_ret mi_in118 (by rfl) (hP (-12) trivial)
            ·
              subst eg59
              have fi_6017 : ((0 : Int) ≤ (i 6017).toInt) ∧ ((i 6017).toInt ≤ 50) := hG.I.1 6017
              have z63 : ¬ (((0 : Int) ≤ (i 7297).toInt) ∧ ((i 7297).toInt < (i 6017).toInt)) := hg59
              refine ko_steps mi_in118 2 _ (60, [(3, .ref 114), (0, .ref 0), (1, .int x1), (2, .int x2)], [.int (-12)], (0, 0), ks i a q r) (by rfl) ?_
              exact ko_ret mi_in118 (by rfl) (hP (-12) trivial)
        ·
          have c64 : (i 7296).toInt = (0 : Int32).toInt := kd_neF c; clear c
          refine ko_steps mi_in118 1 _ (35, [(3, .ref 114), (0, .ref 0), (1, .int x1), (2, .int x2)], [.int (-11)], (0, 0), ks i a q r) (by rfl) ?_
          exact ko_ret mi_in118 (by rfl) (hP (-11) trivial)
      exact (oz1282 w15 w25 w35 w45 w5 w55 z2.1 z2.2).elim
    ·
      subst eg3
      have z65 : ¬ (((0 : Int32).toInt ≤ x2.toInt) ∧ (x2.toInt ≤ (7 : Int32).toInt)) := hg3
      refine ko_steps mi_in118 2 _ (18, [(0, .ref 0), (1, .int x1), (2, .int x2)], [.int (-1)], (0, 0), ks i a q r) (by rfl) ?_
      exact ko_ret mi_in118 (by rfl) (hP (-1) trivial)
  ·
    subst eg1
    have z66 : ¬ (((0 : Int) ≤ x1.toInt) ∧ (x1.toInt ≤ 5)) := hg1
    refine ko_steps mi_in118 2 _ (18, [(0, .ref 0), (1, .int x1), (2, .int x2)], [.int (-1)], (0, 0), ks i a q r) (by rfl) ?_
    exact ko_ret mi_in118 (by rfl) (hP (-1) trivial)
set_option maxRecDepth 100000 in
theorem kc119_0 {i : Nat → Int32} {a : Nat → List Int32} {q : Nat → List Int64} {r : Nat → Nat} (hI : kI i a q) (hr : kr r) (x1 : Int32) : km 1 119 [.ref 0, .int x1] (ks i a q r) (kPI (ks i a q r) (fun v => True)) := by
  have hG := kG_self kW0 hI hr
  refine km_ofPI (q := (mi_h119, mi_c119)) rfl (by decide) (Nat.le_of_ble_eq_true rfl) ?_
  intro P hP
  refine ko_steps mi_in119 1 _ (1, [(0, .ref 0), (1, .int x1)], [.int x1], (0, 0), ks i a q r) (by rfl) ?_
  by_cases w1 : x1.toInt = 0
  ·
    refine ko_eq (x1 := (1, [(0, .ref 0), (1, .int x1)], [.int 0], (0, 0), ks i a q r)) (by rw [(kj_eq w1 (by decide) : x1 = 0)]) ?_
    have fi_64 : ((0 : Int) ≤ (i 64).toInt) ∧ ((i 64).toInt ≤ 8) := hG.I.1 64
    refine ko_steps mi_in119 4 _ (47, [(0, .ref 0), (1, .int x1)], [.int (i 64)], (0, 0), ks i a q r) (by rfl) ?_
    exact ko_ret mi_in119 (by rfl) (hP (i 64) trivial)
  by_cases w2 : x1.toInt = 1
  ·
    refine ko_eq (x1 := (1, [(0, .ref 0), (1, .int x1)], [.int 1], (0, 0), ks i a q r)) (by rw [(kj_eq w2 (by decide) : x1 = 1)]) ?_
    have fi_450 : ((0 : Int) ≤ (i 450).toInt) ∧ ((i 450).toInt ≤ 5) := hG.I.1 450
    refine ko_steps mi_in119 5 _ (58, [(0, .ref 0), (1, .int x1)], [.int (i 450)], (0, 0), ks i a q r) (by rfl) ?_
    exact ko_ret mi_in119 (by rfl) (hP (i 450) trivial)
  by_cases w3 : x1.toInt = 2
  ·
    refine ko_eq (x1 := (1, [(0, .ref 0), (1, .int x1)], [.int 2], (0, 0), ks i a q r)) (by rw [(kj_eq w3 (by decide) : x1 = 2)]) ?_
    have fi_6273 : ((0 : Int) ≤ (i 6273).toInt) ∧ ((i 6273).toInt ≤ 120) := hG.I.1 6273
    refine ko_steps mi_in119 4 _ (66, [(0, .ref 0), (1, .int x1)], [.int (i 6273)], (0, 0), ks i a q r) (by rfl) ?_
    exact ko_ret mi_in119 (by rfl) (hP (i 6273) trivial)
  by_cases w4 : x1.toInt = 3
  ·
    refine ko_eq (x1 := (1, [(0, .ref 0), (1, .int x1)], [.int 3], (0, 0), ks i a q r)) (by rw [(kj_eq w4 (by decide) : x1 = 3)]) ?_
    have fi_5701 : ((0 : Int) ≤ (i 5701).toInt) ∧ ((i 5701).toInt ≤ 40) := hG.I.1 5701
    refine ko_steps mi_in119 4 _ (74, [(0, .ref 0), (1, .int x1)], [.int (i 5701)], (0, 0), ks i a q r) (by rfl) ?_
    exact ko_ret mi_in119 (by rfl) (hP (i 5701) trivial)
  by_cases w5 : x1.toInt = 4
  ·
    refine ko_eq (x1 := (1, [(0, .ref 0), (1, .int x1)], [.int 4], (0, 0), ks i a q r)) (by rw [(kj_eq w5 (by decide) : x1 = 4)]) ?_
    have fi_6017 : ((0 : Int) ≤ (i 6017).toInt) ∧ ((i 6017).toInt ≤ 50) := hG.I.1 6017
    refine ko_steps mi_in119 4 _ (82, [(0, .ref 0), (1, .int x1)], [.int (i 6017)], (0, 0), ks i a q r) (by rfl) ?_
    exact ko_ret mi_in119 (by rfl) (hP (i 6017) trivial)
  by_cases w6 : x1.toInt = 5
  ·
    refine ko_eq (x1 := (1, [(0, .ref 0), (1, .int x1)], [.int 5], (0, 0), ks i a q r)) (by rw [(kj_eq w6 (by decide) : x1 = 5)]) ?_
    have fi_6019 : ((0 : Int) ≤ (i 6019).toInt) ∧ ((i 6019).toInt ≤ 1000) := hG.I.1 6019
    refine ko_steps mi_in119 4 _ (90, [(0, .ref 0), (1, .int x1)], [.int (i 6019)], (0, 0), ks i a q r) (by rfl) ?_
    exact ko_ret mi_in119 (by rfl) (hP (i 6019) trivial)
  refine ko_sw (ls := [(0, .ref 0), (1, .int x1)]) (r := []) (h := ks i a q r) mi_in119 (v := x1) (i := (.tableswitch 90 0 5 #[39, 47, 58, 66, 74, 82], 39, 0, 0, 0, 0, 0)) (by rfl) rfl (oz660 w1 w2 w3 w4 w5 w6) 91 (by rfl) ?_
  refine ko_steps mi_in119 1 _ (92, [(0, .ref 0), (1, .int x1)], [.int (-1)], (0, 0), ks i a q r) (by rfl) ?_
  exact ko_ret mi_in119 (by rfl) (hP (-1) trivial)
