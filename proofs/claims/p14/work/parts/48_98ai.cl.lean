section
theorem ktoy0 : (0 : Int32).toInt = 0 := by decide
theorem ktoy1 : (1 : Int32).toInt = 1 := by decide
theorem koym1 : ((-1) : Int32).toInt = (-1) := by decide
theorem ktoy20 : (20 : Int32).toInt = 20 := by decide
theorem koym12 : ((-12) : Int32).toInt = (-12) := by decide
theorem koym11 : ((-11) : Int32).toInt = (-11) := by decide
theorem toy9 {a0 a1 : Int} (h0 : (0 : Int) ≤ a0) (h1 : a0 ≤ 5) (h2 : a1 = 0) : (a1 < 0) ∨ ((a1 = 0) ∧ ((0 : Int) ≤ a0) ∧ (a0 ≤ 5)) := oz989 h0 h1 h2
theorem toy10 {a0 : Int} (h0 : a0 = 0) (h1 : (0 : Int) ≤ a0) : a0 = ((0 : Nat) : Int) := oc33 h0 h1
theorem toy11 {a0 : Int} (h0 : a0 ≤ 2) (h1 : a0 = 2) : a0 = 2 := by omega
theorem toy12 {a0 a1 : Int} (h0 : (0 : Int) ≤ a0) (h1 : a0 = a1) (h2 : a1 = 0) : a0 = 0 := by omega
theorem toy13 {a0 a1 : Int} (h0 : a0 = (-12)) : (a0 < 0) ∨ ((a0 = 0) ∧ ((0 : Int) ≤ a1) ∧ (a1 ≤ 5)) := oz990 h0
theorem toy14 {a0 a1 : Int} (h0 : a0 ≠ a1) (h1 : (0 : Int) ≤ a0) (h2 : a1 = 0) : a0 ≠ 0 := oz662 h0 h1 h2
theorem toy15 {a0 a1 a2 : Int} (h0 : a0 ≤ 2) (h1 : (0 : Int) ≤ a1) (h2 : ¬ ((a0 = 2) ∧ (a1 = a2))) (h3 : a2 = 0) : ¬ (a0 = 2 ∧ a1 = 0) := by omega
theorem toy16 {a0 : Int} (h0 : a0 = 0) (h1 : ¬ (a0 = 0)) (h2 : (0 : Int) ≤ a0) : False := oz991 h0 h1 h2
theorem toy17 {a0 a1 : Int} (h0 : a0 = (-11)) : (a0 < 0) ∨ ((a0 = 0) ∧ ((0 : Int) ≤ a1) ∧ (a1 ≤ 5)) := oz992 h0
theorem toy18 {a0 a1 : Int} (h0 : a0 = a1) (h1 : (0 : Int) ≤ a0) (h2 : a1 = 0) : a0 = 0 := od48 h0 h1 h2
theorem toy20 {a0 a1 : Int} (h0 : a0 = 1) (h1 : a0 ≤ 5) (h2 : a1 = 0) : (a1 < 0) ∨ ((a1 = 0) ∧ ((0 : Int) ≤ a0) ∧ (a0 ≤ 5)) := oz994 h0 h1 h2
theorem toy21 {a0 : Int} (h0 : a0 = 1) : a0 = ((1 : Nat) : Int) := oc44 h0
theorem toy22 {a0 : Int} (h0 : a0 = 1) (h1 : ¬ (a0 = 1)) : False := oz995 h0 h1
theorem toy24 {a0 a1 : Int} (h0 : a0 = 2) (h1 : a0 ≤ 5) (h2 : a1 = 0) : (a1 < 0) ∨ ((a1 = 0) ∧ ((0 : Int) ≤ a0) ∧ (a0 ≤ 5)) := oz997 h0 h1 h2
theorem toy25 {a0 : Int} (h0 : a0 = 2) : a0 = ((2 : Nat) : Int) := oc55 h0
theorem toy26 {a0 : Int} (h0 : a0 = 2) (h1 : ¬ (a0 = 2)) : False := oz998 h0 h1
theorem toy28 {a0 a1 : Int} (h0 : a0 = 3) (h1 : a0 ≤ 5) (h2 : a1 = 0) : (a1 < 0) ∨ ((a1 = 0) ∧ ((0 : Int) ≤ a0) ∧ (a0 ≤ 5)) := oz1000 h0 h1 h2
theorem toy29 {a0 : Int} (h0 : a0 = 3) : a0 = ((3 : Nat) : Int) := oc67 h0
theorem toy30 {a0 : Int} (h0 : a0 = 3) (h1 : ¬ (a0 = 3)) : False := oz1001 h0 h1
theorem toy32 {a0 a1 : Int} (h0 : a0 = 4) (h1 : a0 ≤ 5) (h2 : a1 = 0) : (a1 < 0) ∨ ((a1 = 0) ∧ ((0 : Int) ≤ a0) ∧ (a0 ≤ 5)) := oz1003 h0 h1 h2
theorem toy33 {a0 : Int} (h0 : a0 = 4) : a0 = ((4 : Nat) : Int) := oc79 h0
theorem toy34 {a0 : Int} (h0 : a0 = 4) (h1 : ¬ (a0 = 4)) : False := oz1004 h0 h1
theorem toy36 {a0 a1 : Int} (h0 : a0 = 5) (h1 : a0 ≤ 5) (h2 : a1 = 0) : (a1 < 0) ∨ ((a1 = 0) ∧ ((0 : Int) ≤ a0) ∧ (a0 ≤ 5)) := oz1006 h0 h1 h2
theorem toy37 {a0 : Int} (h0 : a0 = 5) (h1 : a0 ≤ 5) : a0 = ((5 : Nat) : Int) := by omega
theorem toy38 {a0 : Int} (h0 : a0 = 5) (h1 : ¬ (a0 = 5)) (h2 : a0 ≤ 5) : False := oz1007 h0 h1 h2
theorem toy39 {a0 : Int} (h0 : ¬ (a0 = 1)) (h1 : ¬ (a0 = 2)) (h2 : ¬ (a0 = 0)) (h3 : ¬ (a0 = 3)) (h4 : ¬ (a0 = 4)) (h5 : ¬ (a0 = 5)) (h6 : (0 : Int) ≤ a0) (h7 : a0 ≤ 5) : False := oz1008 h0 h1 h2 h3 h4 h5 h6 h7
theorem toy40 {a0 a1 : Int} (h0 : a0 = (-1)) : (a0 < 0) ∨ ((a0 = 0) ∧ ((0 : Int) ≤ a1) ∧ (a1 ≤ 5)) := oz1009 h0
theorem toy41 {a0 : Int} (h0 : ¬ (((0 : Int) ≤ a0) ∧ (a0 ≤ 5))) : ¬ ((0 : Int) ≤ a0 ∧ a0 ≤ 5) := by omega
theorem toy42 {a0 a1 : Int} (h0 : (a0 < 0) ∨ ((a0 = 0) ∧ ((0 : Int) ≤ a1) ∧ (a1 ≤ 5))) : a0 ≤ 0 := by omega
theorem toy43 {a0 a1 a2 : Int} (h0 : a0 ≠ a1) (h1 : (a0 < 0) ∨ ((a0 = 0) ∧ ((0 : Int) ≤ a2) ∧ (a2 ≤ 5))) (h2 : a1 = 0) : a0 < 0 := by omega
theorem toy45 {a0 : Int} (h0 : a0 = 0) : (0 : Int) ≤ a0 := oz46 h0
theorem toy46 {a0 : Int} (h0 : a0 = 0) : a0 ≤ 20 := oz220 h0
theorem toy48 {a0 : Int} (h0 : (0 : Int) ≤ a0) : (0 : Int) ≤ a0 := oz3 h0
theorem toy49 {a0 : Int} (h0 : a0 ≤ 20) : a0 ≤ 20 := oz221 h0
theorem toy50 {a0 a1 : Int} (h0 : a0 ≤ a1) : a0 ≤ a1 := oz173 h0
theorem toy51 {a0 a1 a2 : Int} (h0 : a0 ≤ a1) (h1 : a0 = a2) (h2 : a1 ≤ a2) : a1 = a2 := ox0 h0 h1 h2
theorem toy53 {a0 : Int} (h0 : a0 ≤ 20) : a0 < 60 := by omega
theorem toy54 {a0 a1 a2 : Int} (h0 : a0 < a1) (h1 : a1 = a2) : a0 ≤ a2 := by omega
theorem toy55 {a0 a1 a2 : Int} (h0 : a0 < a1) (h1 : a1 = 0) : ¬ ((0 : Int) ≤ a0 ∧ a0 < a2) := op151 h0 h1
theorem toy56 {a0 a1 : Int} (h0 : a0 < a1) (h1 : a1 = 20) : a0 < 20 := oz1013 h0 h1
theorem toy57 {a0 a1 : Int} (h0 : (0 : Int) ≤ a0) (h1 : a1 = 1) : (-2147483648 : Int) ≤ a0 + a1 := oz12 h0 h1
theorem toy58 {a0 a1 : Int} (h0 : a0 ≤ 20) (h1 : a1 = 1) : a0 + a1 ≤ 2147483647 := oz448 h0 h1
theorem toy59 {a0 a1 a2 : Int} (h0 : (0 : Int) ≤ a0) (h1 : a1 = a0 + a2) (h2 : a2 = 1) : (0 : Int) ≤ a1 := oz14 h0 h1 h2
theorem toy60 {a0 a1 a2 a3 : Int} (h0 : a0 < a1) (h1 : a2 = a0 + a3) (h2 : a1 = 20) (h3 : a3 = 1) : a2 ≤ 20 := oz224 h0 h1 h2 h3
theorem toy61 {a0 : Int}  : a0 = a0 := oz34
theorem toy62 {a0 a1 a2 a3 a4 : Int} (h0 : a0 < a1) (h1 : a1 = a2) (h2 : a3 = a0 + a4) (h3 : a4 = 1) : a3 ≤ a2 := ox9 h0 h1 h2 h3
theorem toy63 {a0 a1 : Int} (h0 : a0 < a1) (h1 : a1 = 20) : a0 < ((20 : Nat) : Int) := ox12 h0 h1
theorem toy64 {a0 a1 a2 : Int} (h0 : a0 = a1 + a2) (h1 : a2 = 1) : a0 = a1 + 1 := oz169 h0 h1
theorem toy65 {a0 a1 : Int} (h0 : a0 ≤ a1) (h1 : a0 = 0) : (0 : Int) ≤ a1 := oz389 h0 h1
theorem toy66 {a0 a1 : Int} (h0 : a0 < a1) : a0 < a1 := oz270 h0
theorem toy67 {a0 a1 a2 : Int} (h0 : a0 = a1 + a2) (h1 : a2 = 1) : (20 - a0) < (20 - a1) := oz218 h0 h1
theorem toy68 {a0 a1 : Int} (h0 : a0 < a1) (h1 : a1 = 20) : (1 : Int) ≤ (20 - a0) := oz225 h0 h1
theorem toy69 {a0 a1 : Int} (h0 : a0 ≤ a1) : ¬ ((0 : Int) ≤ a1 ∧ a1 < a0) := op152 h0
theorem toy70 {a0 : Int} (h0 : a0 = 0) : a0 = a0 := ov102 h0
theorem toy71 {a0 a1 : Int} (h0 : (0 : Int) ≤ a0) (h1 : a1 = 0) : a1 ≤ a0 := ob67 h0 h1
theorem toy72 {a0 a1 : Int} (h0 : a0 = a1) : a0 = a1 := oz719 h0
theorem toy73 {a0 a1 a2 : Int} (h0 : a0 ≤ a1) (h1 : a2 ≤ 20) (h2 : a2 = a1) (h3 : a0 = 20) : a2 = a1 := by omega
theorem toy74 {a0 a1 : Int} (h0 : a0 ≤ a1) (h1 : a0 = 20) : (0 : Int) ≤ a1 := by omega
theorem toy75 {a0 a1 : Int} (h0 : a0 ≤ a1) (h1 : a1 ≤ 20) (h2 : a0 = 20) : a1 = 20 := by omega
theorem toy76 {a0 a1 : Int} (h0 : a0 = a1) (h1 : a1 = 0) : a0 ≤ 0 := by omega
theorem toy77 {a0 : Int} (h0 : a0 = 0) : a0 = ((0 : Nat) : Int) := by omega
theorem toy78 {a0 a1 : Int} (h0 : a0 = a1) (h1 : a1 = 0) : a0 = 0 := og41 h0 h1
theorem toy79 {a0 : Int} (h0 : a0 = 5) : a0 = ((5 : Nat) : Int) := oc91 h0
theorem toy80 {a0 a1 a2 : Int} (h0 : a0 = a1) (h1 : ¬ (a2 = 3)) (h2 : ¬ (a2 = 4)) (h3 : ¬ (a2 = 5)) (h4 : ¬ (a2 = 0)) (h5 : ¬ (a2 = 1)) (h6 : ¬ (a2 = 2)) (h7 : (a0 < 0) ∨ ((a0 = 0) ∧ ((0 : Int) ≤ a2) ∧ (a2 ≤ 5))) (h8 : a1 = 0) : False := oz1016 h0 h1 h2 h3 h4 h5 h6 h7 h8
theorem toy121 {a0 a1 : Int} (h0 : a0 ≠ a1) (h1 : a1 ≤ a0) (h2 : a1 = 0) : ¬ (a0 = 0) := by omega
theorem toy122 {a0 a1 a2 : Int} (h0 : a0 ≠ a1) (h1 : a0 ≠ a2) (h2 : a1 ≤ a0) (h3 : a1 = 0) (h4 : a2 = 1) : ¬ (a0 = 1) := by omega
theorem toy127 {a0 a1 : Int} (h0 : a0 = a1) (h1 : a1 = 1) : ¬ (a0 = 2) := by omega
theorem toy129 {a0 a1 : Int} (h0 : a0 = a1) (h1 : a1 = 0) : ¬ (a0 = 1) := by omega
theorem toy130 {a0 a1 : Int} (h0 : a0 = a1) (h1 : a1 = 0) : ¬ (a0 = 2) := by omega
theorem toy131 {a0 a1 : Int} (h0 : a0 ≤ a1) : ¬ (a1 < a0) := by omega
set_option maxRecDepth 100000 in
theorem kg127_0 {i : Nat → Int32} {a : Nat → List Int32} {q : Nat → List Int64} {r : Nat → Nat} (hI : kI i a q) (hr : kr r) (x1 : Int32) : km 5 127 [.ref 0, .int x1] (ks i a q r) (kPI (ks i a q r) (fun v => ((v.toInt < 0) ∨ ((v.toInt = 0) ∧ ((0 : Int) ≤ x1.toInt) ∧ (x1.toInt ≤ 5))) ∧ cRb i x1 v)) := by
  have hG := kG_self kW0 hI hr
  refine km_ofPI (q := (mi_h127, mi_c127)) rfl (by decide) (Nat.le_of_ble_eq_true rfl) ?_
  intro P hP
  first | refine ft_goL mi_k127 1 1 [(0, .ref 0), (1, .int x1)] [.int x1] (by rfl) ?_ | refine ko_steps mi_in127 1 _ (1, [(0, .ref 0), (1, .int x1)], [.int x1], (0, 0), ks i a q r) (by rfl) ?_
  refine ko_callPI mi_k127.1 (pc := 1) (ls := [(0, .ref 0), (1, .int x1)]) (st := [.int x1]) (h := ks i a q r) (i := (.invokestatic 70, 3, 121, 0, 9, 0, 157)) (mi_k127.2 _ _ (by rfl)) (ft_invS mi_pq121 (by rfl)) (cy := mi_c121) mi_pq121 rfl (kc121 hG.I hG.R x1) (by decide) ?_
  intro vg1 hg1
  rcases hg1 with ⟨eg1, hg1⟩ | ⟨eg1, hg1⟩
  ·
    subst eg1
    have z2 : ((0 : Int) ≤ x1.toInt) ∧ (x1.toInt ≤ 5) := hg1
    refine fo_goS mi_k127 fz127_4_4_14 [.int x1, .ref 97] rfl ?_
    by_cases w3 : x1.toInt = 0
    ·
      refine ko_eq (x1 := (14, [(0, .ref 0), (1, .int x1)], [.int 0, .ref 97], (0, 0), ks i a q r)) (by rw [(kj_eq w3 (by decide) : x1 = 0)]) ?_
      have fi_6656 : ((0 : Int) ≤ (i 6656).toInt) ∧ ((i 6656).toInt ≤ 2) := hG.I.1 6656
      first | refine ft_goS mi_k127 2 18 [.int (i 6656)] (by rfl) ?_ | refine ko_steps mi_in127 2 _ (18, [(0, .ref 0), (1, .int x1)], [.int (i 6656)], (0, 0), ks i a q r) (by rfl) ?_
      refine ft_ifS mi_k127 ((i 6656) != 0) 24 21 [] (by rfl) (fun c => ?_) (fun c => ?_)
      ·
        have c4 : (i 6656).toInt ≠ (0 : Int32).toInt := kd_ne c; clear c
        refine fo_goS mi_k127 fz127_24_3_29 [.int x1, .ref 97] rfl ?_
        by_cases w5 : x1.toInt = 0
        ·
          refine ft_alx mi_k127 (pc := 29) (v := 0) (p := 97) (z := 104) (kj_eq w5 (by decide) : x1 = 0) (by decide +kernel) (by decide +kernel) ?_
          refine fo_goS mi_k127 fz127_30_1_31 [.int 0, .ref 104] rfl ?_
          refine ko_callPI mi_k127.1 (pc := 31) (ls := [(0, .ref 0), (1, .int x1)]) (st := [.int 0, .ref 104]) (h := ks i a q r) (i := (.invokevirtual 81, 3, 36, 0, 9, 0, 158)) (mi_k127.2 _ _ (by rfl)) (ft_invS mi_pq36 (by rfl)) (cy := mi_c36) mi_pq36 rfl (kc36_104 hG.I hG.R 0) (by decide) ?_
          intro vg6 hg6
          rcases hg6 with ⟨eg6, hg6⟩ | ⟨eg6, hg6⟩
          ·
            subst eg6
            have fi_6658 : ((0 : Int) ≤ (i 6658).toInt) ∧ ((i 6658).toInt ≤ 4) := hG.I.1 6658
            have z7 : ((i 6656).toInt = 2) ∧ ((i 6658).toInt = (0 : Int32).toInt) := hg6
            first | refine fo_goS mi_k127 fz127_34_3_43 [.int 0] (by rfl) ?_ | refine ft_goS mi_k127 3 43 [.int 0] (by rfl) ?_ | refine ko_steps mi_in127 3 _ (43, [(0, .ref 0), (1, .int x1)], [.int 0], (0, 0), ks i a q r) (by rfl) ?_
            exact ft_ret mi_k127 (by rfl) (hP 0 ⟨(toy9 z2.1 z2.2 ktoy0), (Or.inr ⟨0, by decide, (toy10 w3 z2.1), Or.inr (Or.inr ⟨(toy11 fi_6656.2 z7.1), (toy12 fi_6658.1 z7.2 ktoy0), rfl⟩)⟩)⟩)
          ·
            subst eg6
            have fi_6658 : ((0 : Int) ≤ (i 6658).toInt) ∧ ((i 6658).toInt ≤ 4) := hG.I.1 6658
            have z8 : ¬ (((i 6656).toInt = 2) ∧ ((i 6658).toInt = (0 : Int32).toInt)) := hg6
            first | refine fo_goS mi_k127 fz127_37_2_43 [.int (-12)] (by rfl) ?_ | refine fo_goS mi_k127 fz127_34_2_43 [.int (-12)] (by rfl) ?_
            exact ft_ret mi_k127 (by rfl) (hP (-12) ⟨(toy13 koym12), (Or.inr ⟨0, by decide, (toy10 w3 z2.1), Or.inr (Or.inl ⟨(toy14 c4 fi_6656.1 ktoy0), (toy15 fi_6656.2 fi_6658.1 z8 ktoy0), rfl⟩)⟩)⟩)
        exact (toy16 w3 w5 z2.1).elim
      ·
        have c14 : (i 6656).toInt = (0 : Int32).toInt := kd_neF c; clear c
        refine fo_goS mi_k127 fz127_21_1_23 [.int (-11)] rfl ?_
        exact ft_ret mi_k127 (by rfl) (hP (-11) ⟨(toy17 koym11), (Or.inr ⟨0, by decide, (toy10 w3 z2.1), Or.inl ⟨(toy18 c14 fi_6656.1 ktoy0), rfl⟩⟩)⟩)
    by_cases w15 : x1.toInt = 1
    ·
      refine ko_eq (x1 := (14, [(0, .ref 0), (1, .int x1)], [.int 1, .ref 97], (0, 0), ks i a q r)) (by rw [(kj_eq w15 (by decide) : x1 = 1)]) ?_
      have fi_6784 : ((0 : Int) ≤ (i 6784).toInt) ∧ ((i 6784).toInt ≤ 2) := hG.I.1 6784
      first | refine ft_goS mi_k127 2 18 [.int (i 6784)] (by rfl) ?_ | refine ko_steps mi_in127 2 _ (18, [(0, .ref 0), (1, .int x1)], [.int (i 6784)], (0, 0), ks i a q r) (by rfl) ?_
      refine ft_ifS mi_k127 ((i 6784) != 0) 24 21 [] (by rfl) (fun c => ?_) (fun c => ?_)
      ·
        have c16 : (i 6784).toInt ≠ (0 : Int32).toInt := kd_ne c; clear c
        refine fo_goS mi_k127 fz127_24_3_29 [.int x1, .ref 97] rfl ?_
        by_cases w18 : x1.toInt = 1
        ·
          refine ft_alx mi_k127 (pc := 29) (v := 1) (p := 97) (z := 106) (kj_eq w18 (by decide) : x1 = 1) (by decide +kernel) (by decide +kernel) ?_
          refine fo_goS mi_k127 fz127_30_1_31 [.int 0, .ref 106] rfl ?_
          refine ko_callPI mi_k127.1 (pc := 31) (ls := [(0, .ref 0), (1, .int x1)]) (st := [.int 0, .ref 106]) (h := ks i a q r) (i := (.invokevirtual 81, 3, 36, 0, 9, 0, 158)) (mi_k127.2 _ _ (by rfl)) (ft_invS mi_pq36 (by rfl)) (cy := mi_c36) mi_pq36 rfl (kc36_106 hG.I hG.R 0) (by decide) ?_
          intro vg19 hg19
          rcases hg19 with ⟨eg19, hg19⟩ | ⟨eg19, hg19⟩
          ·
            subst eg19
            have fi_6786 : ((0 : Int) ≤ (i 6786).toInt) ∧ ((i 6786).toInt ≤ 4) := hG.I.1 6786
            have z20 : ((i 6784).toInt = 2) ∧ ((i 6786).toInt = (0 : Int32).toInt) := hg19
            first | refine fo_goS mi_k127 fz127_34_3_43 [.int 0] (by rfl) ?_ | refine ft_goS mi_k127 3 43 [.int 0] (by rfl) ?_ | refine ko_steps mi_in127 3 _ (43, [(0, .ref 0), (1, .int x1)], [.int 0], (0, 0), ks i a q r) (by rfl) ?_
            exact ft_ret mi_k127 (by rfl) (hP 0 ⟨(toy20 w15 z2.2 ktoy0), (Or.inr ⟨1, by decide, (toy21 w15), Or.inr (Or.inr ⟨(toy11 fi_6784.2 z20.1), (toy12 fi_6786.1 z20.2 ktoy0), rfl⟩)⟩)⟩)
          ·
            subst eg19
            have fi_6786 : ((0 : Int) ≤ (i 6786).toInt) ∧ ((i 6786).toInt ≤ 4) := hG.I.1 6786
            have z21 : ¬ (((i 6784).toInt = 2) ∧ ((i 6786).toInt = (0 : Int32).toInt)) := hg19
            first | refine fo_goS mi_k127 fz127_37_2_43 [.int (-12)] (by rfl) ?_ | refine fo_goS mi_k127 fz127_34_2_43 [.int (-12)] (by rfl) ?_
            exact ft_ret mi_k127 (by rfl) (hP (-12) ⟨(toy13 koym12), (Or.inr ⟨1, by decide, (toy21 w15), Or.inr (Or.inl ⟨(toy14 c16 fi_6784.1 ktoy0), (toy15 fi_6784.2 fi_6786.1 z21 ktoy0), rfl⟩)⟩)⟩)
        exact (toy22 w15 w18).elim
      ·
        have c26 : (i 6784).toInt = (0 : Int32).toInt := kd_neF c; clear c
        refine fo_goS mi_k127 fz127_21_1_23 [.int (-11)] rfl ?_
        exact ft_ret mi_k127 (by rfl) (hP (-11) ⟨(toy17 koym11), (Or.inr ⟨1, by decide, (toy21 w15), Or.inl ⟨(toy18 c26 fi_6784.1 ktoy0), rfl⟩⟩)⟩)
    by_cases w27 : x1.toInt = 2
    ·
      refine ko_eq (x1 := (14, [(0, .ref 0), (1, .int x1)], [.int 2, .ref 97], (0, 0), ks i a q r)) (by rw [(kj_eq w27 (by decide) : x1 = 2)]) ?_
      have fi_6912 : ((0 : Int) ≤ (i 6912).toInt) ∧ ((i 6912).toInt ≤ 2) := hG.I.1 6912
      first | refine ft_goS mi_k127 2 18 [.int (i 6912)] (by rfl) ?_ | refine ko_steps mi_in127 2 _ (18, [(0, .ref 0), (1, .int x1)], [.int (i 6912)], (0, 0), ks i a q r) (by rfl) ?_
      refine ft_ifS mi_k127 ((i 6912) != 0) 24 21 [] (by rfl) (fun c => ?_) (fun c => ?_)
      ·
        have c28 : (i 6912).toInt ≠ (0 : Int32).toInt := kd_ne c; clear c
        refine fo_goS mi_k127 fz127_24_3_29 [.int x1, .ref 97] rfl ?_
        by_cases w31 : x1.toInt = 2
        ·
          refine ft_alx mi_k127 (pc := 29) (v := 2) (p := 97) (z := 108) (kj_eq w31 (by decide) : x1 = 2) (by decide +kernel) (by decide +kernel) ?_
          refine fo_goS mi_k127 fz127_30_1_31 [.int 0, .ref 108] rfl ?_
          refine ko_callPI mi_k127.1 (pc := 31) (ls := [(0, .ref 0), (1, .int x1)]) (st := [.int 0, .ref 108]) (h := ks i a q r) (i := (.invokevirtual 81, 3, 36, 0, 9, 0, 158)) (mi_k127.2 _ _ (by rfl)) (ft_invS mi_pq36 (by rfl)) (cy := mi_c36) mi_pq36 rfl (kc36_108 hG.I hG.R 0) (by decide) ?_
          intro vg32 hg32
          rcases hg32 with ⟨eg32, hg32⟩ | ⟨eg32, hg32⟩
          ·
            subst eg32
            have fi_6914 : ((0 : Int) ≤ (i 6914).toInt) ∧ ((i 6914).toInt ≤ 4) := hG.I.1 6914
            have z33 : ((i 6912).toInt = 2) ∧ ((i 6914).toInt = (0 : Int32).toInt) := hg32
            first | refine fo_goS mi_k127 fz127_34_3_43 [.int 0] (by rfl) ?_ | refine ft_goS mi_k127 3 43 [.int 0] (by rfl) ?_ | refine ko_steps mi_in127 3 _ (43, [(0, .ref 0), (1, .int x1)], [.int 0], (0, 0), ks i a q r) (by rfl) ?_
            exact ft_ret mi_k127 (by rfl) (hP 0 ⟨(toy24 w27 z2.2 ktoy0), (Or.inr ⟨2, by decide, (toy25 w27), Or.inr (Or.inr ⟨(toy11 fi_6912.2 z33.1), (toy12 fi_6914.1 z33.2 ktoy0), rfl⟩)⟩)⟩)
          ·
            subst eg32
            have fi_6914 : ((0 : Int) ≤ (i 6914).toInt) ∧ ((i 6914).toInt ≤ 4) := hG.I.1 6914
            have z34 : ¬ (((i 6912).toInt = 2) ∧ ((i 6914).toInt = (0 : Int32).toInt)) := hg32
            first | refine fo_goS mi_k127 fz127_37_2_43 [.int (-12)] (by rfl) ?_ | refine fo_goS mi_k127 fz127_34_2_43 [.int (-12)] (by rfl) ?_
            exact ft_ret mi_k127 (by rfl) (hP (-12) ⟨(toy13 koym12), (Or.inr ⟨2, by decide, (toy25 w27), Or.inr (Or.inl ⟨(toy14 c28 fi_6912.1 ktoy0), (toy15 fi_6912.2 fi_6914.1 z34 ktoy0), rfl⟩)⟩)⟩)
        exact (toy26 w27 w31).elim
      ·
        have c38 : (i 6912).toInt = (0 : Int32).toInt := kd_neF c; clear c
        refine fo_goS mi_k127 fz127_21_1_23 [.int (-11)] rfl ?_
        exact ft_ret mi_k127 (by rfl) (hP (-11) ⟨(toy17 koym11), (Or.inr ⟨2, by decide, (toy25 w27), Or.inl ⟨(toy18 c38 fi_6912.1 ktoy0), rfl⟩⟩)⟩)
    by_cases w39 : x1.toInt = 3
    ·
      refine ko_eq (x1 := (14, [(0, .ref 0), (1, .int x1)], [.int 3, .ref 97], (0, 0), ks i a q r)) (by rw [(kj_eq w39 (by decide) : x1 = 3)]) ?_
      have fi_7040 : ((0 : Int) ≤ (i 7040).toInt) ∧ ((i 7040).toInt ≤ 2) := hG.I.1 7040
      first | refine ft_goS mi_k127 2 18 [.int (i 7040)] (by rfl) ?_ | refine ko_steps mi_in127 2 _ (18, [(0, .ref 0), (1, .int x1)], [.int (i 7040)], (0, 0), ks i a q r) (by rfl) ?_
      refine ft_ifS mi_k127 ((i 7040) != 0) 24 21 [] (by rfl) (fun c => ?_) (fun c => ?_)
      ·
        have c40 : (i 7040).toInt ≠ (0 : Int32).toInt := kd_ne c; clear c
        refine fo_goS mi_k127 fz127_24_3_29 [.int x1, .ref 97] rfl ?_
        by_cases w44 : x1.toInt = 3
        ·
          refine ft_alx mi_k127 (pc := 29) (v := 3) (p := 97) (z := 110) (kj_eq w44 (by decide) : x1 = 3) (by decide +kernel) (by decide +kernel) ?_
          refine fo_goS mi_k127 fz127_30_1_31 [.int 0, .ref 110] rfl ?_
          refine ko_callPI mi_k127.1 (pc := 31) (ls := [(0, .ref 0), (1, .int x1)]) (st := [.int 0, .ref 110]) (h := ks i a q r) (i := (.invokevirtual 81, 3, 36, 0, 9, 0, 158)) (mi_k127.2 _ _ (by rfl)) (ft_invS mi_pq36 (by rfl)) (cy := mi_c36) mi_pq36 rfl (kc36_110 hG.I hG.R 0) (by decide) ?_
          intro vg45 hg45
          rcases hg45 with ⟨eg45, hg45⟩ | ⟨eg45, hg45⟩
          ·
            subst eg45
            have fi_7042 : ((0 : Int) ≤ (i 7042).toInt) ∧ ((i 7042).toInt ≤ 4) := hG.I.1 7042
            have z46 : ((i 7040).toInt = 2) ∧ ((i 7042).toInt = (0 : Int32).toInt) := hg45
            first | refine fo_goS mi_k127 fz127_34_3_43 [.int 0] (by rfl) ?_ | refine ft_goS mi_k127 3 43 [.int 0] (by rfl) ?_ | refine ko_steps mi_in127 3 _ (43, [(0, .ref 0), (1, .int x1)], [.int 0], (0, 0), ks i a q r) (by rfl) ?_
            exact ft_ret mi_k127 (by rfl) (hP 0 ⟨(toy28 w39 z2.2 ktoy0), (Or.inr ⟨3, by decide, (toy29 w39), Or.inr (Or.inr ⟨(toy11 fi_7040.2 z46.1), (toy12 fi_7042.1 z46.2 ktoy0), rfl⟩)⟩)⟩)
          ·
            subst eg45
            have fi_7042 : ((0 : Int) ≤ (i 7042).toInt) ∧ ((i 7042).toInt ≤ 4) := hG.I.1 7042
            have z47 : ¬ (((i 7040).toInt = 2) ∧ ((i 7042).toInt = (0 : Int32).toInt)) := hg45
            first | refine fo_goS mi_k127 fz127_37_2_43 [.int (-12)] (by rfl) ?_ | refine fo_goS mi_k127 fz127_34_2_43 [.int (-12)] (by rfl) ?_
            exact ft_ret mi_k127 (by rfl) (hP (-12) ⟨(toy13 koym12), (Or.inr ⟨3, by decide, (toy29 w39), Or.inr (Or.inl ⟨(toy14 c40 fi_7040.1 ktoy0), (toy15 fi_7040.2 fi_7042.1 z47 ktoy0), rfl⟩)⟩)⟩)
        exact (toy30 w39 w44).elim
      ·
        have c50 : (i 7040).toInt = (0 : Int32).toInt := kd_neF c; clear c
        refine fo_goS mi_k127 fz127_21_1_23 [.int (-11)] rfl ?_
        exact ft_ret mi_k127 (by rfl) (hP (-11) ⟨(toy17 koym11), (Or.inr ⟨3, by decide, (toy29 w39), Or.inl ⟨(toy18 c50 fi_7040.1 ktoy0), rfl⟩⟩)⟩)
    by_cases w51 : x1.toInt = 4
    ·
      refine ko_eq (x1 := (14, [(0, .ref 0), (1, .int x1)], [.int 4, .ref 97], (0, 0), ks i a q r)) (by rw [(kj_eq w51 (by decide) : x1 = 4)]) ?_
      have fi_7168 : ((0 : Int) ≤ (i 7168).toInt) ∧ ((i 7168).toInt ≤ 2) := hG.I.1 7168
      first | refine ft_goS mi_k127 2 18 [.int (i 7168)] (by rfl) ?_ | refine ko_steps mi_in127 2 _ (18, [(0, .ref 0), (1, .int x1)], [.int (i 7168)], (0, 0), ks i a q r) (by rfl) ?_
      refine ft_ifS mi_k127 ((i 7168) != 0) 24 21 [] (by rfl) (fun c => ?_) (fun c => ?_)
      ·
        have c52 : (i 7168).toInt ≠ (0 : Int32).toInt := kd_ne c; clear c
        refine fo_goS mi_k127 fz127_24_3_29 [.int x1, .ref 97] rfl ?_
        by_cases w57 : x1.toInt = 4
        ·
          refine ft_alx mi_k127 (pc := 29) (v := 4) (p := 97) (z := 112) (kj_eq w57 (by decide) : x1 = 4) (by decide +kernel) (by decide +kernel) ?_
          refine fo_goS mi_k127 fz127_30_1_31 [.int 0, .ref 112] rfl ?_
          refine ko_callPI mi_k127.1 (pc := 31) (ls := [(0, .ref 0), (1, .int x1)]) (st := [.int 0, .ref 112]) (h := ks i a q r) (i := (.invokevirtual 81, 3, 36, 0, 9, 0, 158)) (mi_k127.2 _ _ (by rfl)) (ft_invS mi_pq36 (by rfl)) (cy := mi_c36) mi_pq36 rfl (kc36_112 hG.I hG.R 0) (by decide) ?_
          intro vg58 hg58
          rcases hg58 with ⟨eg58, hg58⟩ | ⟨eg58, hg58⟩
          ·
            subst eg58
            have fi_7170 : ((0 : Int) ≤ (i 7170).toInt) ∧ ((i 7170).toInt ≤ 4) := hG.I.1 7170
            have z59 : ((i 7168).toInt = 2) ∧ ((i 7170).toInt = (0 : Int32).toInt) := hg58
            first | refine fo_goS mi_k127 fz127_34_3_43 [.int 0] (by rfl) ?_ | refine ft_goS mi_k127 3 43 [.int 0] (by rfl) ?_ | refine ko_steps mi_in127 3 _ (43, [(0, .ref 0), (1, .int x1)], [.int 0], (0, 0), ks i a q r) (by rfl) ?_
            exact ft_ret mi_k127 (by rfl) (hP 0 ⟨(toy32 w51 z2.2 ktoy0), (Or.inr ⟨4, by decide, (toy33 w51), Or.inr (Or.inr ⟨(toy11 fi_7168.2 z59.1), (toy12 fi_7170.1 z59.2 ktoy0), rfl⟩)⟩)⟩)
          ·
            subst eg58
            have fi_7170 : ((0 : Int) ≤ (i 7170).toInt) ∧ ((i 7170).toInt ≤ 4) := hG.I.1 7170
            have z60 : ¬ (((i 7168).toInt = 2) ∧ ((i 7170).toInt = (0 : Int32).toInt)) := hg58
            first | refine fo_goS mi_k127 fz127_37_2_43 [.int (-12)] (by rfl) ?_ | refine fo_goS mi_k127 fz127_34_2_43 [.int (-12)] (by rfl) ?_
            exact ft_ret mi_k127 (by rfl) (hP (-12) ⟨(toy13 koym12), (Or.inr ⟨4, by decide, (toy33 w51), Or.inr (Or.inl ⟨(toy14 c52 fi_7168.1 ktoy0), (toy15 fi_7168.2 fi_7170.1 z60 ktoy0), rfl⟩)⟩)⟩)
        exact (toy34 w51 w57).elim
      ·
        have c62 : (i 7168).toInt = (0 : Int32).toInt := kd_neF c; clear c
        refine fo_goS mi_k127 fz127_21_1_23 [.int (-11)] rfl ?_
        exact ft_ret mi_k127 (by rfl) (hP (-11) ⟨(toy17 koym11), (Or.inr ⟨4, by decide, (toy33 w51), Or.inl ⟨(toy18 c62 fi_7168.1 ktoy0), rfl⟩⟩)⟩)
    by_cases w63 : x1.toInt = 5
    ·
      refine ko_eq (x1 := (14, [(0, .ref 0), (1, .int x1)], [.int 5, .ref 97], (0, 0), ks i a q r)) (by rw [(kj_eq w63 (by decide) : x1 = 5)]) ?_
      have fi_7296 : ((0 : Int) ≤ (i 7296).toInt) ∧ ((i 7296).toInt ≤ 2) := hG.I.1 7296
      first | refine ft_goS mi_k127 2 18 [.int (i 7296)] (by rfl) ?_ | refine ko_steps mi_in127 2 _ (18, [(0, .ref 0), (1, .int x1)], [.int (i 7296)], (0, 0), ks i a q r) (by rfl) ?_
      refine ft_ifS mi_k127 ((i 7296) != 0) 24 21 [] (by rfl) (fun c => ?_) (fun c => ?_)
      ·
        have c64 : (i 7296).toInt ≠ (0 : Int32).toInt := kd_ne c; clear c
        refine fo_goS mi_k127 fz127_24_3_29 [.int x1, .ref 97] rfl ?_
        by_cases w70 : x1.toInt = 5
        ·
          refine ft_alx mi_k127 (pc := 29) (v := 5) (p := 97) (z := 114) (kj_eq w70 (by decide) : x1 = 5) (by decide +kernel) (by decide +kernel) ?_
          refine fo_goS mi_k127 fz127_30_1_31 [.int 0, .ref 114] rfl ?_
          refine ko_callPI mi_k127.1 (pc := 31) (ls := [(0, .ref 0), (1, .int x1)]) (st := [.int 0, .ref 114]) (h := ks i a q r) (i := (.invokevirtual 81, 3, 36, 0, 9, 0, 158)) (mi_k127.2 _ _ (by rfl)) (ft_invS mi_pq36 (by rfl)) (cy := mi_c36) mi_pq36 rfl (kc36_114 hG.I hG.R 0) (by decide) ?_
          intro vg71 hg71
          rcases hg71 with ⟨eg71, hg71⟩ | ⟨eg71, hg71⟩
          ·
            subst eg71
            have fi_7298 : ((0 : Int) ≤ (i 7298).toInt) ∧ ((i 7298).toInt ≤ 4) := hG.I.1 7298
            have z72 : ((i 7296).toInt = 2) ∧ ((i 7298).toInt = (0 : Int32).toInt) := hg71
            first | refine fo_goS mi_k127 fz127_34_3_43 [.int 0] (by rfl) ?_ | refine ft_goS mi_k127 3 43 [.int 0] (by rfl) ?_ | refine ko_steps mi_in127 3 _ (43, [(0, .ref 0), (1, .int x1)], [.int 0], (0, 0), ks i a q r) (by rfl) ?_
            exact ft_ret mi_k127 (by rfl) (hP 0 ⟨(toy36 w63 z2.2 ktoy0), (Or.inr ⟨5, by decide, (toy37 w63 z2.2), Or.inr (Or.inr ⟨(toy11 fi_7296.2 z72.1), (toy12 fi_7298.1 z72.2 ktoy0), rfl⟩)⟩)⟩)
          ·
            subst eg71
            have fi_7298 : ((0 : Int) ≤ (i 7298).toInt) ∧ ((i 7298).toInt ≤ 4) := hG.I.1 7298
            have z73 : ¬ (((i 7296).toInt = 2) ∧ ((i 7298).toInt = (0 : Int32).toInt)) := hg71
            first | refine fo_goS mi_k127 fz127_37_2_43 [.int (-12)] (by rfl) ?_ | refine fo_goS mi_k127 fz127_34_2_43 [.int (-12)] (by rfl) ?_
            exact ft_ret mi_k127 (by rfl) (hP (-12) ⟨(toy13 koym12), (Or.inr ⟨5, by decide, (toy37 w63 z2.2), Or.inr (Or.inl ⟨(toy14 c64 fi_7296.1 ktoy0), (toy15 fi_7296.2 fi_7298.1 z73 ktoy0), rfl⟩)⟩)⟩)
        exact (toy38 w63 w70 z2.2).elim
      ·
        have c74 : (i 7296).toInt = (0 : Int32).toInt := kd_neF c; clear c
        refine fo_goS mi_k127 fz127_21_1_23 [.int (-11)] rfl ?_
        exact ft_ret mi_k127 (by rfl) (hP (-11) ⟨(toy17 koym11), (Or.inr ⟨5, by decide, (toy37 w63 z2.2), Or.inl ⟨(toy18 c74 fi_7296.1 ktoy0), rfl⟩⟩)⟩)
    exact (toy39 w15 w27 w3 w39 w51 w63 z2.1 z2.2).elim
  ·
    subst eg1
    have z75 : ¬ (((0 : Int) ≤ x1.toInt) ∧ (x1.toInt ≤ 5)) := hg1
    first | refine ft_goS mi_k127 2 8 [.int (-1)] (by rfl) ?_ | refine ko_steps mi_in127 2 _ (8, [(0, .ref 0), (1, .int x1)], [.int (-1)], (0, 0), ks i a q r) (by rfl) ?_
    exact ft_ret mi_k127 (by rfl) (hP (-1) ⟨(toy40 koym1), (Or.inl ⟨(toy41 z75), rfl⟩)⟩)
noncomputable def yw58_49_104 : kW := ([3138], [74], [], [])
noncomputable def yw58_49_104_L7 : kW := ([3138], [74], [], [])
set_option maxRecDepth 100000 in
theorem ke58_49_104 {i : Nat → Int32} {a : Nat → List Int32} {q : Nat → List Int64} {r : Nat → Nat} (hI : kI i a q) (hr : kr r) (x2 : Int32) : km 1 58 [.ref 49, .ref 104, .int x2] (ks i a q r) (kVN yw58_49_104 i a q r (fun i1 a1 q1 r1 => (True) ∧ kRd x2 (i 6659).toInt (vQ (q 105) 0) (i1 3138).toInt (a1 74))) := by
  have hG := kG_self yw58_49_104 hI hr
  refine km_ofN (q := (mi_h58, mi_c58)) rfl (by decide) (Nat.le_of_ble_eq_true rfl) ?_
  intro P hP
  have hJ1 := kG_i hG 3138 rfl (v := 0) ⟨(toy45 ktoy0), (toy46 ktoy0)⟩
  first | refine fo_go mi_k58 fz58_0_5_7 [(3, .int 0), (0, .ref 49), (1, .ref 104), (2, .int x2)] [] (ku i 3138 0) a q r (by rfl) ?_ | refine fo_go mi_k58 fz58_52_5_7 [(3, .int 0), (0, .ref 49), (1, .ref 104), (2, .int x2)] [] (ku i 3138 0) a q r (by rfl) ?_ | refine ft_go mi_k58 5 7 [(3, .int 0), (0, .ref 49), (1, .ref 104), (2, .int x2)] [] (ku i 3138 0) a q r (by rfl) ?_
  have lp2 : ∀ (nz : Nat) (i2 : Nat → Int32) (a2 : Nat → List Int32) (q2 : Nat → List Int64) (r2 : Nat → Nat) (l3_2 : Int32), kG yw58_49_104_L7 (ku i 3138 0) a q r i2 a2 q2 r2 → (0 : Int) ≤ l3_2.toInt → l3_2.toInt ≤ 20 → (i2 3138).toInt = l3_2.toInt → l3_2.toInt ≤ (i 6659).toInt → kRp x2 (vQ (q 105) 0) l3_2.toInt (a2 74) → ((20 - l3_2.toInt)).toNat < nz → ko 1 (mi_h58, mi_c58) P (7, [(3, .int l3_2), (0, .ref 49), (1, .ref 104), (2, .int x2)], [], (0, 0), ks i2 a2 q2 r2) := by
    intro nz
    induction nz with
    | zero =>
      intro _ _ _ _ _ _ _ _ _ _ _ hm
      exact absurd hm (Nat.not_lt_zero _)
    | succ nz ih2 =>
      intro i2 a2 q2 r2 l3_2 hL2 p2_0 p2_1 p2_2 p2_3 O2_0 hm2
      have fi2_3138 : ((0 : Int) ≤ (i2 3138).toInt) ∧ ((i2 3138).toInt ≤ 20) := hL2.I.1 3138
      have efi2_6659 : (i2 6659).toInt = (i 6659).toInt := hL2.ti 6659 rfl
      refine fo_goL mi_k58 fz58_7_3_12 [(3, .int l3_2), (0, .ref 49), (1, .ref 104), (2, .int x2)] [.int (i2 6659), .int l3_2] rfl ?_
      refine ft_ifS mi_k58 (decide ((i2 6659) ≤ l3_2)) 63 15 [] (by rfl) (fun c => ?_) (fun c => ?_)
      ·
        have c3 : (i2 6659).toInt ≤ l3_2.toInt := kd_le c; clear c
        have hG4 := kG_call hJ1 hL2 (by decide +kernel)
        exact ft_ret mi_k58 (by rfl) (hP  _ _ _ _ hG4 ⟨trivial, (kRd_mk O2_0 (toy72 p2_2) (toy48 p2_0) (toy49 p2_1) (toy50 p2_3) (Or.inr (Or.inl (toy51 c3 efi2_6659 p2_3))))⟩)
      ·
        have c5 : l3_2.toInt < (i2 6659).toInt := kd_leF c; clear c
        refine fo_goS mi_k58 fz58_15_2_18 [.int 20, .int l3_2] rfl ?_
        refine ft_ifS mi_k58 (decide (20 ≤ l3_2)) 63 21 [] (by rfl) (fun c => ?_) (fun c => ?_)
        ·
          have c6 : (20 : Int32).toInt ≤ l3_2.toInt := kd_le c; clear c
          have hG7 := kG_call hJ1 hL2 (by decide +kernel)
          exact ft_ret mi_k58 (by rfl) (hP  _ _ _ _ hG7 ⟨trivial, (kRd_mk O2_0 (toy73 c6 fi2_3138.2 p2_2 ktoy20) (toy74 c6 ktoy20) (toy49 p2_1) (toy54 c5 efi2_6659) (Or.inl (toy75 c6 p2_1 ktoy20)))⟩)
        ·
          have c8 : l3_2.toInt < (20 : Int32).toInt := kd_leF c; clear c
          refine fo_goS mi_k58 fz58_21_3_26 [.int l3_2, .ref 105] rfl ?_
          refine ko_lald2 mi_k58.1 (l := q2 105) (n := 60) (c := 60) (ax := (0, 0, 0, 0, 0)) (mi_k58.2 _ _ (by rfl)) (by rfl) (by rfl) (hL2.I.2.2.2 105) rfl (toy48 p2_0) (toy53 p2_1) ?_
          refine fo_goL mi_k58 fz58_27_3_32 [(4, .int (((q2 105).getD l3_2.toNatClampNeg 0).toInt32)), (3, .int l3_2), (0, .ref 49), (1, .ref 104), (2, .int x2)] [.int (((q2 105).getD l3_2.toNatClampNeg 0).toInt32)] rfl ?_
          refine ft_ifS mi_k58 (decide ((((q2 105).getD l3_2.toNatClampNeg 0).toInt32) < 0)) 41 35 [] (by rfl) (fun c => ?_) (fun c => ?_)
          ·
            have c9 : (((q2 105).getD l3_2.toNatClampNeg 0).toInt32).toInt < (0 : Int32).toInt := kd_lt c; clear c
            have hG10 := kG_call hJ1 hL2 (by decide +kernel)
            exact ft_ret mi_k58 (by rfl) (hP  _ _ _ _ hG10 ⟨trivial, (kRd_mk O2_0 (toy72 p2_2) (toy48 p2_0) (toy49 p2_1) (toy54 c5 efi2_6659) (Or.inr (Or.inr (kRd_bad (y := l3_2) (Int.zero_add _).symm (toy48 p2_0) (congrArg (fun z : List Int64 => (z.getD l3_2.toNatClampNeg 0).toInt32) (hL2.fq 105 rfl : q2 105 = q 105)) (toy55 c9 ktoy0)))))⟩)
          ·
            have c11 : (0 : Int32).toInt ≤ (((q2 105).getD l3_2.toNatClampNeg 0).toInt32).toInt := kd_ltF c; clear c
            refine fo_goS mi_k58 fz58_35_2_38 [.int x2, .int (((q2 105).getD l3_2.toNatClampNeg 0).toInt32)] rfl ?_
            refine ft_ifS mi_k58 (decide ((((q2 105).getD l3_2.toNatClampNeg 0).toInt32) < x2)) 42 41 [] (by rfl) (fun c => ?_) (fun c => ?_)
            ·
              have c12 : (((q2 105).getD l3_2.toNatClampNeg 0).toInt32).toInt < x2.toInt := kd_lt c; clear c
              refine fo_goS mi_k58 fz58_42_4_49 [.int (((q2 105).getD l3_2.toNatClampNeg 0).toInt32), .int l3_2, .ref 74] rfl ?_
              refine ko_iast3 mi_k58.1 (n := 20) (c := 20) (ax := (0, 0, 0, 0, 0)) (mi_k58.2 _ _ (by rfl)) (by rfl) (ksG74 _ _ _ _) (ksA74 _ _ _ _) (hL2.I.2.1 74) rfl (toy48 p2_0) (toy56 c8 ktoy20) ?_
              intro a13 ea13 fa13
              have hJ13 := kG_a3 hL2 74 rfl ea13 fa13 (kd_bd _)
              have s14 : (l3_2 + 1).toInt = l3_2.toInt + (1 : Int32).toInt := kd_add (toy57 p2_0 ktoy1) (toy58 p2_1 ktoy1)
              have hJ15 := kG_i hJ13 3138 rfl (v := (l3_2 + 1)) ⟨(toy59 p2_0 s14 ktoy1), (toy60 c8 s14 ktoy20 ktoy1)⟩
              first | refine fo_go mi_k58 fz58_50_7_7 [(3, .int (l3_2 + 1)), (4, .int (((q2 105).getD l3_2.toNatClampNeg 0).toInt32)), (0, .ref 49), (1, .ref 104), (2, .int x2)] [] (ku i2 3138 (l3_2 + 1)) a13 q2 r2 (by rfl) ?_ | refine ft_go mi_k58 7 7 [(3, .int (l3_2 + 1)), (4, .int (((q2 105).getD l3_2.toNatClampNeg 0).toInt32)), (0, .ref 49), (1, .ref 104), (2, .int x2)] [] (ku i2 3138 (l3_2 + 1)) a13 q2 r2 (by rfl) ?_
              refine ko_perm [(3, .int (l3_2 + 1)), (0, .ref 49), (1, .ref 104), (2, .int x2)] (List.forall_mem_cons.mpr ⟨(List.Mem.head _), (List.forall_mem_cons.mpr ⟨(List.Mem.tail _ (List.Mem.tail _ (List.Mem.head _))), (List.forall_mem_cons.mpr ⟨(List.Mem.tail _ (List.Mem.tail _ (List.Mem.tail _ (List.Mem.head _)))), (List.forall_mem_cons.mpr ⟨(List.Mem.tail _ (List.Mem.tail _ (List.Mem.tail _ (List.Mem.tail _ (List.Mem.head _))))), (fun _ h => absurd h List.not_mem_nil)⟩)⟩)⟩)⟩) ?_
              exact ih2 _ _ _ _ _ hJ15 (toy59 p2_0 s14 ktoy1) (toy60 c8 s14 ktoy20 ktoy1) toy61 (toy62 c5 efi2_6659 s14 ktoy1) (kRp_step (y := l3_2) (m := 20) O2_0 (hL2.I.2.1 74) (toy48 p2_0) (toy63 c8 ktoy20) (toy64 s14 ktoy1) ea13 (Int.zero_add _).symm (congrArg (fun z : List Int64 => (z.getD l3_2.toNatClampNeg 0).toInt32) (hL2.fq 105 rfl : q2 105 = q 105)) (toy65 c11 ktoy0) (toy66 c12)) (kj_meas (toy67 s14 ktoy1) (toy68 c8 ktoy20) hm2)
            ·
              have c16 : x2.toInt ≤ (((q2 105).getD l3_2.toNatClampNeg 0).toInt32).toInt := kd_ltF c; clear c
              have hG17 := kG_call hJ1 hL2 (by decide +kernel)
              exact ft_ret mi_k58 (by rfl) (hP  _ _ _ _ hG17 ⟨trivial, (kRd_mk O2_0 (toy72 p2_2) (toy48 p2_0) (toy49 p2_1) (toy54 c5 efi2_6659) (Or.inr (Or.inr (kRd_bad (y := l3_2) (Int.zero_add _).symm (toy48 p2_0) (congrArg (fun z : List Int64 => (z.getD l3_2.toNatClampNeg 0).toInt32) (hL2.fq 105 rfl : q2 105 = q 105)) (toy69 c16)))))⟩)
  have fi_6659 : ((0 : Int) ≤ (i 6659).toInt) ∧ ((i 6659).toInt ≤ 60) := hG.I.1 6659
  exact lp2 _ _ _ _ _ _ (kG_self _ hJ1.I hJ1.R) (toy45 ktoy0) (toy46 ktoy0) (toy70 ktoy0) (toy71 fi_6659.1 ktoy0) (kRp_0 (Int.le_of_eq ktoy0)) (Nat.lt_succ_self _)
noncomputable def yw58_49_106 : kW := ([3138], [74], [], [])
noncomputable def yw58_49_106_L7 : kW := ([3138], [74], [], [])
set_option maxRecDepth 100000 in
theorem ke58_49_106 {i : Nat → Int32} {a : Nat → List Int32} {q : Nat → List Int64} {r : Nat → Nat} (hI : kI i a q) (hr : kr r) (x2 : Int32) : km 1 58 [.ref 49, .ref 106, .int x2] (ks i a q r) (kVN yw58_49_106 i a q r (fun i1 a1 q1 r1 => (True) ∧ kRd x2 (i 6787).toInt (vQ (q 107) 0) (i1 3138).toInt (a1 74))) := by
  have hG := kG_self yw58_49_106 hI hr
  refine km_ofN (q := (mi_h58, mi_c58)) rfl (by decide) (Nat.le_of_ble_eq_true rfl) ?_
  intro P hP
  have hJ1 := kG_i hG 3138 rfl (v := 0) ⟨(toy45 ktoy0), (toy46 ktoy0)⟩
  first | refine fo_go mi_k58 fz58_0_5_7 [(3, .int 0), (0, .ref 49), (1, .ref 106), (2, .int x2)] [] (ku i 3138 0) a q r (by rfl) ?_ | refine fo_go mi_k58 fz58_52_5_7 [(3, .int 0), (0, .ref 49), (1, .ref 106), (2, .int x2)] [] (ku i 3138 0) a q r (by rfl) ?_ | refine ft_go mi_k58 5 7 [(3, .int 0), (0, .ref 49), (1, .ref 106), (2, .int x2)] [] (ku i 3138 0) a q r (by rfl) ?_
  have lp2 : ∀ (nz : Nat) (i2 : Nat → Int32) (a2 : Nat → List Int32) (q2 : Nat → List Int64) (r2 : Nat → Nat) (l3_2 : Int32), kG yw58_49_106_L7 (ku i 3138 0) a q r i2 a2 q2 r2 → (0 : Int) ≤ l3_2.toInt → l3_2.toInt ≤ 20 → (i2 3138).toInt = l3_2.toInt → l3_2.toInt ≤ (i 6787).toInt → kRp x2 (vQ (q 107) 0) l3_2.toInt (a2 74) → ((20 - l3_2.toInt)).toNat < nz → ko 1 (mi_h58, mi_c58) P (7, [(3, .int l3_2), (0, .ref 49), (1, .ref 106), (2, .int x2)], [], (0, 0), ks i2 a2 q2 r2) := by
    intro nz
    induction nz with
    | zero =>
      intro _ _ _ _ _ _ _ _ _ _ _ hm
      exact absurd hm (Nat.not_lt_zero _)
    | succ nz ih2 =>
      intro i2 a2 q2 r2 l3_2 hL2 p2_0 p2_1 p2_2 p2_3 O2_0 hm2
      have fi2_3138 : ((0 : Int) ≤ (i2 3138).toInt) ∧ ((i2 3138).toInt ≤ 20) := hL2.I.1 3138
      have efi2_6787 : (i2 6787).toInt = (i 6787).toInt := hL2.ti 6787 rfl
      refine fo_goL mi_k58 fz58_7_3_12 [(3, .int l3_2), (0, .ref 49), (1, .ref 106), (2, .int x2)] [.int (i2 6787), .int l3_2] rfl ?_
      refine ft_ifS mi_k58 (decide ((i2 6787) ≤ l3_2)) 63 15 [] (by rfl) (fun c => ?_) (fun c => ?_)
      ·
        have c3 : (i2 6787).toInt ≤ l3_2.toInt := kd_le c; clear c
        have hG4 := kG_call hJ1 hL2 (by decide +kernel)
        exact ft_ret mi_k58 (by rfl) (hP  _ _ _ _ hG4 ⟨trivial, (kRd_mk O2_0 (toy72 p2_2) (toy48 p2_0) (toy49 p2_1) (toy50 p2_3) (Or.inr (Or.inl (toy51 c3 efi2_6787 p2_3))))⟩)
      ·
        have c5 : l3_2.toInt < (i2 6787).toInt := kd_leF c; clear c
        refine fo_goS mi_k58 fz58_15_2_18 [.int 20, .int l3_2] rfl ?_
        refine ft_ifS mi_k58 (decide (20 ≤ l3_2)) 63 21 [] (by rfl) (fun c => ?_) (fun c => ?_)
        ·
          have c6 : (20 : Int32).toInt ≤ l3_2.toInt := kd_le c; clear c
          have hG7 := kG_call hJ1 hL2 (by decide +kernel)
          exact ft_ret mi_k58 (by rfl) (hP  _ _ _ _ hG7 ⟨trivial, (kRd_mk O2_0 (toy73 c6 fi2_3138.2 p2_2 ktoy20) (toy74 c6 ktoy20) (toy49 p2_1) (toy54 c5 efi2_6787) (Or.inl (toy75 c6 p2_1 ktoy20)))⟩)
        ·
          have c8 : l3_2.toInt < (20 : Int32).toInt := kd_leF c; clear c
          refine fo_goS mi_k58 fz58_21_3_26 [.int l3_2, .ref 107] rfl ?_
          refine ko_lald2 mi_k58.1 (l := q2 107) (n := 60) (c := 60) (ax := (0, 0, 0, 0, 0)) (mi_k58.2 _ _ (by rfl)) (by rfl) (by rfl) (hL2.I.2.2.2 107) rfl (toy48 p2_0) (toy53 p2_1) ?_
          refine fo_goL mi_k58 fz58_27_3_32 [(4, .int (((q2 107).getD l3_2.toNatClampNeg 0).toInt32)), (3, .int l3_2), (0, .ref 49), (1, .ref 106), (2, .int x2)] [.int (((q2 107).getD l3_2.toNatClampNeg 0).toInt32)] rfl ?_
          refine ft_ifS mi_k58 (decide ((((q2 107).getD l3_2.toNatClampNeg 0).toInt32) < 0)) 41 35 [] (by rfl) (fun c => ?_) (fun c => ?_)
          ·
            have c9 : (((q2 107).getD l3_2.toNatClampNeg 0).toInt32).toInt < (0 : Int32).toInt := kd_lt c; clear c
            have hG10 := kG_call hJ1 hL2 (by decide +kernel)
            exact ft_ret mi_k58 (by rfl) (hP  _ _ _ _ hG10 ⟨trivial, (kRd_mk O2_0 (toy72 p2_2) (toy48 p2_0) (toy49 p2_1) (toy54 c5 efi2_6787) (Or.inr (Or.inr (kRd_bad (y := l3_2) (Int.zero_add _).symm (toy48 p2_0) (congrArg (fun z : List Int64 => (z.getD l3_2.toNatClampNeg 0).toInt32) (hL2.fq 107 rfl : q2 107 = q 107)) (toy55 c9 ktoy0)))))⟩)
          ·
            have c11 : (0 : Int32).toInt ≤ (((q2 107).getD l3_2.toNatClampNeg 0).toInt32).toInt := kd_ltF c; clear c
            refine fo_goS mi_k58 fz58_35_2_38 [.int x2, .int (((q2 107).getD l3_2.toNatClampNeg 0).toInt32)] rfl ?_
            refine ft_ifS mi_k58 (decide ((((q2 107).getD l3_2.toNatClampNeg 0).toInt32) < x2)) 42 41 [] (by rfl) (fun c => ?_) (fun c => ?_)
            ·
              have c12 : (((q2 107).getD l3_2.toNatClampNeg 0).toInt32).toInt < x2.toInt := kd_lt c; clear c
              refine fo_goS mi_k58 fz58_42_4_49 [.int (((q2 107).getD l3_2.toNatClampNeg 0).toInt32), .int l3_2, .ref 74] rfl ?_
              refine ko_iast3 mi_k58.1 (n := 20) (c := 20) (ax := (0, 0, 0, 0, 0)) (mi_k58.2 _ _ (by rfl)) (by rfl) (ksG74 _ _ _ _) (ksA74 _ _ _ _) (hL2.I.2.1 74) rfl (toy48 p2_0) (toy56 c8 ktoy20) ?_
              intro a13 ea13 fa13
              have hJ13 := kG_a3 hL2 74 rfl ea13 fa13 (kd_bd _)
              have s14 : (l3_2 + 1).toInt = l3_2.toInt + (1 : Int32).toInt := kd_add (toy57 p2_0 ktoy1) (toy58 p2_1 ktoy1)
              have hJ15 := kG_i hJ13 3138 rfl (v := (l3_2 + 1)) ⟨(toy59 p2_0 s14 ktoy1), (toy60 c8 s14 ktoy20 ktoy1)⟩
              first | refine fo_go mi_k58 fz58_50_7_7 [(3, .int (l3_2 + 1)), (4, .int (((q2 107).getD l3_2.toNatClampNeg 0).toInt32)), (0, .ref 49), (1, .ref 106), (2, .int x2)] [] (ku i2 3138 (l3_2 + 1)) a13 q2 r2 (by rfl) ?_ | refine ft_go mi_k58 7 7 [(3, .int (l3_2 + 1)), (4, .int (((q2 107).getD l3_2.toNatClampNeg 0).toInt32)), (0, .ref 49), (1, .ref 106), (2, .int x2)] [] (ku i2 3138 (l3_2 + 1)) a13 q2 r2 (by rfl) ?_
              refine ko_perm [(3, .int (l3_2 + 1)), (0, .ref 49), (1, .ref 106), (2, .int x2)] (List.forall_mem_cons.mpr ⟨(List.Mem.head _), (List.forall_mem_cons.mpr ⟨(List.Mem.tail _ (List.Mem.tail _ (List.Mem.head _))), (List.forall_mem_cons.mpr ⟨(List.Mem.tail _ (List.Mem.tail _ (List.Mem.tail _ (List.Mem.head _)))), (List.forall_mem_cons.mpr ⟨(List.Mem.tail _ (List.Mem.tail _ (List.Mem.tail _ (List.Mem.tail _ (List.Mem.head _))))), (fun _ h => absurd h List.not_mem_nil)⟩)⟩)⟩)⟩) ?_
              exact ih2 _ _ _ _ _ hJ15 (toy59 p2_0 s14 ktoy1) (toy60 c8 s14 ktoy20 ktoy1) toy61 (toy62 c5 efi2_6787 s14 ktoy1) (kRp_step (y := l3_2) (m := 20) O2_0 (hL2.I.2.1 74) (toy48 p2_0) (toy63 c8 ktoy20) (toy64 s14 ktoy1) ea13 (Int.zero_add _).symm (congrArg (fun z : List Int64 => (z.getD l3_2.toNatClampNeg 0).toInt32) (hL2.fq 107 rfl : q2 107 = q 107)) (toy65 c11 ktoy0) (toy66 c12)) (kj_meas (toy67 s14 ktoy1) (toy68 c8 ktoy20) hm2)
            ·
              have c16 : x2.toInt ≤ (((q2 107).getD l3_2.toNatClampNeg 0).toInt32).toInt := kd_ltF c; clear c
              have hG17 := kG_call hJ1 hL2 (by decide +kernel)
              exact ft_ret mi_k58 (by rfl) (hP  _ _ _ _ hG17 ⟨trivial, (kRd_mk O2_0 (toy72 p2_2) (toy48 p2_0) (toy49 p2_1) (toy54 c5 efi2_6787) (Or.inr (Or.inr (kRd_bad (y := l3_2) (Int.zero_add _).symm (toy48 p2_0) (congrArg (fun z : List Int64 => (z.getD l3_2.toNatClampNeg 0).toInt32) (hL2.fq 107 rfl : q2 107 = q 107)) (toy69 c16)))))⟩)
  have fi_6787 : ((0 : Int) ≤ (i 6787).toInt) ∧ ((i 6787).toInt ≤ 60) := hG.I.1 6787
  exact lp2 _ _ _ _ _ _ (kG_self _ hJ1.I hJ1.R) (toy45 ktoy0) (toy46 ktoy0) (toy70 ktoy0) (toy71 fi_6787.1 ktoy0) (kRp_0 (Int.le_of_eq ktoy0)) (Nat.lt_succ_self _)
noncomputable def yw58_49_108 : kW := ([3138], [74], [], [])
noncomputable def yw58_49_108_L7 : kW := ([3138], [74], [], [])
set_option maxRecDepth 100000 in
theorem ke58_49_108 {i : Nat → Int32} {a : Nat → List Int32} {q : Nat → List Int64} {r : Nat → Nat} (hI : kI i a q) (hr : kr r) (x2 : Int32) : km 1 58 [.ref 49, .ref 108, .int x2] (ks i a q r) (kVN yw58_49_108 i a q r (fun i1 a1 q1 r1 => (True) ∧ kRd x2 (i 6915).toInt (vQ (q 109) 0) (i1 3138).toInt (a1 74))) := by
  have hG := kG_self yw58_49_108 hI hr
  refine km_ofN (q := (mi_h58, mi_c58)) rfl (by decide) (Nat.le_of_ble_eq_true rfl) ?_
  intro P hP
  have hJ1 := kG_i hG 3138 rfl (v := 0) ⟨(toy45 ktoy0), (toy46 ktoy0)⟩
  first | refine fo_go mi_k58 fz58_0_5_7 [(3, .int 0), (0, .ref 49), (1, .ref 108), (2, .int x2)] [] (ku i 3138 0) a q r (by rfl) ?_ | refine fo_go mi_k58 fz58_52_5_7 [(3, .int 0), (0, .ref 49), (1, .ref 108), (2, .int x2)] [] (ku i 3138 0) a q r (by rfl) ?_ | refine ft_go mi_k58 5 7 [(3, .int 0), (0, .ref 49), (1, .ref 108), (2, .int x2)] [] (ku i 3138 0) a q r (by rfl) ?_
  have lp2 : ∀ (nz : Nat) (i2 : Nat → Int32) (a2 : Nat → List Int32) (q2 : Nat → List Int64) (r2 : Nat → Nat) (l3_2 : Int32), kG yw58_49_108_L7 (ku i 3138 0) a q r i2 a2 q2 r2 → (0 : Int) ≤ l3_2.toInt → l3_2.toInt ≤ 20 → (i2 3138).toInt = l3_2.toInt → l3_2.toInt ≤ (i 6915).toInt → kRp x2 (vQ (q 109) 0) l3_2.toInt (a2 74) → ((20 - l3_2.toInt)).toNat < nz → ko 1 (mi_h58, mi_c58) P (7, [(3, .int l3_2), (0, .ref 49), (1, .ref 108), (2, .int x2)], [], (0, 0), ks i2 a2 q2 r2) := by
    intro nz
    induction nz with
    | zero =>
      intro _ _ _ _ _ _ _ _ _ _ _ hm
      exact absurd hm (Nat.not_lt_zero _)
    | succ nz ih2 =>
      intro i2 a2 q2 r2 l3_2 hL2 p2_0 p2_1 p2_2 p2_3 O2_0 hm2
      have fi2_3138 : ((0 : Int) ≤ (i2 3138).toInt) ∧ ((i2 3138).toInt ≤ 20) := hL2.I.1 3138
      have efi2_6915 : (i2 6915).toInt = (i 6915).toInt := hL2.ti 6915 rfl
      refine fo_goL mi_k58 fz58_7_3_12 [(3, .int l3_2), (0, .ref 49), (1, .ref 108), (2, .int x2)] [.int (i2 6915), .int l3_2] rfl ?_
      refine ft_ifS mi_k58 (decide ((i2 6915) ≤ l3_2)) 63 15 [] (by rfl) (fun c => ?_) (fun c => ?_)
      ·
        have c3 : (i2 6915).toInt ≤ l3_2.toInt := kd_le c; clear c
        have hG4 := kG_call hJ1 hL2 (by decide +kernel)
        exact ft_ret mi_k58 (by rfl) (hP  _ _ _ _ hG4 ⟨trivial, (kRd_mk O2_0 (toy72 p2_2) (toy48 p2_0) (toy49 p2_1) (toy50 p2_3) (Or.inr (Or.inl (toy51 c3 efi2_6915 p2_3))))⟩)
      ·
        have c5 : l3_2.toInt < (i2 6915).toInt := kd_leF c; clear c
        refine fo_goS mi_k58 fz58_15_2_18 [.int 20, .int l3_2] rfl ?_
        refine ft_ifS mi_k58 (decide (20 ≤ l3_2)) 63 21 [] (by rfl) (fun c => ?_) (fun c => ?_)
        ·
          have c6 : (20 : Int32).toInt ≤ l3_2.toInt := kd_le c; clear c
          have hG7 := kG_call hJ1 hL2 (by decide +kernel)
          exact ft_ret mi_k58 (by rfl) (hP  _ _ _ _ hG7 ⟨trivial, (kRd_mk O2_0 (toy73 c6 fi2_3138.2 p2_2 ktoy20) (toy74 c6 ktoy20) (toy49 p2_1) (toy54 c5 efi2_6915) (Or.inl (toy75 c6 p2_1 ktoy20)))⟩)
        ·
          have c8 : l3_2.toInt < (20 : Int32).toInt := kd_leF c; clear c
          refine fo_goS mi_k58 fz58_21_3_26 [.int l3_2, .ref 109] rfl ?_
          refine ko_lald2 mi_k58.1 (l := q2 109) (n := 60) (c := 60) (ax := (0, 0, 0, 0, 0)) (mi_k58.2 _ _ (by rfl)) (by rfl) (by rfl) (hL2.I.2.2.2 109) rfl (toy48 p2_0) (toy53 p2_1) ?_
          refine fo_goL mi_k58 fz58_27_3_32 [(4, .int (((q2 109).getD l3_2.toNatClampNeg 0).toInt32)), (3, .int l3_2), (0, .ref 49), (1, .ref 108), (2, .int x2)] [.int (((q2 109).getD l3_2.toNatClampNeg 0).toInt32)] rfl ?_
          refine ft_ifS mi_k58 (decide ((((q2 109).getD l3_2.toNatClampNeg 0).toInt32) < 0)) 41 35 [] (by rfl) (fun c => ?_) (fun c => ?_)
          ·
            have c9 : (((q2 109).getD l3_2.toNatClampNeg 0).toInt32).toInt < (0 : Int32).toInt := kd_lt c; clear c
            have hG10 := kG_call hJ1 hL2 (by decide +kernel)
            exact ft_ret mi_k58 (by rfl) (hP  _ _ _ _ hG10 ⟨trivial, (kRd_mk O2_0 (toy72 p2_2) (toy48 p2_0) (toy49 p2_1) (toy54 c5 efi2_6915) (Or.inr (Or.inr (kRd_bad (y := l3_2) (Int.zero_add _).symm (toy48 p2_0) (congrArg (fun z : List Int64 => (z.getD l3_2.toNatClampNeg 0).toInt32) (hL2.fq 109 rfl : q2 109 = q 109)) (toy55 c9 ktoy0)))))⟩)
          ·
            have c11 : (0 : Int32).toInt ≤ (((q2 109).getD l3_2.toNatClampNeg 0).toInt32).toInt := kd_ltF c; clear c
            refine fo_goS mi_k58 fz58_35_2_38 [.int x2, .int (((q2 109).getD l3_2.toNatClampNeg 0).toInt32)] rfl ?_
            refine ft_ifS mi_k58 (decide ((((q2 109).getD l3_2.toNatClampNeg 0).toInt32) < x2)) 42 41 [] (by rfl) (fun c => ?_) (fun c => ?_)
            ·
              have c12 : (((q2 109).getD l3_2.toNatClampNeg 0).toInt32).toInt < x2.toInt := kd_lt c; clear c
              refine fo_goS mi_k58 fz58_42_4_49 [.int (((q2 109).getD l3_2.toNatClampNeg 0).toInt32), .int l3_2, .ref 74] rfl ?_
              refine ko_iast3 mi_k58.1 (n := 20) (c := 20) (ax := (0, 0, 0, 0, 0)) (mi_k58.2 _ _ (by rfl)) (by rfl) (ksG74 _ _ _ _) (ksA74 _ _ _ _) (hL2.I.2.1 74) rfl (toy48 p2_0) (toy56 c8 ktoy20) ?_
              intro a13 ea13 fa13
              have hJ13 := kG_a3 hL2 74 rfl ea13 fa13 (kd_bd _)
              have s14 : (l3_2 + 1).toInt = l3_2.toInt + (1 : Int32).toInt := kd_add (toy57 p2_0 ktoy1) (toy58 p2_1 ktoy1)
              have hJ15 := kG_i hJ13 3138 rfl (v := (l3_2 + 1)) ⟨(toy59 p2_0 s14 ktoy1), (toy60 c8 s14 ktoy20 ktoy1)⟩
              first | refine fo_go mi_k58 fz58_50_7_7 [(3, .int (l3_2 + 1)), (4, .int (((q2 109).getD l3_2.toNatClampNeg 0).toInt32)), (0, .ref 49), (1, .ref 108), (2, .int x2)] [] (ku i2 3138 (l3_2 + 1)) a13 q2 r2 (by rfl) ?_ | refine ft_go mi_k58 7 7 [(3, .int (l3_2 + 1)), (4, .int (((q2 109).getD l3_2.toNatClampNeg 0).toInt32)), (0, .ref 49), (1, .ref 108), (2, .int x2)] [] (ku i2 3138 (l3_2 + 1)) a13 q2 r2 (by rfl) ?_
              refine ko_perm [(3, .int (l3_2 + 1)), (0, .ref 49), (1, .ref 108), (2, .int x2)] (List.forall_mem_cons.mpr ⟨(List.Mem.head _), (List.forall_mem_cons.mpr ⟨(List.Mem.tail _ (List.Mem.tail _ (List.Mem.head _))), (List.forall_mem_cons.mpr ⟨(List.Mem.tail _ (List.Mem.tail _ (List.Mem.tail _ (List.Mem.head _)))), (List.forall_mem_cons.mpr ⟨(List.Mem.tail _ (List.Mem.tail _ (List.Mem.tail _ (List.Mem.tail _ (List.Mem.head _))))), (fun _ h => absurd h List.not_mem_nil)⟩)⟩)⟩)⟩) ?_
              exact ih2 _ _ _ _ _ hJ15 (toy59 p2_0 s14 ktoy1) (toy60 c8 s14 ktoy20 ktoy1) toy61 (toy62 c5 efi2_6915 s14 ktoy1) (kRp_step (y := l3_2) (m := 20) O2_0 (hL2.I.2.1 74) (toy48 p2_0) (toy63 c8 ktoy20) (toy64 s14 ktoy1) ea13 (Int.zero_add _).symm (congrArg (fun z : List Int64 => (z.getD l3_2.toNatClampNeg 0).toInt32) (hL2.fq 109 rfl : q2 109 = q 109)) (toy65 c11 ktoy0) (toy66 c12)) (kj_meas (toy67 s14 ktoy1) (toy68 c8 ktoy20) hm2)
            ·
              have c16 : x2.toInt ≤ (((q2 109).getD l3_2.toNatClampNeg 0).toInt32).toInt := kd_ltF c; clear c
              have hG17 := kG_call hJ1 hL2 (by decide +kernel)
              exact ft_ret mi_k58 (by rfl) (hP  _ _ _ _ hG17 ⟨trivial, (kRd_mk O2_0 (toy72 p2_2) (toy48 p2_0) (toy49 p2_1) (toy54 c5 efi2_6915) (Or.inr (Or.inr (kRd_bad (y := l3_2) (Int.zero_add _).symm (toy48 p2_0) (congrArg (fun z : List Int64 => (z.getD l3_2.toNatClampNeg 0).toInt32) (hL2.fq 109 rfl : q2 109 = q 109)) (toy69 c16)))))⟩)
  have fi_6915 : ((0 : Int) ≤ (i 6915).toInt) ∧ ((i 6915).toInt ≤ 60) := hG.I.1 6915
  exact lp2 _ _ _ _ _ _ (kG_self _ hJ1.I hJ1.R) (toy45 ktoy0) (toy46 ktoy0) (toy70 ktoy0) (toy71 fi_6915.1 ktoy0) (kRp_0 (Int.le_of_eq ktoy0)) (Nat.lt_succ_self _)
noncomputable def yw58_49_110 : kW := ([3138], [74], [], [])
noncomputable def yw58_49_110_L7 : kW := ([3138], [74], [], [])
set_option maxRecDepth 100000 in
theorem ke58_49_110 {i : Nat → Int32} {a : Nat → List Int32} {q : Nat → List Int64} {r : Nat → Nat} (hI : kI i a q) (hr : kr r) (x2 : Int32) : km 1 58 [.ref 49, .ref 110, .int x2] (ks i a q r) (kVN yw58_49_110 i a q r (fun i1 a1 q1 r1 => (True) ∧ kRd x2 (i 7043).toInt (vQ (q 111) 0) (i1 3138).toInt (a1 74))) := by
  have hG := kG_self yw58_49_110 hI hr
  refine km_ofN (q := (mi_h58, mi_c58)) rfl (by decide) (Nat.le_of_ble_eq_true rfl) ?_
  intro P hP
  have hJ1 := kG_i hG 3138 rfl (v := 0) ⟨(toy45 ktoy0), (toy46 ktoy0)⟩
  first | refine fo_go mi_k58 fz58_0_5_7 [(3, .int 0), (0, .ref 49), (1, .ref 110), (2, .int x2)] [] (ku i 3138 0) a q r (by rfl) ?_ | refine fo_go mi_k58 fz58_52_5_7 [(3, .int 0), (0, .ref 49), (1, .ref 110), (2, .int x2)] [] (ku i 3138 0) a q r (by rfl) ?_ | refine ft_go mi_k58 5 7 [(3, .int 0), (0, .ref 49), (1, .ref 110), (2, .int x2)] [] (ku i 3138 0) a q r (by rfl) ?_
  have lp2 : ∀ (nz : Nat) (i2 : Nat → Int32) (a2 : Nat → List Int32) (q2 : Nat → List Int64) (r2 : Nat → Nat) (l3_2 : Int32), kG yw58_49_110_L7 (ku i 3138 0) a q r i2 a2 q2 r2 → (0 : Int) ≤ l3_2.toInt → l3_2.toInt ≤ 20 → (i2 3138).toInt = l3_2.toInt → l3_2.toInt ≤ (i 7043).toInt → kRp x2 (vQ (q 111) 0) l3_2.toInt (a2 74) → ((20 - l3_2.toInt)).toNat < nz → ko 1 (mi_h58, mi_c58) P (7, [(3, .int l3_2), (0, .ref 49), (1, .ref 110), (2, .int x2)], [], (0, 0), ks i2 a2 q2 r2) := by
    intro nz
    induction nz with
    | zero =>
      intro _ _ _ _ _ _ _ _ _ _ _ hm
      exact absurd hm (Nat.not_lt_zero _)
    | succ nz ih2 =>
      intro i2 a2 q2 r2 l3_2 hL2 p2_0 p2_1 p2_2 p2_3 O2_0 hm2
      have fi2_3138 : ((0 : Int) ≤ (i2 3138).toInt) ∧ ((i2 3138).toInt ≤ 20) := hL2.I.1 3138
      have efi2_7043 : (i2 7043).toInt = (i 7043).toInt := hL2.ti 7043 rfl
      refine fo_goL mi_k58 fz58_7_3_12 [(3, .int l3_2), (0, .ref 49), (1, .ref 110), (2, .int x2)] [.int (i2 7043), .int l3_2] rfl ?_
      refine ft_ifS mi_k58 (decide ((i2 7043) ≤ l3_2)) 63 15 [] (by rfl) (fun c => ?_) (fun c => ?_)
      ·
        have c3 : (i2 7043).toInt ≤ l3_2.toInt := kd_le c; clear c
        have hG4 := kG_call hJ1 hL2 (by decide +kernel)
        exact ft_ret mi_k58 (by rfl) (hP  _ _ _ _ hG4 ⟨trivial, (kRd_mk O2_0 (toy72 p2_2) (toy48 p2_0) (toy49 p2_1) (toy50 p2_3) (Or.inr (Or.inl (toy51 c3 efi2_7043 p2_3))))⟩)
      ·
        have c5 : l3_2.toInt < (i2 7043).toInt := kd_leF c; clear c
        refine fo_goS mi_k58 fz58_15_2_18 [.int 20, .int l3_2] rfl ?_
        refine ft_ifS mi_k58 (decide (20 ≤ l3_2)) 63 21 [] (by rfl) (fun c => ?_) (fun c => ?_)
        ·
          have c6 : (20 : Int32).toInt ≤ l3_2.toInt := kd_le c; clear c
          have hG7 := kG_call hJ1 hL2 (by decide +kernel)
          exact ft_ret mi_k58 (by rfl) (hP  _ _ _ _ hG7 ⟨trivial, (kRd_mk O2_0 (toy73 c6 fi2_3138.2 p2_2 ktoy20) (toy74 c6 ktoy20) (toy49 p2_1) (toy54 c5 efi2_7043) (Or.inl (toy75 c6 p2_1 ktoy20)))⟩)
        ·
          have c8 : l3_2.toInt < (20 : Int32).toInt := kd_leF c; clear c
          refine fo_goS mi_k58 fz58_21_3_26 [.int l3_2, .ref 111] rfl ?_
          refine ko_lald2 mi_k58.1 (l := q2 111) (n := 60) (c := 60) (ax := (0, 0, 0, 0, 0)) (mi_k58.2 _ _ (by rfl)) (by rfl) (by rfl) (hL2.I.2.2.2 111) rfl (toy48 p2_0) (toy53 p2_1) ?_
          refine fo_goL mi_k58 fz58_27_3_32 [(4, .int (((q2 111).getD l3_2.toNatClampNeg 0).toInt32)), (3, .int l3_2), (0, .ref 49), (1, .ref 110), (2, .int x2)] [.int (((q2 111).getD l3_2.toNatClampNeg 0).toInt32)] rfl ?_
          refine ft_ifS mi_k58 (decide ((((q2 111).getD l3_2.toNatClampNeg 0).toInt32) < 0)) 41 35 [] (by rfl) (fun c => ?_) (fun c => ?_)
          ·
            have c9 : (((q2 111).getD l3_2.toNatClampNeg 0).toInt32).toInt < (0 : Int32).toInt := kd_lt c; clear c
            have hG10 := kG_call hJ1 hL2 (by decide +kernel)
            exact ft_ret mi_k58 (by rfl) (hP  _ _ _ _ hG10 ⟨trivial, (kRd_mk O2_0 (toy72 p2_2) (toy48 p2_0) (toy49 p2_1) (toy54 c5 efi2_7043) (Or.inr (Or.inr (kRd_bad (y := l3_2) (Int.zero_add _).symm (toy48 p2_0) (congrArg (fun z : List Int64 => (z.getD l3_2.toNatClampNeg 0).toInt32) (hL2.fq 111 rfl : q2 111 = q 111)) (toy55 c9 ktoy0)))))⟩)
          ·
            have c11 : (0 : Int32).toInt ≤ (((q2 111).getD l3_2.toNatClampNeg 0).toInt32).toInt := kd_ltF c; clear c
            refine fo_goS mi_k58 fz58_35_2_38 [.int x2, .int (((q2 111).getD l3_2.toNatClampNeg 0).toInt32)] rfl ?_
            refine ft_ifS mi_k58 (decide ((((q2 111).getD l3_2.toNatClampNeg 0).toInt32) < x2)) 42 41 [] (by rfl) (fun c => ?_) (fun c => ?_)
            ·
              have c12 : (((q2 111).getD l3_2.toNatClampNeg 0).toInt32).toInt < x2.toInt := kd_lt c; clear c
              refine fo_goS mi_k58 fz58_42_4_49 [.int (((q2 111).getD l3_2.toNatClampNeg 0).toInt32), .int l3_2, .ref 74] rfl ?_
              refine ko_iast3 mi_k58.1 (n := 20) (c := 20) (ax := (0, 0, 0, 0, 0)) (mi_k58.2 _ _ (by rfl)) (by rfl) (ksG74 _ _ _ _) (ksA74 _ _ _ _) (hL2.I.2.1 74) rfl (toy48 p2_0) (toy56 c8 ktoy20) ?_
              intro a13 ea13 fa13
              have hJ13 := kG_a3 hL2 74 rfl ea13 fa13 (kd_bd _)
              have s14 : (l3_2 + 1).toInt = l3_2.toInt + (1 : Int32).toInt := kd_add (toy57 p2_0 ktoy1) (toy58 p2_1 ktoy1)
              have hJ15 := kG_i hJ13 3138 rfl (v := (l3_2 + 1)) ⟨(toy59 p2_0 s14 ktoy1), (toy60 c8 s14 ktoy20 ktoy1)⟩
              first | refine fo_go mi_k58 fz58_50_7_7 [(3, .int (l3_2 + 1)), (4, .int (((q2 111).getD l3_2.toNatClampNeg 0).toInt32)), (0, .ref 49), (1, .ref 110), (2, .int x2)] [] (ku i2 3138 (l3_2 + 1)) a13 q2 r2 (by rfl) ?_ | refine ft_go mi_k58 7 7 [(3, .int (l3_2 + 1)), (4, .int (((q2 111).getD l3_2.toNatClampNeg 0).toInt32)), (0, .ref 49), (1, .ref 110), (2, .int x2)] [] (ku i2 3138 (l3_2 + 1)) a13 q2 r2 (by rfl) ?_
              refine ko_perm [(3, .int (l3_2 + 1)), (0, .ref 49), (1, .ref 110), (2, .int x2)] (List.forall_mem_cons.mpr ⟨(List.Mem.head _), (List.forall_mem_cons.mpr ⟨(List.Mem.tail _ (List.Mem.tail _ (List.Mem.head _))), (List.forall_mem_cons.mpr ⟨(List.Mem.tail _ (List.Mem.tail _ (List.Mem.tail _ (List.Mem.head _)))), (List.forall_mem_cons.mpr ⟨(List.Mem.tail _ (List.Mem.tail _ (List.Mem.tail _ (List.Mem.tail _ (List.Mem.head _))))), (fun _ h => absurd h List.not_mem_nil)⟩)⟩)⟩)⟩) ?_
              exact ih2 _ _ _ _ _ hJ15 (toy59 p2_0 s14 ktoy1) (toy60 c8 s14 ktoy20 ktoy1) toy61 (toy62 c5 efi2_7043 s14 ktoy1) (kRp_step (y := l3_2) (m := 20) O2_0 (hL2.I.2.1 74) (toy48 p2_0) (toy63 c8 ktoy20) (toy64 s14 ktoy1) ea13 (Int.zero_add _).symm (congrArg (fun z : List Int64 => (z.getD l3_2.toNatClampNeg 0).toInt32) (hL2.fq 111 rfl : q2 111 = q 111)) (toy65 c11 ktoy0) (toy66 c12)) (kj_meas (toy67 s14 ktoy1) (toy68 c8 ktoy20) hm2)
            ·
              have c16 : x2.toInt ≤ (((q2 111).getD l3_2.toNatClampNeg 0).toInt32).toInt := kd_ltF c; clear c
              have hG17 := kG_call hJ1 hL2 (by decide +kernel)
              exact ft_ret mi_k58 (by rfl) (hP  _ _ _ _ hG17 ⟨trivial, (kRd_mk O2_0 (toy72 p2_2) (toy48 p2_0) (toy49 p2_1) (toy54 c5 efi2_7043) (Or.inr (Or.inr (kRd_bad (y := l3_2) (Int.zero_add _).symm (toy48 p2_0) (congrArg (fun z : List Int64 => (z.getD l3_2.toNatClampNeg 0).toInt32) (hL2.fq 111 rfl : q2 111 = q 111)) (toy69 c16)))))⟩)
  have fi_7043 : ((0 : Int) ≤ (i 7043).toInt) ∧ ((i 7043).toInt ≤ 60) := hG.I.1 7043
  exact lp2 _ _ _ _ _ _ (kG_self _ hJ1.I hJ1.R) (toy45 ktoy0) (toy46 ktoy0) (toy70 ktoy0) (toy71 fi_7043.1 ktoy0) (kRp_0 (Int.le_of_eq ktoy0)) (Nat.lt_succ_self _)
noncomputable def yw58_49_112 : kW := ([3138], [74], [], [])
noncomputable def yw58_49_112_L7 : kW := ([3138], [74], [], [])
set_option maxRecDepth 100000 in
theorem ke58_49_112 {i : Nat → Int32} {a : Nat → List Int32} {q : Nat → List Int64} {r : Nat → Nat} (hI : kI i a q) (hr : kr r) (x2 : Int32) : km 1 58 [.ref 49, .ref 112, .int x2] (ks i a q r) (kVN yw58_49_112 i a q r (fun i1 a1 q1 r1 => (True) ∧ kRd x2 (i 7171).toInt (vQ (q 113) 0) (i1 3138).toInt (a1 74))) := by
  have hG := kG_self yw58_49_112 hI hr
  refine km_ofN (q := (mi_h58, mi_c58)) rfl (by decide) (Nat.le_of_ble_eq_true rfl) ?_
  intro P hP
  have hJ1 := kG_i hG 3138 rfl (v := 0) ⟨(toy45 ktoy0), (toy46 ktoy0)⟩
  first | refine fo_go mi_k58 fz58_0_5_7 [(3, .int 0), (0, .ref 49), (1, .ref 112), (2, .int x2)] [] (ku i 3138 0) a q r (by rfl) ?_ | refine fo_go mi_k58 fz58_52_5_7 [(3, .int 0), (0, .ref 49), (1, .ref 112), (2, .int x2)] [] (ku i 3138 0) a q r (by rfl) ?_ | refine ft_go mi_k58 5 7 [(3, .int 0), (0, .ref 49), (1, .ref 112), (2, .int x2)] [] (ku i 3138 0) a q r (by rfl) ?_
  have lp2 : ∀ (nz : Nat) (i2 : Nat → Int32) (a2 : Nat → List Int32) (q2 : Nat → List Int64) (r2 : Nat → Nat) (l3_2 : Int32), kG yw58_49_112_L7 (ku i 3138 0) a q r i2 a2 q2 r2 → (0 : Int) ≤ l3_2.toInt → l3_2.toInt ≤ 20 → (i2 3138).toInt = l3_2.toInt → l3_2.toInt ≤ (i 7171).toInt → kRp x2 (vQ (q 113) 0) l3_2.toInt (a2 74) → ((20 - l3_2.toInt)).toNat < nz → ko 1 (mi_h58, mi_c58) P (7, [(3, .int l3_2), (0, .ref 49), (1, .ref 112), (2, .int x2)], [], (0, 0), ks i2 a2 q2 r2) := by
    intro nz
    induction nz with
    | zero =>
      intro _ _ _ _ _ _ _ _ _ _ _ hm
      exact absurd hm (Nat.not_lt_zero _)
    | succ nz ih2 =>
      intro i2 a2 q2 r2 l3_2 hL2 p2_0 p2_1 p2_2 p2_3 O2_0 hm2
      have fi2_3138 : ((0 : Int) ≤ (i2 3138).toInt) ∧ ((i2 3138).toInt ≤ 20) := hL2.I.1 3138
      have efi2_7171 : (i2 7171).toInt = (i 7171).toInt := hL2.ti 7171 rfl
      refine fo_goL mi_k58 fz58_7_3_12 [(3, .int l3_2), (0, .ref 49), (1, .ref 112), (2, .int x2)] [.int (i2 7171), .int l3_2] rfl ?_
      refine ft_ifS mi_k58 (decide ((i2 7171) ≤ l3_2)) 63 15 [] (by rfl) (fun c => ?_) (fun c => ?_)
      ·
        have c3 : (i2 7171).toInt ≤ l3_2.toInt := kd_le c; clear c
        have hG4 := kG_call hJ1 hL2 (by decide +kernel)
        exact ft_ret mi_k58 (by rfl) (hP  _ _ _ _ hG4 ⟨trivial, (kRd_mk O2_0 (toy72 p2_2) (toy48 p2_0) (toy49 p2_1) (toy50 p2_3) (Or.inr (Or.inl (toy51 c3 efi2_7171 p2_3))))⟩)
      ·
        have c5 : l3_2.toInt < (i2 7171).toInt := kd_leF c; clear c
        refine fo_goS mi_k58 fz58_15_2_18 [.int 20, .int l3_2] rfl ?_
        refine ft_ifS mi_k58 (decide (20 ≤ l3_2)) 63 21 [] (by rfl) (fun c => ?_) (fun c => ?_)
        ·
          have c6 : (20 : Int32).toInt ≤ l3_2.toInt := kd_le c; clear c
          have hG7 := kG_call hJ1 hL2 (by decide +kernel)
          exact ft_ret mi_k58 (by rfl) (hP  _ _ _ _ hG7 ⟨trivial, (kRd_mk O2_0 (toy73 c6 fi2_3138.2 p2_2 ktoy20) (toy74 c6 ktoy20) (toy49 p2_1) (toy54 c5 efi2_7171) (Or.inl (toy75 c6 p2_1 ktoy20)))⟩)
        ·
          have c8 : l3_2.toInt < (20 : Int32).toInt := kd_leF c; clear c
          refine fo_goS mi_k58 fz58_21_3_26 [.int l3_2, .ref 113] rfl ?_
          refine ko_lald2 mi_k58.1 (l := q2 113) (n := 60) (c := 60) (ax := (0, 0, 0, 0, 0)) (mi_k58.2 _ _ (by rfl)) (by rfl) (by rfl) (hL2.I.2.2.2 113) rfl (toy48 p2_0) (toy53 p2_1) ?_
          refine fo_goL mi_k58 fz58_27_3_32 [(4, .int (((q2 113).getD l3_2.toNatClampNeg 0).toInt32)), (3, .int l3_2), (0, .ref 49), (1, .ref 112), (2, .int x2)] [.int (((q2 113).getD l3_2.toNatClampNeg 0).toInt32)] rfl ?_
          refine ft_ifS mi_k58 (decide ((((q2 113).getD l3_2.toNatClampNeg 0).toInt32) < 0)) 41 35 [] (by rfl) (fun c => ?_) (fun c => ?_)
          ·
            have c9 : (((q2 113).getD l3_2.toNatClampNeg 0).toInt32).toInt < (0 : Int32).toInt := kd_lt c; clear c
            have hG10 := kG_call hJ1 hL2 (by decide +kernel)
            exact ft_ret mi_k58 (by rfl) (hP  _ _ _ _ hG10 ⟨trivial, (kRd_mk O2_0 (toy72 p2_2) (toy48 p2_0) (toy49 p2_1) (toy54 c5 efi2_7171) (Or.inr (Or.inr (kRd_bad (y := l3_2) (Int.zero_add _).symm (toy48 p2_0) (congrArg (fun z : List Int64 => (z.getD l3_2.toNatClampNeg 0).toInt32) (hL2.fq 113 rfl : q2 113 = q 113)) (toy55 c9 ktoy0)))))⟩)
          ·
            have c11 : (0 : Int32).toInt ≤ (((q2 113).getD l3_2.toNatClampNeg 0).toInt32).toInt := kd_ltF c; clear c
            refine fo_goS mi_k58 fz58_35_2_38 [.int x2, .int (((q2 113).getD l3_2.toNatClampNeg 0).toInt32)] rfl ?_
            refine ft_ifS mi_k58 (decide ((((q2 113).getD l3_2.toNatClampNeg 0).toInt32) < x2)) 42 41 [] (by rfl) (fun c => ?_) (fun c => ?_)
            ·
              have c12 : (((q2 113).getD l3_2.toNatClampNeg 0).toInt32).toInt < x2.toInt := kd_lt c; clear c
              refine fo_goS mi_k58 fz58_42_4_49 [.int (((q2 113).getD l3_2.toNatClampNeg 0).toInt32), .int l3_2, .ref 74] rfl ?_
              refine ko_iast3 mi_k58.1 (n := 20) (c := 20) (ax := (0, 0, 0, 0, 0)) (mi_k58.2 _ _ (by rfl)) (by rfl) (ksG74 _ _ _ _) (ksA74 _ _ _ _) (hL2.I.2.1 74) rfl (toy48 p2_0) (toy56 c8 ktoy20) ?_
              intro a13 ea13 fa13
              have hJ13 := kG_a3 hL2 74 rfl ea13 fa13 (kd_bd _)
              have s14 : (l3_2 + 1).toInt = l3_2.toInt + (1 : Int32).toInt := kd_add (toy57 p2_0 ktoy1) (toy58 p2_1 ktoy1)
              have hJ15 := kG_i hJ13 3138 rfl (v := (l3_2 + 1)) ⟨(toy59 p2_0 s14 ktoy1), (toy60 c8 s14 ktoy20 ktoy1)⟩
              first | refine fo_go mi_k58 fz58_50_7_7 [(3, .int (l3_2 + 1)), (4, .int (((q2 113).getD l3_2.toNatClampNeg 0).toInt32)), (0, .ref 49), (1, .ref 112), (2, .int x2)] [] (ku i2 3138 (l3_2 + 1)) a13 q2 r2 (by rfl) ?_ | refine ft_go mi_k58 7 7 [(3, .int (l3_2 + 1)), (4, .int (((q2 113).getD l3_2.toNatClampNeg 0).toInt32)), (0, .ref 49), (1, .ref 112), (2, .int x2)] [] (ku i2 3138 (l3_2 + 1)) a13 q2 r2 (by rfl) ?_
              refine ko_perm [(3, .int (l3_2 + 1)), (0, .ref 49), (1, .ref 112), (2, .int x2)] (List.forall_mem_cons.mpr ⟨(List.Mem.head _), (List.forall_mem_cons.mpr ⟨(List.Mem.tail _ (List.Mem.tail _ (List.Mem.head _))), (List.forall_mem_cons.mpr ⟨(List.Mem.tail _ (List.Mem.tail _ (List.Mem.tail _ (List.Mem.head _)))), (List.forall_mem_cons.mpr ⟨(List.Mem.tail _ (List.Mem.tail _ (List.Mem.tail _ (List.Mem.tail _ (List.Mem.head _))))), (fun _ h => absurd h List.not_mem_nil)⟩)⟩)⟩)⟩) ?_
              exact ih2 _ _ _ _ _ hJ15 (toy59 p2_0 s14 ktoy1) (toy60 c8 s14 ktoy20 ktoy1) toy61 (toy62 c5 efi2_7171 s14 ktoy1) (kRp_step (y := l3_2) (m := 20) O2_0 (hL2.I.2.1 74) (toy48 p2_0) (toy63 c8 ktoy20) (toy64 s14 ktoy1) ea13 (Int.zero_add _).symm (congrArg (fun z : List Int64 => (z.getD l3_2.toNatClampNeg 0).toInt32) (hL2.fq 113 rfl : q2 113 = q 113)) (toy65 c11 ktoy0) (toy66 c12)) (kj_meas (toy67 s14 ktoy1) (toy68 c8 ktoy20) hm2)
            ·
              have c16 : x2.toInt ≤ (((q2 113).getD l3_2.toNatClampNeg 0).toInt32).toInt := kd_ltF c; clear c
              have hG17 := kG_call hJ1 hL2 (by decide +kernel)
              exact ft_ret mi_k58 (by rfl) (hP  _ _ _ _ hG17 ⟨trivial, (kRd_mk O2_0 (toy72 p2_2) (toy48 p2_0) (toy49 p2_1) (toy54 c5 efi2_7171) (Or.inr (Or.inr (kRd_bad (y := l3_2) (Int.zero_add _).symm (toy48 p2_0) (congrArg (fun z : List Int64 => (z.getD l3_2.toNatClampNeg 0).toInt32) (hL2.fq 113 rfl : q2 113 = q 113)) (toy69 c16)))))⟩)
  have fi_7171 : ((0 : Int) ≤ (i 7171).toInt) ∧ ((i 7171).toInt ≤ 60) := hG.I.1 7171
  exact lp2 _ _ _ _ _ _ (kG_self _ hJ1.I hJ1.R) (toy45 ktoy0) (toy46 ktoy0) (toy70 ktoy0) (toy71 fi_7171.1 ktoy0) (kRp_0 (Int.le_of_eq ktoy0)) (Nat.lt_succ_self _)
noncomputable def yw58_49_114 : kW := ([3138], [74], [], [])
noncomputable def yw58_49_114_L7 : kW := ([3138], [74], [], [])
set_option maxRecDepth 100000 in
theorem ke58_49_114 {i : Nat → Int32} {a : Nat → List Int32} {q : Nat → List Int64} {r : Nat → Nat} (hI : kI i a q) (hr : kr r) (x2 : Int32) : km 1 58 [.ref 49, .ref 114, .int x2] (ks i a q r) (kVN yw58_49_114 i a q r (fun i1 a1 q1 r1 => (True) ∧ kRd x2 (i 7299).toInt (vQ (q 115) 0) (i1 3138).toInt (a1 74))) := by
  have hG := kG_self yw58_49_114 hI hr
  refine km_ofN (q := (mi_h58, mi_c58)) rfl (by decide) (Nat.le_of_ble_eq_true rfl) ?_
  intro P hP
  have hJ1 := kG_i hG 3138 rfl (v := 0) ⟨(toy45 ktoy0), (toy46 ktoy0)⟩
  first | refine fo_go mi_k58 fz58_0_5_7 [(3, .int 0), (0, .ref 49), (1, .ref 114), (2, .int x2)] [] (ku i 3138 0) a q r (by rfl) ?_ | refine fo_go mi_k58 fz58_52_5_7 [(3, .int 0), (0, .ref 49), (1, .ref 114), (2, .int x2)] [] (ku i 3138 0) a q r (by rfl) ?_ | refine ft_go mi_k58 5 7 [(3, .int 0), (0, .ref 49), (1, .ref 114), (2, .int x2)] [] (ku i 3138 0) a q r (by rfl) ?_
  have lp2 : ∀ (nz : Nat) (i2 : Nat → Int32) (a2 : Nat → List Int32) (q2 : Nat → List Int64) (r2 : Nat → Nat) (l3_2 : Int32), kG yw58_49_114_L7 (ku i 3138 0) a q r i2 a2 q2 r2 → (0 : Int) ≤ l3_2.toInt → l3_2.toInt ≤ 20 → (i2 3138).toInt = l3_2.toInt → l3_2.toInt ≤ (i 7299).toInt → kRp x2 (vQ (q 115) 0) l3_2.toInt (a2 74) → ((20 - l3_2.toInt)).toNat < nz → ko 1 (mi_h58, mi_c58) P (7, [(3, .int l3_2), (0, .ref 49), (1, .ref 114), (2, .int x2)], [], (0, 0), ks i2 a2 q2 r2) := by
    intro nz
    induction nz with
    | zero =>
      intro _ _ _ _ _ _ _ _ _ _ _ hm
      exact absurd hm (Nat.not_lt_zero _)
    | succ nz ih2 =>
      intro i2 a2 q2 r2 l3_2 hL2 p2_0 p2_1 p2_2 p2_3 O2_0 hm2
      have fi2_3138 : ((0 : Int) ≤ (i2 3138).toInt) ∧ ((i2 3138).toInt ≤ 20) := hL2.I.1 3138
      have efi2_7299 : (i2 7299).toInt = (i 7299).toInt := hL2.ti 7299 rfl
      refine fo_goL mi_k58 fz58_7_3_12 [(3, .int l3_2), (0, .ref 49), (1, .ref 114), (2, .int x2)] [.int (i2 7299), .int l3_2] rfl ?_
      refine ft_ifS mi_k58 (decide ((i2 7299) ≤ l3_2)) 63 15 [] (by rfl) (fun c => ?_) (fun c => ?_)
      ·
        have c3 : (i2 7299).toInt ≤ l3_2.toInt := kd_le c; clear c
        have hG4 := kG_call hJ1 hL2 (by decide +kernel)
        exact ft_ret mi_k58 (by rfl) (hP  _ _ _ _ hG4 ⟨trivial, (kRd_mk O2_0 (toy72 p2_2) (toy48 p2_0) (toy49 p2_1) (toy50 p2_3) (Or.inr (Or.inl (toy51 c3 efi2_7299 p2_3))))⟩)
      ·
        have c5 : l3_2.toInt < (i2 7299).toInt := kd_leF c; clear c
        refine fo_goS mi_k58 fz58_15_2_18 [.int 20, .int l3_2] rfl ?_
        refine ft_ifS mi_k58 (decide (20 ≤ l3_2)) 63 21 [] (by rfl) (fun c => ?_) (fun c => ?_)
        ·
          have c6 : (20 : Int32).toInt ≤ l3_2.toInt := kd_le c; clear c
          have hG7 := kG_call hJ1 hL2 (by decide +kernel)
          exact ft_ret mi_k58 (by rfl) (hP  _ _ _ _ hG7 ⟨trivial, (kRd_mk O2_0 (toy73 c6 fi2_3138.2 p2_2 ktoy20) (toy74 c6 ktoy20) (toy49 p2_1) (toy54 c5 efi2_7299) (Or.inl (toy75 c6 p2_1 ktoy20)))⟩)
        ·
          have c8 : l3_2.toInt < (20 : Int32).toInt := kd_leF c; clear c
          refine fo_goS mi_k58 fz58_21_3_26 [.int l3_2, .ref 115] rfl ?_
          refine ko_lald2 mi_k58.1 (l := q2 115) (n := 60) (c := 60) (ax := (0, 0, 0, 0, 0)) (mi_k58.2 _ _ (by rfl)) (by rfl) (by rfl) (hL2.I.2.2.2 115) rfl (toy48 p2_0) (toy53 p2_1) ?_
          refine fo_goL mi_k58 fz58_27_3_32 [(4, .int (((q2 115).getD l3_2.toNatClampNeg 0).toInt32)), (3, .int l3_2), (0, .ref 49), (1, .ref 114), (2, .int x2)] [.int (((q2 115).getD l3_2.toNatClampNeg 0).toInt32)] rfl ?_
          refine ft_ifS mi_k58 (decide ((((q2 115).getD l3_2.toNatClampNeg 0).toInt32) < 0)) 41 35 [] (by rfl) (fun c => ?_) (fun c => ?_)
          ·
            have c9 : (((q2 115).getD l3_2.toNatClampNeg 0).toInt32).toInt < (0 : Int32).toInt := kd_lt c; clear c
            have hG10 := kG_call hJ1 hL2 (by decide +kernel)
            exact ft_ret mi_k58 (by rfl) (hP  _ _ _ _ hG10 ⟨trivial, (kRd_mk O2_0 (toy72 p2_2) (toy48 p2_0) (toy49 p2_1) (toy54 c5 efi2_7299) (Or.inr (Or.inr (kRd_bad (y := l3_2) (Int.zero_add _).symm (toy48 p2_0) (congrArg (fun z : List Int64 => (z.getD l3_2.toNatClampNeg 0).toInt32) (hL2.fq 115 rfl : q2 115 = q 115)) (toy55 c9 ktoy0)))))⟩)
          ·
            have c11 : (0 : Int32).toInt ≤ (((q2 115).getD l3_2.toNatClampNeg 0).toInt32).toInt := kd_ltF c; clear c
            refine fo_goS mi_k58 fz58_35_2_38 [.int x2, .int (((q2 115).getD l3_2.toNatClampNeg 0).toInt32)] rfl ?_
            refine ft_ifS mi_k58 (decide ((((q2 115).getD l3_2.toNatClampNeg 0).toInt32) < x2)) 42 41 [] (by rfl) (fun c => ?_) (fun c => ?_)
            ·
              have c12 : (((q2 115).getD l3_2.toNatClampNeg 0).toInt32).toInt < x2.toInt := kd_lt c; clear c
              refine fo_goS mi_k58 fz58_42_4_49 [.int (((q2 115).getD l3_2.toNatClampNeg 0).toInt32), .int l3_2, .ref 74] rfl ?_
              refine ko_iast3 mi_k58.1 (n := 20) (c := 20) (ax := (0, 0, 0, 0, 0)) (mi_k58.2 _ _ (by rfl)) (by rfl) (ksG74 _ _ _ _) (ksA74 _ _ _ _) (hL2.I.2.1 74) rfl (toy48 p2_0) (toy56 c8 ktoy20) ?_
              intro a13 ea13 fa13
              have hJ13 := kG_a3 hL2 74 rfl ea13 fa13 (kd_bd _)
              have s14 : (l3_2 + 1).toInt = l3_2.toInt + (1 : Int32).toInt := kd_add (toy57 p2_0 ktoy1) (toy58 p2_1 ktoy1)
              have hJ15 := kG_i hJ13 3138 rfl (v := (l3_2 + 1)) ⟨(toy59 p2_0 s14 ktoy1), (toy60 c8 s14 ktoy20 ktoy1)⟩
              first | refine fo_go mi_k58 fz58_50_7_7 [(3, .int (l3_2 + 1)), (4, .int (((q2 115).getD l3_2.toNatClampNeg 0).toInt32)), (0, .ref 49), (1, .ref 114), (2, .int x2)] [] (ku i2 3138 (l3_2 + 1)) a13 q2 r2 (by rfl) ?_ | refine ft_go mi_k58 7 7 [(3, .int (l3_2 + 1)), (4, .int (((q2 115).getD l3_2.toNatClampNeg 0).toInt32)), (0, .ref 49), (1, .ref 114), (2, .int x2)] [] (ku i2 3138 (l3_2 + 1)) a13 q2 r2 (by rfl) ?_
              refine ko_perm [(3, .int (l3_2 + 1)), (0, .ref 49), (1, .ref 114), (2, .int x2)] (List.forall_mem_cons.mpr ⟨(List.Mem.head _), (List.forall_mem_cons.mpr ⟨(List.Mem.tail _ (List.Mem.tail _ (List.Mem.head _))), (List.forall_mem_cons.mpr ⟨(List.Mem.tail _ (List.Mem.tail _ (List.Mem.tail _ (List.Mem.head _)))), (List.forall_mem_cons.mpr ⟨(List.Mem.tail _ (List.Mem.tail _ (List.Mem.tail _ (List.Mem.tail _ (List.Mem.head _))))), (fun _ h => absurd h List.not_mem_nil)⟩)⟩)⟩)⟩) ?_
              exact ih2 _ _ _ _ _ hJ15 (toy59 p2_0 s14 ktoy1) (toy60 c8 s14 ktoy20 ktoy1) toy61 (toy62 c5 efi2_7299 s14 ktoy1) (kRp_step (y := l3_2) (m := 20) O2_0 (hL2.I.2.1 74) (toy48 p2_0) (toy63 c8 ktoy20) (toy64 s14 ktoy1) ea13 (Int.zero_add _).symm (congrArg (fun z : List Int64 => (z.getD l3_2.toNatClampNeg 0).toInt32) (hL2.fq 115 rfl : q2 115 = q 115)) (toy65 c11 ktoy0) (toy66 c12)) (kj_meas (toy67 s14 ktoy1) (toy68 c8 ktoy20) hm2)
            ·
              have c16 : x2.toInt ≤ (((q2 115).getD l3_2.toNatClampNeg 0).toInt32).toInt := kd_ltF c; clear c
              have hG17 := kG_call hJ1 hL2 (by decide +kernel)
              exact ft_ret mi_k58 (by rfl) (hP  _ _ _ _ hG17 ⟨trivial, (kRd_mk O2_0 (toy72 p2_2) (toy48 p2_0) (toy49 p2_1) (toy54 c5 efi2_7299) (Or.inr (Or.inr (kRd_bad (y := l3_2) (Int.zero_add _).symm (toy48 p2_0) (congrArg (fun z : List Int64 => (z.getD l3_2.toNatClampNeg 0).toInt32) (hL2.fq 115 rfl : q2 115 = q 115)) (toy69 c16)))))⟩)
  have fi_7299 : ((0 : Int) ≤ (i 7299).toInt) ∧ ((i 7299).toInt ≤ 60) := hG.I.1 7299
  exact lp2 _ _ _ _ _ _ (kG_self _ hJ1.I hJ1.R) (toy45 ktoy0) (toy46 ktoy0) (toy70 ktoy0) (toy71 fi_7299.1 ktoy0) (kRp_0 (Int.le_of_eq ktoy0)) (Nat.lt_succ_self _)
noncomputable def ygw129_0 : kW := ([3138], [74], [], [])
set_option maxRecDepth 100000 in
theorem kg129_0 {i : Nat → Int32} {a : Nat → List Int32} {q : Nat → List Int64} {r : Nat → Nat} (hI : kI i a q) (hr : kr r) (x1 : Int32) : km 7 129 [.ref 0, .int x1] (ks i a q r) (kVI ygw129_0 i a q r (fun v i1 a1 q1 r1 => (v.toInt ≤ 0) ∧ cPl i q x1 v (i1 3138) (a1 74))) := by
  have hG := kG_self ygw129_0 hI hr
  refine km_ofI (q := (mi_h129, mi_c129)) rfl (by decide) (Nat.le_of_ble_eq_true rfl) ?_
  intro P hP
  first | refine ft_goL mi_k129 2 2 [(0, .ref 0), (1, .int x1)] [.int x1, .ref 0] (by rfl) ?_ | refine ko_steps mi_in129 2 _ (2, [(0, .ref 0), (1, .int x1)], [.int x1, .ref 0], (0, 0), ks i a q r) (by rfl) ?_
  refine ko_callPI mi_k129.1 (pc := 2) (ls := [(0, .ref 0), (1, .int x1)]) (st := [.int x1, .ref 0]) (h := ks i a q r) (i := (.invokevirtual 217, 3, 127, 0, 9, 0, 209)) (mi_k129.2 _ _ (by rfl)) (ft_invS mi_pq127 (by rfl)) (cy := mi_c127) mi_pq127 rfl (kg127_0 hG.I hG.R x1) (by decide) ?_
  intro vg1 hg1
  obtain ⟨hg1, og1⟩ := hg1
  have z2 : (vg1.toInt < 0) ∨ ((vg1.toInt = 0) ∧ ((0 : Int) ≤ x1.toInt) ∧ (x1.toInt ≤ 5)) := hg1
  first | refine ft_goL mi_k129 2 7 [(2, .int vg1), (0, .ref 0), (1, .int x1)] [.int vg1] (by rfl) ?_ | refine ko_steps mi_in129 2 _ (7, [(2, .int vg1), (0, .ref 0), (1, .int x1)], [.int vg1], (0, 0), ks i a q r) (by rfl) ?_
  refine ft_ifS mi_k129 (vg1 != 0) 30 10 [] (by rfl) (fun c => ?_) (fun c => ?_)
  ·
    have c3 : vg1.toInt ≠ (0 : Int32).toInt := kd_ne c; clear c
    refine fo_goS mi_k129 fz129_30_1_31 [.int vg1] rfl ?_
    exact ft_ret mi_k129 (by rfl) (hP vg1 _ _ _ _ hG ⟨(toy42 z2), (Or.inl ⟨(toy43 c3 z2 ktoy0), og1⟩)⟩)
  ·
    have c4 : vg1.toInt = (0 : Int32).toInt := kd_neF c; clear c
    refine fo_goS mi_k129 fz129_10_5_19 [.int x1, .ref 97, .ref 49] rfl ?_
    by_cases w5 : x1.toInt = 0
    ·
      refine ko_eq (x1 := (19, [(2, .int vg1), (0, .ref 0), (1, .int x1)], [.int 0, .ref 97, .ref 49], (0, 0), ks i a q r)) (by rw [(kj_eq w5 (by decide) : x1 = 0)]) ?_
      first | refine ft_goS mi_k129 4 27 [.int (i 64), .ref 104, .ref 49] (by rfl) ?_ | refine ko_steps mi_in129 4 _ (27, [(2, .int vg1), (0, .ref 0), (1, .int x1)], [.int (i 64), .ref 104, .ref 49], (0, 0), ks i a q r) (by rfl) ?_
      refine ko_callN mi_k129.1 (pc := 27) (ls := [(2, .int vg1), (0, .ref 0), (1, .int x1)]) (st := [.int (i 64), .ref 104, .ref 49]) (h := ks i a q r) (i := (.invokevirtual 351, 3, 58, 0, 9, 0, 210)) (mi_k129.2 _ _ (by rfl)) (ft_invS mi_pq58 (by rfl)) (cy := mi_c58) mi_pq58 rfl (ke58_49_104 hG.I hG.R (i 64)) (by decide) ?_
      intro ig6 ag6 qg6 rg6 kg6 hg6
      have hGg6 := kG_call hG kg6 (by decide +kernel)
      obtain ⟨hg6, og6⟩ := hg6
      refine fo_goS mi_k129 fz129_30_1_31 [.int vg1] rfl ?_
      exact ft_ret mi_k129 (by rfl) (hP vg1 _ _ _ _ hGg6 ⟨(toy76 c4 ktoy0), (Or.inr ⟨kj_v ((toy78 c4 ktoy0).trans ktoy0.symm), 0, by decide, (toy77 w5), cRb_t og1 (toy78 c4 ktoy0) (toy77 w5), og6⟩)⟩)
    by_cases w7 : x1.toInt = 1
    ·
      refine ko_eq (x1 := (19, [(2, .int vg1), (0, .ref 0), (1, .int x1)], [.int 1, .ref 97, .ref 49], (0, 0), ks i a q r)) (by rw [(kj_eq w7 (by decide) : x1 = 1)]) ?_
      first | refine ft_goS mi_k129 4 27 [.int (i 64), .ref 106, .ref 49] (by rfl) ?_ | refine ko_steps mi_in129 4 _ (27, [(2, .int vg1), (0, .ref 0), (1, .int x1)], [.int (i 64), .ref 106, .ref 49], (0, 0), ks i a q r) (by rfl) ?_
      refine ko_callN mi_k129.1 (pc := 27) (ls := [(2, .int vg1), (0, .ref 0), (1, .int x1)]) (st := [.int (i 64), .ref 106, .ref 49]) (h := ks i a q r) (i := (.invokevirtual 351, 3, 58, 0, 9, 0, 210)) (mi_k129.2 _ _ (by rfl)) (ft_invS mi_pq58 (by rfl)) (cy := mi_c58) mi_pq58 rfl (ke58_49_106 hG.I hG.R (i 64)) (by decide) ?_
      intro ig8 ag8 qg8 rg8 kg8 hg8
      have hGg8 := kG_call hG kg8 (by decide +kernel)
      obtain ⟨hg8, og8⟩ := hg8
      refine fo_goS mi_k129 fz129_30_1_31 [.int vg1] rfl ?_
      exact ft_ret mi_k129 (by rfl) (hP vg1 _ _ _ _ hGg8 ⟨(toy76 c4 ktoy0), (Or.inr ⟨kj_v ((toy78 c4 ktoy0).trans ktoy0.symm), 1, by decide, (toy21 w7), cRb_t og1 (toy78 c4 ktoy0) (toy21 w7), og8⟩)⟩)
    by_cases w9 : x1.toInt = 2
    ·
      refine ko_eq (x1 := (19, [(2, .int vg1), (0, .ref 0), (1, .int x1)], [.int 2, .ref 97, .ref 49], (0, 0), ks i a q r)) (by rw [(kj_eq w9 (by decide) : x1 = 2)]) ?_
      first | refine ft_goS mi_k129 4 27 [.int (i 64), .ref 108, .ref 49] (by rfl) ?_ | refine ko_steps mi_in129 4 _ (27, [(2, .int vg1), (0, .ref 0), (1, .int x1)], [.int (i 64), .ref 108, .ref 49], (0, 0), ks i a q r) (by rfl) ?_
      refine ko_callN mi_k129.1 (pc := 27) (ls := [(2, .int vg1), (0, .ref 0), (1, .int x1)]) (st := [.int (i 64), .ref 108, .ref 49]) (h := ks i a q r) (i := (.invokevirtual 351, 3, 58, 0, 9, 0, 210)) (mi_k129.2 _ _ (by rfl)) (ft_invS mi_pq58 (by rfl)) (cy := mi_c58) mi_pq58 rfl (ke58_49_108 hG.I hG.R (i 64)) (by decide) ?_
      intro ig10 ag10 qg10 rg10 kg10 hg10
      have hGg10 := kG_call hG kg10 (by decide +kernel)
      obtain ⟨hg10, og10⟩ := hg10
      refine fo_goS mi_k129 fz129_30_1_31 [.int vg1] rfl ?_
      exact ft_ret mi_k129 (by rfl) (hP vg1 _ _ _ _ hGg10 ⟨(toy76 c4 ktoy0), (Or.inr ⟨kj_v ((toy78 c4 ktoy0).trans ktoy0.symm), 2, by decide, (toy25 w9), cRb_t og1 (toy78 c4 ktoy0) (toy25 w9), og10⟩)⟩)
    by_cases w11 : x1.toInt = 3
    ·
      refine ko_eq (x1 := (19, [(2, .int vg1), (0, .ref 0), (1, .int x1)], [.int 3, .ref 97, .ref 49], (0, 0), ks i a q r)) (by rw [(kj_eq w11 (by decide) : x1 = 3)]) ?_
      first | refine ft_goS mi_k129 4 27 [.int (i 64), .ref 110, .ref 49] (by rfl) ?_ | refine ko_steps mi_in129 4 _ (27, [(2, .int vg1), (0, .ref 0), (1, .int x1)], [.int (i 64), .ref 110, .ref 49], (0, 0), ks i a q r) (by rfl) ?_
      refine ko_callN mi_k129.1 (pc := 27) (ls := [(2, .int vg1), (0, .ref 0), (1, .int x1)]) (st := [.int (i 64), .ref 110, .ref 49]) (h := ks i a q r) (i := (.invokevirtual 351, 3, 58, 0, 9, 0, 210)) (mi_k129.2 _ _ (by rfl)) (ft_invS mi_pq58 (by rfl)) (cy := mi_c58) mi_pq58 rfl (ke58_49_110 hG.I hG.R (i 64)) (by decide) ?_
      intro ig12 ag12 qg12 rg12 kg12 hg12
      have hGg12 := kG_call hG kg12 (by decide +kernel)
      obtain ⟨hg12, og12⟩ := hg12
      refine fo_goS mi_k129 fz129_30_1_31 [.int vg1] rfl ?_
      exact ft_ret mi_k129 (by rfl) (hP vg1 _ _ _ _ hGg12 ⟨(toy76 c4 ktoy0), (Or.inr ⟨kj_v ((toy78 c4 ktoy0).trans ktoy0.symm), 3, by decide, (toy29 w11), cRb_t og1 (toy78 c4 ktoy0) (toy29 w11), og12⟩)⟩)
    by_cases w13 : x1.toInt = 4
    ·
      refine ko_eq (x1 := (19, [(2, .int vg1), (0, .ref 0), (1, .int x1)], [.int 4, .ref 97, .ref 49], (0, 0), ks i a q r)) (by rw [(kj_eq w13 (by decide) : x1 = 4)]) ?_
      first | refine ft_goS mi_k129 4 27 [.int (i 64), .ref 112, .ref 49] (by rfl) ?_ | refine ko_steps mi_in129 4 _ (27, [(2, .int vg1), (0, .ref 0), (1, .int x1)], [.int (i 64), .ref 112, .ref 49], (0, 0), ks i a q r) (by rfl) ?_
      refine ko_callN mi_k129.1 (pc := 27) (ls := [(2, .int vg1), (0, .ref 0), (1, .int x1)]) (st := [.int (i 64), .ref 112, .ref 49]) (h := ks i a q r) (i := (.invokevirtual 351, 3, 58, 0, 9, 0, 210)) (mi_k129.2 _ _ (by rfl)) (ft_invS mi_pq58 (by rfl)) (cy := mi_c58) mi_pq58 rfl (ke58_49_112 hG.I hG.R (i 64)) (by decide) ?_
      intro ig14 ag14 qg14 rg14 kg14 hg14
      have hGg14 := kG_call hG kg14 (by decide +kernel)
      obtain ⟨hg14, og14⟩ := hg14
      refine fo_goS mi_k129 fz129_30_1_31 [.int vg1] rfl ?_
      exact ft_ret mi_k129 (by rfl) (hP vg1 _ _ _ _ hGg14 ⟨(toy76 c4 ktoy0), (Or.inr ⟨kj_v ((toy78 c4 ktoy0).trans ktoy0.symm), 4, by decide, (toy33 w13), cRb_t og1 (toy78 c4 ktoy0) (toy33 w13), og14⟩)⟩)
    by_cases w15 : x1.toInt = 5
    ·
      refine ko_eq (x1 := (19, [(2, .int vg1), (0, .ref 0), (1, .int x1)], [.int 5, .ref 97, .ref 49], (0, 0), ks i a q r)) (by rw [(kj_eq w15 (by decide) : x1 = 5)]) ?_
      first | refine ft_goS mi_k129 4 27 [.int (i 64), .ref 114, .ref 49] (by rfl) ?_ | refine ko_steps mi_in129 4 _ (27, [(2, .int vg1), (0, .ref 0), (1, .int x1)], [.int (i 64), .ref 114, .ref 49], (0, 0), ks i a q r) (by rfl) ?_
      refine ko_callN mi_k129.1 (pc := 27) (ls := [(2, .int vg1), (0, .ref 0), (1, .int x1)]) (st := [.int (i 64), .ref 114, .ref 49]) (h := ks i a q r) (i := (.invokevirtual 351, 3, 58, 0, 9, 0, 210)) (mi_k129.2 _ _ (by rfl)) (ft_invS mi_pq58 (by rfl)) (cy := mi_c58) mi_pq58 rfl (ke58_49_114 hG.I hG.R (i 64)) (by decide) ?_
      intro ig16 ag16 qg16 rg16 kg16 hg16
      have hGg16 := kG_call hG kg16 (by decide +kernel)
      obtain ⟨hg16, og16⟩ := hg16
      refine fo_goS mi_k129 fz129_30_1_31 [.int vg1] rfl ?_
      exact ft_ret mi_k129 (by rfl) (hP vg1 _ _ _ _ hGg16 ⟨(toy76 c4 ktoy0), (Or.inr ⟨kj_v ((toy78 c4 ktoy0).trans ktoy0.symm), 5, by decide, (toy79 w15), cRb_t og1 (toy78 c4 ktoy0) (toy79 w15), og16⟩)⟩)
    exact (toy80 c4 w11 w13 w15 w5 w7 w9 z2 ktoy0).elim
end
section
/-! THE REFERENCE'S STEPS IN THOUGHT -/
noncomputable def gT (i : Nat → Int32) (a : Nat → List Int32) : gS := (a 118, i 7464, i 7465, i 7466, i 7467, a 141)
noncomputable def gR (i : Nat → Int32) (a : Nat → List Int32) : gS := (a 118, i 7464, i 7465, i 7466, 0, List.replicate 64 0)
theorem gT_6 {i : Nat → Int32} {a : Nat → List Int32} {N F : List Int32} {p d b la : Int32} (h1 : a 118 = N) (h2 : i 7464 = p) (h3 : i 7465 = d) (h4 : i 7466 = b) (h5 : i 7467 = la) (h6 : a 141 = F) : gT i a = (N, p, d, b, la, F) := by
  subst h1; subst h2; subst h3; subst h4; subst h5; subst h6; rfl
section RH
variable {w : kW} {i i1 : Nat → Int32} {a a1 : Nat → List Int32} {q q1 : Nat → List Int64} {r r1 : Nat → Nat} {S : gS} {x1 v : Int32}
theorem gR_eq (h : a1 118 = a 118) (h1 : i1 7464 = i 7464) (h2 : i1 7465 = i 7465) (h3 : i1 7466 = i 7466) : gR i1 a1 = gR i a := by
  unfold gR
  rw [h, h1, h2, h3]
theorem th_goesIn (P : pt_ke166_116 x1 v i a q r i1 a1 q1 r1) : gT i1 a1 = gIn (gKn i a) x1 (gT i a) := by
  obtain ⟨_, c1, c2, c3, c4, c5, c6, n1, n2, n3, n4, n5, n6⟩ := P
  by_cases hd : ((a 117).getD (16 + x1).toNatClampNeg 0).toInt = 1 ∧ (i 7427).toInt = 0
  · have e : gIn (gKn i a) x1 (gT i a) = (a 118, 8, 0, 0, i 7467, a 141) := if_pos hd
    rw [e]
    exact gT_6 (n1 hd) (n2 hd) (n3 hd) (n4 hd) (n5 hd) (n6 hd)
  · have e : gIn (gKn i a) x1 (gT i a) = gCo (gKn i a) x1 (a 118) (gPaid (i 7426) x1 (a 118) (i 7467) (a 141)) := if_neg hd
    rw [e]
    exact gT_6 (c1 hd) (c2 hd) (c3 hd) (c4 hd) (c5 hd) (c6 hd)
theorem kg166_116 (hI : kI i a q) (hr : kr r) (x1 : Int32) (hp0 : ((0 : Int) ≤ x1.toInt) ∧ (x1.toInt ≤ 7)) (hE_code : kCode i a) : km 9 166 [.ref 116, .int x1] (ks i a q r) (kVI yw166_116 i a q r (fun v i1 a1 q1 r1 => (True) ∧ gT i1 a1 = gIn (gKn i a) x1 (gT i a))) := by
  refine km_imp (ke166_116 hI hr x1 hp0 hE_code) ?_
  rintro rv h1 ⟨v, i1, a1, q1, r1, e1, e2, g, hc⟩
  exact ⟨v, i1, a1, q1, r1, e1, e2, g, trivial, th_goesIn (q := q) (r := r) (q1 := q1) (r1 := r1) hc⟩
theorem gT_st {p : Nat} (f : ∀ k, k ≠ p → a1 k = a k) (h1 : 118 ≠ p) (h2 : 141 ≠ p) (h : gT i a = S) : gT i a1 = S := by
  rw [← h]
  unfold gT
  rw [f 118 h1, f 141 h2]
theorem gT_out (h : gT i a = S) : i 7464 = S.2.1 ∧ i 7465 = S.2.2.1 ∧ i 7466 = S.2.2.2.1 := by subst h; exact ⟨rfl, rfl, rfl⟩
theorem gT_c {T : gS} (h : gT i a = S) (e : T = S) : gT i a = T := h.trans e.symm
theorem gT_R (h1 : a1 118 = a 118) (h2 : i1 7464 = i 7464) (h3 : i1 7465 = i 7465) (h4 : i1 7466 = i 7466) (h5 : i1 7467 = 0) (h6 : a1 141 = List.replicate 64 0) : gT i1 a1 = gR i a := gT_6 h1 h2 h3 h4 h5 h6
theorem gT_eve (h : gT i a = S) (h1 : a1 118 = sEnds (a 118)) (h2 : i1 7464 = i 7464) (h3 : i1 7465 = i 7465) (h4 : i1 7466 = i 7466) (h5 : i1 7467 = i 7467) (h6 : a1 141 = a 141) : gT i1 a1 = gEve S := by
  subst h
  exact gT_6 h1 h2 h3 h4 h5 h6
theorem gT_18 (h : gT i a = S) : (a 118).getD (18 : Int32).toNatClampNeg 0 = S.1.getD 18 0 := by subst h; rw [(by decide : (18 : Int32).toNatClampNeg = 18)]; rfl
theorem gT_pu {x : Int32} (h : gT i a = S) : (a 118).getD x.toNatClampNeg 0 = S.1.getD x.toNatClampNeg 0 := by subst h; rfl
theorem gT_la (h : gT i a = S) : i 7467 = S.2.2.2.2.1 := by subst h; rfl
theorem rok {p : Prop} (h : p) : p := h
noncomputable def rNb (a : Nat → List Int32) (x1 v : Int32) : Prop := (v.toInt < 0 ∧ rRb a x1 v) ∨ (v = 0 ∧ ((a 136).getD x1.toNatClampNeg 0).toInt = 0)
theorem rNb_r (h : rNb a x1 v) (hv : v.toInt < 0) : rRb a x1 v := by
  rcases h with h | h
  · exact h.2
  · rw [h.1] at hv; exact absurd hv (by decide)
theorem rNb_0 (h : rNb a x1 v) (hv : ¬ (v.toInt < 0)) : ((a 136).getD x1.toNatClampNeg 0).toInt = 0 := by
  rcases h with h | h
  · exact absurd h.1 hv
  · exact h.2
theorem rTop_bar {ok : Prop} {f : Int → List Int32 → Prop} (h0 : ok ∧ 0 ≤ x1.toInt ∧ x1.toInt ≤ 5) (h : rNb a x1 v) (hv : v.toInt < 0) : rTop ok i a q x1 v f := Or.inr ⟨h0, Or.inl (rNb_r h hv)⟩
theorem rTop_go {ok : Prop} {f : Int → List Int32 → Prop} {u : Int32} {n : Int} {L : List Int32} (h0 : ok ∧ 0 ≤ x1.toInt ∧ x1.toInt ≤ 5) (h : rNb a x1 u) (hv : ¬ (u.toInt < 0)) (hd : kRd (i 7424) ((a 137).getD x1.toNatClampNeg 0).toInt (vQ (q 138) (60 * x1.toInt).toNat) n L) (hf : f n L) : rTop ok i a q x1 v f := Or.inr ⟨h0, Or.inr ⟨n, L, ⟨rNb_0 h hv, hd⟩, hf⟩⟩
end RH
end
section
theorem ktot0 : (0 : Int32).toInt = 0 := by decide
theorem ktot1 : (1 : Int32).toInt = 1 := by decide
theorem ktot2 : (2 : Int32).toInt = 2 := by decide
theorem ktot3 : (3 : Int32).toInt = 3 := by decide
theorem ktot60 : (60 : Int32).toInt = 60 := by decide
theorem ktot18 : (18 : Int32).toInt = 18 := by decide
theorem kotm1 : ((-1) : Int32).toInt = (-1) := by decide
theorem ktot20 : (20 : Int32).toInt = 20 := by decide
theorem kotm12 : ((-12) : Int32).toInt = (-12) := by decide
theorem kotm11 : ((-11) : Int32).toInt = (-11) := by decide
theorem ktot64 : (64 : Int32).toInt = 64 := by decide
theorem tot5 {a0 : Int} (h0 : (0 : Int) ≤ a0) : (0 : Int) ≤ a0 := oz3 h0
theorem tot6 {a0 : Int} (h0 : a0 ≤ 5) : a0 < 6 := oz19 h0
theorem tot7 {a0 : Int} (h0 : a0 = 0) : a0 ≤ 0 := by omega
theorem tot8 {a0 a1 : Int} (h0 : a0 = a1) (h1 : a1 = 0) : a0 = 0 := og41 h0 h1
theorem tot9 {a0 : Int} (h0 : a0 = (-12)) : a0 ≤ 0 := by omega
theorem tot10 {a0 a1 : Int} (h0 : a0 ≠ a1) (h1 : (-1 : Int) ≤ a0) (h2 : a1 = (-1)) : a0 ≠ -1 := by omega
theorem tot11 {a0 a1 a2 : Int} (h0 : a0 ≠ a1) (h1 : a0 ≠ a2) (h2 : (-1 : Int) ≤ a0) (h3 : a1 = (-1)) (h4 : a2 = 0) : a0 ≠ 0 := by omega
theorem tot12 {a0 : Int} (h0 : a0 = (-11)) : a0 ≤ 0 := by omega
theorem tot13 {a0 a1 : Int} (h0 : a0 = a1) (h1 : (-1 : Int) ≤ a0) (h2 : a1 = (-1)) : a0 = -1 := by omega
theorem tot14 {a0 : Int} (h0 : (0 : Int) ≤ a0) (h1 : a0 ≤ 5) : ((0 : Int) ≤ a0) ∧ (a0 ≤ 5) := oz35 h0 h1
theorem tot15 {a0 : Int} (h0 : a0 = 0) : (0 : Int) ≤ a0 := oz46 h0
theorem tot16 {a0 : Int} (h0 : a0 = 0) : a0 ≤ 21 := oz208 h0
theorem tot21 {a0 : Int} (h0 : (0 : Int) ≤ a0) : (-2147483648 : Int) ≤ 60 * a0 := oz28 h0
theorem tot22 {a0 : Int} (h0 : a0 ≤ 5) : 60 * a0 ≤ 2147483647 := oz29 h0
theorem tot27 {a0 : Int}  : a0 = a0 := oz34
theorem tot28 {a0 : Int} (h0 : (0 : Int) ≤ a0) (h1 : a0 ≤ 21) : ((0 : Int) ≤ a0) ∧ (a0 ≤ 59) := oz211 h0 h1
theorem tot34 {a0 a1 a2 : Int} (h0 : a0 = a1) (h1 : (0 : Int) ≤ a0) (h2 : a2 = a1) : (0 : Int) ≤ a2 := oz213 h0 h1 h2
theorem tot35 {a0 a1 a2 a3 : Int} (h0 : a0 ≤ 8) (h1 : a1 = a2) (h2 : a1 < a0) (h3 : a3 = a2) : a3 ≤ 7 := oz214 h0 h1 h2 h3
theorem tot36 {a0 a1 : Int} (h0 : (0 : Int) ≤ a0) (h1 : a1 = 1) : (-2147483648 : Int) ≤ a0 + a1 := oz12 h0 h1
theorem tot37 {a0 a1 : Int} (h0 : a0 ≤ 21) (h1 : a1 = 1) : a0 + a1 ≤ 2147483647 := oz215 h0 h1
theorem tot38 {a0 a1 a2 : Int} (h0 : (0 : Int) ≤ a0) (h1 : a1 = a0 + a2) (h2 : a2 = 1) : (0 : Int) ≤ a1 := oz14 h0 h1 h2
theorem tot41 {a0 a1 a2 a3 a4 : Int} (h0 : a0 < a1) (h1 : a2 = a0 + a3) (h2 : a1 = a4) (h3 : a3 = 1) : a2 ≤ a4 := by omega
theorem tot42 {a0 a1 a2 : Int} (h0 : (0 : Int) ≤ a0) (h1 : (0 : Int) ≤ a1) (h2 : a2 = 60 * a1) : (-2147483648 : Int) ≤ a2 + a0 := by omega
theorem tot44 {a0 a1 a2 a3 : Int} (h0 : a0 = 60 * a1) (h1 : a2 = a0 + a3) : a2 = 60 * a1 + a3 := by omega
theorem tot45 {a0 a1 : Int} (h0 : a0 = a1) : a0 = a1 := oz719 h0
theorem tot47 {a0 a1 a2 : Int} (h0 : a0 = a1 + a2) (h1 : a2 = 1) : a0 = a1 + 1 := oz169 h0 h1
theorem tot48 {a0 a1 a2 a3 a4 : Int} (h0 : a0 = a1) (h1 : a2 = a3) (h2 : a2 < a0) (h3 : a4 = a3) : a4 < a1 := by omega
theorem tot49 {a0 a1 a2 : Int} (h0 : a0 = a1 + a2) (h1 : a2 = 1) : (20 - a0) < (20 - a1) := oz218 h0 h1
theorem tot51 {a0 a1 a2 : Int} (h0 : a0 < a1) (h1 : a1 = a2) : a0 ≤ a2 := toy54 h0 h1
theorem tot52 {a0 a1 a2 a3 : Int} (h0 : a0 = a1) (h1 : a2 = a3) (h2 : ¬ (((0 : Int) ≤ a2) ∧ (a2 < a0))) : ¬ ((0 : Int) ≤ a3 ∧ a3 < a1) := by omega
theorem tot53 {a0 : Int} (h0 : a0 = 0) : a0 ≤ 20 := oz220 h0
theorem tot54 {a0 a1 : Int} (h0 : (0 : Int) ≤ a0) (h1 : a1 = 0) : a1 ≤ a0 := ob67 h0 h1
theorem tot55 {a0 : Int} (h0 : a0 ≤ 20) : a0 ≤ 20 := oz221 h0
theorem tot56 {a0 a1 : Int} (h0 : a0 ≤ a1) (h1 : a0 = 20) : (0 : Int) ≤ a1 := toy74 h0 h1
theorem tot57 {a0 a1 : Int} (h0 : a0 ≤ a1) : a0 ≤ a1 := oz173 h0
theorem tot58 {a0 a1 : Int} (h0 : a0 ≤ a1) (h1 : a1 ≤ 20) (h2 : a0 = 20) : a1 = 20 := toy75 h0 h1 h2
theorem tot59 {a0 a1 a2 : Int} (h0 : a0 ≤ a1) (h1 : a1 ≤ a2) (h2 : a0 = a2) : a1 = a2 := by omega
theorem tot60 {a0 : Int} (h0 : a0 ≤ 20) : a0 < 21 := oz222 h0
theorem tot61 {a0 a1 a2 : Int} (h0 : a0 ≤ 20) (h1 : a1 = a0 + a2) (h2 : a2 = 1) : a1 ≤ 21 := oz223 h0 h1 h2
theorem tot62 {a0 a1 a2 a3 : Int} (h0 : a0 < a1) (h1 : a2 = a0 + a3) (h2 : a1 = 20) (h3 : a3 = 1) : a2 ≤ 20 := oz224 h0 h1 h2 h3
theorem tot63 {a0 a1 a2 a3 : Int} (h0 : a0 < a1) (h1 : a2 ≤ 5) (h2 : a3 = 60 * a2) (h3 : a1 = 20) : a3 + a0 ≤ 2147483647 := by omega
theorem tot64 {a0 : Int} (h0 : a0 ≤ 20) : a0 < ((21 : Nat) : Int) := by omega
theorem tot65 {a0 a1 : Int} (h0 : a0 < a1) (h1 : a1 = 20) : (1 : Int) ≤ (20 - a0) := oz225 h0 h1
theorem tot78 {a0 : Int} (h0 : a0 = 0) : a0 = 0 := oz236 h0
theorem tot79 {a0 a1 : Int} (h0 : a0 ≤ a1) (h1 : a0 = 64) : ((64 : Nat) : Int) ≤ a1 := by omega
theorem tot80 {a0 a1 : Int} (h0 : a0 < a1) (h1 : a1 = 64) : a0 < 64 := oz237 h0 h1
theorem tot81 {a0 a1 a2 : Int} (h0 : a0 < a1) (h1 : a1 = 64) (h2 : a2 = 1) : a0 + a2 ≤ 2147483647 := oz238 h0 h1 h2
theorem tot82 {a0 a1 : Int} (h0 : a0 < a1) (h1 : a1 = 64) : a0 < ((64 : Nat) : Int) := by omega
theorem tot83 {a0 a1 a2 : Int} (h0 : a0 = a1 + a2) (h1 : a2 = 1) : (64 - a0) < (64 - a1) := oz239 h0 h1
theorem tot84 {a0 a1 : Int} (h0 : a0 < a1) (h1 : a1 = 64) : (1 : Int) ≤ (64 - a0) := oz240 h0 h1
theorem tot85 {a0 a1 a2 : Int} (h0 : a0 ≤ a1) (h1 : a0 = a2) (h2 : a1 ≤ a2) : a1 = a2 := ox0 h0 h1 h2
theorem tot86 {a0 a1 a2 : Int} (h0 : a0 < a1) (h1 : a1 = a2) (h2 : a2 ≤ 21) : a0 < 21 := by omega
theorem tot87 {a0 : Int} (h0 : (0 : Int) ≤ a0) (h1 : a0 ≤ 7) : ((0 : Int) ≤ a0) ∧ (a0 ≤ 7) := oz181 h0 h1
theorem tot88 {a0 a1 a2 a3 : Int} (h0 : a0 < a1) (h1 : a1 = a2) (h2 : a2 ≤ 21) (h3 : a3 = 1) : a0 + a3 ≤ 2147483647 := by omega
theorem tot89 {a0 a1 a2 a3 a4 : Int} (h0 : a0 < a1) (h1 : a1 = a2) (h2 : a3 = a0 + a4) (h3 : a4 = 1) : a3 ≤ a2 := ox9 h0 h1 h2 h3
theorem tot90 {a0 a1 a2 : Int} (h0 : a0 = a1) (h1 : a2 = a0) : a2 = a1 := oz762 h0 h1
theorem tot91 {a0 a1 a2 : Int} (h0 : a0 < a1) (h1 : a1 = a2) (h2 : a2 ≤ 21) : a0 < ((21 : Nat) : Int) := by omega
theorem tot92 {a0 a1 a2 a3 a4 : Int} (h0 : a0 = a1) (h1 : a2 = a3 + a4) (h2 : a4 = 1) : (a0 - a2) < (a1 - a3) := oz308 h0 h1 h2
theorem tot93 {a0 a1 : Int} (h0 : a0 < a1) : (1 : Int) ≤ (a1 - a0) := oz45 h0
theorem tot94 {a0 a1 a2 a3 a4 : Int} (h0 : a0 ≠ a1) (h1 : a0 ≠ a2) (h2 : a0 ≠ a3) (h3 : a0 ≠ a4) (h4 : a1 ≤ a0) (h5 : a0 ≤ a4) (h6 : a1 = 0) (h7 : a2 = 1) (h8 : a3 = 2) (h9 : a4 = 3) : False := oz382 h0 h1 h2 h3 h4 h5 h6 h7 h8 h9
theorem tot95 {a0 : Int} (h0 : a0 = 18) : (0 : Int) ≤ a0 := oz195 h0
theorem tot96 {a0 : Int} (h0 : a0 = 18) : a0 < 31 := oz196 h0
theorem tot99 {a0 a1 a2 a3 a4 a5 a6 : Int} (h0 : a0 = a1) (h1 : a2 = a3) (h2 : (0 : Int) ≤ a4) (h3 : a4 ≤ 5) (h4 : a0 ≤ a5) (h5 : a1 = 2) (h6 : a3 = 0) (h7 : a5 = 3) : (((0 : Int) ≤ a0) ∧ (a0 ≤ 3) ∧ (((a0 = 3) → (((0 : Int) ≤ a2) ∧ (a2 < a6)))) ∧ (((a0 ≠ 3) → (a2 = 0)))) ∧ ((0 : Int) ≤ a4) ∧ (a4 ≤ 5) := by omega
theorem tot100 {a0 a1 : Int} (h0 : a0 ≤ a1) (h1 : a0 = 0) : ¬ (a1 < 0) := oy47 h0 h1
theorem tot101 {a0 a1 : Int} (h0 : a0 = a1) (h1 : a1 = 2) : ¬ (a0 = 0) := by omega
theorem tot102 {a0 a1 : Int} (h0 : a0 = a1) (h1 : a1 = 2) : ¬ (a0 = 1) := by omega
theorem tot104 {a0 a1 : Int} (h0 : a0 = a1) (h1 : a1 = 2) : ¬ (a0 = 3) := by omega
theorem tot105 {a0 a1 a2 a3 a4 a5 a6 : Int} (h0 : a0 = a1) (h1 : a2 = a3) (h2 : (0 : Int) ≤ a4) (h3 : a4 ≤ 5) (h4 : a0 ≤ a5) (h5 : a1 = 1) (h6 : a3 = 0) (h7 : a5 = 3) : (((0 : Int) ≤ a0) ∧ (a0 ≤ 3) ∧ (((a0 = 3) → (((0 : Int) ≤ a2) ∧ (a2 < a6)))) ∧ (((a0 ≠ 3) → (a2 = 0)))) ∧ ((0 : Int) ≤ a4) ∧ (a4 ≤ 5) := by omega
theorem tot106 {a0 a1 : Int} (h0 : a0 = a1) (h1 : a1 = 1) : ¬ (a0 = 0) := oz1174 h0 h1
theorem tot108 {a0 a1 : Int} (h0 : a0 = a1) (h1 : a1 = 1) : ¬ (a0 = 2) := toy127 h0 h1
theorem tot109 {a0 a1 : Int} (h0 : a0 = a1) (h1 : a1 = 1) : ¬ (a0 = 3) := by omega
theorem tot110 {a0 a1 a2 a3 a4 a5 : Int} (h0 : a0 = a1) (h1 : a2 = a1) (h2 : (0 : Int) ≤ a3) (h3 : a3 ≤ 5) (h4 : a1 ≤ a0) (h5 : a0 ≤ a4) (h6 : a1 = 0) (h7 : a4 = 3) : (((0 : Int) ≤ a0) ∧ (a0 ≤ 3) ∧ (((a0 = 3) → (((0 : Int) ≤ a2) ∧ (a2 < a5)))) ∧ (((a0 ≠ 3) → (a2 = 0)))) ∧ ((0 : Int) ≤ a3) ∧ (a3 ≤ 5) := by omega
theorem tot112 {a0 a1 : Int} (h0 : a0 = a1) (h1 : a1 = 0) : ¬ (a0 = 1) := toy129 h0 h1
theorem tot113 {a0 a1 : Int} (h0 : a0 = a1) (h1 : a1 = 0) : ¬ (a0 = 2) := toy130 h0 h1
theorem tot114 {a0 a1 : Int} (h0 : a0 = a1) (h1 : a1 = 0) : ¬ (a0 = 3) := by omega
theorem tot115 {a0 a1 a2 a3 a4 a5 : Int} (h0 : a0 ≠ a1) (h1 : a2 = a3) (h2 : (0 : Int) ≤ a4) (h3 : a4 ≤ 5) (h4 : a3 ≤ a0) (h5 : a0 ≤ a1) (h6 : a1 = 3) (h7 : a3 = 0) : (((0 : Int) ≤ a0) ∧ (a0 ≤ 3) ∧ (((a0 = 3) → (((0 : Int) ≤ a2) ∧ (a2 < a5)))) ∧ (((a0 ≠ 3) → (a2 = 0)))) ∧ ((0 : Int) ≤ a4) ∧ (a4 ≤ 5) := by omega
theorem tot116 {a0 a1 : Int} (h0 : a0 < a1) (h1 : a1 = 0) : a0 < 0 := oz1670 h0 h1
theorem tot117 {a0 a1 a2 a3 a4 a5 : Int} (h0 : a0 ≠ a1) (h1 : a2 ≠ a3) (h2 : a2 ≤ a3) (h3 : a1 = 0) (h4 : a3 = 3) : ¬ ((((0 : Int) ≤ a2) ∧ (a2 ≤ 3) ∧ (((a2 = 3) → (((0 : Int) ≤ a0) ∧ (a0 < a4)))) ∧ (((a2 ≠ 3) → (a0 = 0)))) ∧ ((0 : Int) ≤ a5) ∧ (a5 ≤ 5)) := by omega
theorem tot118 {a0 a1 : Int} (h0 : a0 ≤ 8) (h1 : a1 < a0) : a1 < 31 := oz385 h0 h1
theorem tot119 {a0 a1 a2 a3 a4 : Int} (h0 : a0 = a1) (h1 : (0 : Int) ≤ a2) (h2 : a2 ≤ 5) (h3 : (0 : Int) ≤ a3) (h4 : a3 < a4) (h5 : a0 ≤ a1) (h6 : a1 = 3) : (((0 : Int) ≤ a0) ∧ (a0 ≤ 3) ∧ (((a0 = 3) → (((0 : Int) ≤ a3) ∧ (a3 < a4)))) ∧ (((a0 ≠ 3) → (a3 = 0)))) ∧ ((0 : Int) ≤ a2) ∧ (a2 ≤ 5) := by omega
theorem tot120 {a0 a1 : Int} (h0 : a0 = a1) (h1 : a1 = 3) : ¬ (a0 = 0) := oz1053 h0 h1
theorem tot121 {a0 a1 : Int} (h0 : a0 = a1) (h1 : a1 = 3) : ¬ (a0 = 1) := oz1054 h0 h1
theorem tot122 {a0 a1 : Int} (h0 : a0 = a1) (h1 : a1 = 3) : ¬ (a0 = 2) := oz1055 h0 h1
theorem tot124 {a0 a1 a2 : Int} (h0 : a0 = a1) (h1 : a0 = a2) (h2 : a1 = 3) (h3 : a2 = 2) : False := oz386 h0 h1 h2 h3
theorem tot125 {a0 a1 a2 : Int} (h0 : a0 = a1) (h1 : a0 = a2) (h2 : a1 = 3) (h3 : a2 = 1) : False := oz387 h0 h1 h2 h3
theorem tot126 {a0 a1 a2 : Int} (h0 : a0 = a1) (h1 : a0 = a2) (h2 : a1 = 3) (h3 : a2 = 0) : False := oz388 h0 h1 h2 h3
theorem tot127 {a0 a1 a2 a3 a4 : Int} (h0 : a0 = a1) (h1 : a0 ≤ a1) (h2 : ¬ (((0 : Int) ≤ a2) ∧ (a2 < a3))) (h3 : a1 = 3) : ¬ ((((0 : Int) ≤ a0) ∧ (a0 ≤ 3) ∧ (((a0 = 3) → (((0 : Int) ≤ a2) ∧ (a2 < a3)))) ∧ (((a0 ≠ 3) → (a2 = 0)))) ∧ ((0 : Int) ≤ a4) ∧ (a4 ≤ 5)) := by omega
theorem tot128 {a0 a1 a2 a3 a4 a5 : Int} (h0 : ¬ ((a0 ≤ a1) ∧ (a1 ≤ a2))) (h1 : a0 = 0) (h2 : a2 = 3) : ¬ ((((0 : Int) ≤ a1) ∧ (a1 ≤ 3) ∧ (((a1 = 3) → (((0 : Int) ≤ a3) ∧ (a3 < a4)))) ∧ (((a1 ≠ 3) → (a3 = 0)))) ∧ ((0 : Int) ≤ a5) ∧ (a5 ≤ 5)) := by omega
theorem tot129 {a0 a1 a2 a3 : Int} (h0 : ¬ (((0 : Int) ≤ a0) ∧ (a0 ≤ 5))) : ¬ ((((0 : Int) ≤ a1) ∧ (a1 ≤ 3) ∧ (((a1 = 3) → (((0 : Int) ≤ a2) ∧ (a2 < a3)))) ∧ (((a1 ≠ 3) → (a2 = 0)))) ∧ ((0 : Int) ≤ a0) ∧ (a0 ≤ 5)) := by omega
theorem tot130 {a0 a1 a2 a3 : Int} (h0 : a0 < a1) (h1 : a1 = 0) : ¬ ((((0 : Int) ≤ a0) ∧ ((0 : Int) ≤ a2) ∧ (a2 ≤ 2)) ∧ ((0 : Int) ≤ a3) ∧ (a3 ≤ 5)) := by omega
theorem tot131 {a0 a1 : Int} (h0 : a0 ≤ a1) (h1 : a0 = 0) : (0 : Int) ≤ a1 := oz389 h0 h1
theorem tot132 {a0 a1 : Int} (h0 : a0 < a1) (h1 : a1 ≤ 21) : a0 < 21 := oz241 h0 h1
theorem tot133 {a0 a1 a2 a3 a4 : Int} (h0 : a0 ≤ a1) (h1 : (0 : Int) ≤ a2) (h2 : a2 ≤ 5) (h3 : a0 ≤ a3) (h4 : a3 ≤ a4) (h5 : a0 = 0) (h6 : a4 = 2) : (((0 : Int) ≤ a1) ∧ ((0 : Int) ≤ a3) ∧ (a3 ≤ 2)) ∧ ((0 : Int) ≤ a2) ∧ (a2 ≤ 5) := by omega
theorem tot134 {a0 a1 : Int} (h0 : a0 < a1) : a0 < a1 := oz270 h0
theorem tot135 {a0 a1 : Int} (h0 : a0 < a1) : ¬ (a1 ≤ a0) := ou140 h0
theorem tot136 {a0 a1 : Int} (h0 : a0 ≠ a1) (h1 : a1 ≤ a0) (h2 : a1 = 0) : ¬ (a0 = 0) := toy121 h0 h1 h2
theorem tot137 {a0 a1 a2 : Int} (h0 : a0 ≠ a1) (h1 : a0 ≠ a2) (h2 : a1 ≤ a0) (h3 : a1 = 0) (h4 : a2 = 1) : ¬ (a0 = 1) := toy122 h0 h1 h2 h3 h4
theorem tot139 {a0 a1 a2 a3 a4 a5 : Int} (h0 : a0 = a1) (h1 : a2 ≤ a3) (h2 : (0 : Int) ≤ a4) (h3 : a4 ≤ 5) (h4 : a0 ≤ a5) (h5 : a1 = 1) (h6 : a2 = 0) (h7 : a5 = 2) : (((0 : Int) ≤ a3) ∧ ((0 : Int) ≤ a0) ∧ (a0 ≤ 2)) ∧ ((0 : Int) ≤ a4) ∧ (a4 ≤ 5) := by omega
theorem tot140 {a0 a1 : Int} (h0 : a0 ≤ a1) : ¬ (a1 < a0) := toy131 h0
theorem tot141 {a0 a1 a2 a3 a4 : Int} (h0 : ¬ ((a0 ≤ a1) ∧ (a1 ≤ a2))) (h1 : a0 = 0) (h2 : a2 = 2) : ¬ ((((0 : Int) ≤ a3) ∧ ((0 : Int) ≤ a1) ∧ (a1 ≤ 2)) ∧ ((0 : Int) ≤ a4) ∧ (a4 ≤ 5)) := by omega
theorem tot142 {a0 a1 a2 : Int} (h0 : ¬ (((0 : Int) ≤ a0) ∧ (a0 ≤ 5))) : ¬ ((((0 : Int) ≤ a1) ∧ ((0 : Int) ≤ a2) ∧ (a2 ≤ 2)) ∧ ((0 : Int) ≤ a0) ∧ (a0 ≤ 5)) := by omega
set_option maxRecDepth 100000 in
theorem kg173_116 {i : Nat → Int32} {a : Nat → List Int32} {q : Nat → List Int64} {r : Nat → Nat} (hI : kI i a q) (hr : kr r) (x1 : Int32) (hp0 : ((0 : Int) ≤ x1.toInt) ∧ (x1.toInt ≤ 5)) : km 1 173 [.ref 116, .int x1] (ks i a q r) (kPI (ks i a q r) (fun v => (v.toInt ≤ 0) ∧ rNb a x1 v)) := by
  have hG := kG_self kW0 hI hr
  refine km_ofPI (q := (mi_h173, mi_c173)) rfl (by decide) (Nat.le_of_ble_eq_true rfl) ?_
  intro P hP
  refine fo_goL mi_k173 fz173_0_3_5 [(0, .ref 116), (1, .int x1)] [.int x1, .ref 136] rfl ?_
  refine ko_iald3 mi_k173.1 (n := 6) (c := 6) (ax := (0, 0, 0, 0, 0)) (mi_k173.2 _ _ (by rfl)) (by rfl) (ksG136 _ _ _ _) (hG.I.2.1 136) rfl (tot5 hp0.1) (tot6 hp0.2) ?_
  have r1 : ((-1 : Int) ≤ ((a 136).getD x1.toNatClampNeg 0).toInt) ∧ (((a 136).getD x1.toNatClampNeg 0).toInt ≤ 59) := hG.I.2.2.1 136 (x1.toNatClampNeg)
  refine ft_goS mi_k173 1 7 [.int (-1), .int ((a 136).getD x1.toNatClampNeg 0)] (by rfl) ?_
  refine ft_ifS mi_k173 (((a 136).getD x1.toNatClampNeg 0) != (-1)) 15 10 [] (by rfl) (fun c => ?_) (fun c => ?_)
  ·
    have c2 : ((a 136).getD x1.toNatClampNeg 0).toInt ≠ ((-1) : Int32).toInt := kd_ne c; clear c
    refine fo_goS mi_k173 fz173_15_3_20 [.int x1, .ref 136] rfl ?_
    refine ko_iald3 mi_k173.1 (n := 6) (c := 6) (ax := (0, 0, 0, 0, 0)) (mi_k173.2 _ _ (by rfl)) (by rfl) (ksG136 _ _ _ _) (hG.I.2.1 136) rfl (tot5 hp0.1) (tot6 hp0.2) ?_
    refine ft_ifS mi_k173 (((a 136).getD x1.toNatClampNeg 0) == 0) 29 24 [] (by rfl) (fun c => ?_) (fun c => ?_)
    ·
      have c3 : ((a 136).getD x1.toNatClampNeg 0).toInt = (0 : Int32).toInt := kd_eq c; clear c
      first | refine ft_goS mi_k173 1 30 [.int 0] (by rfl) ?_
      exact ft_ret mi_k173 (by rfl) (hP 0 ⟨(tot7 ktot0), (Or.inr ⟨rfl, (tot8 c3 ktot0)⟩)⟩)
    ·
      have c4 : ((a 136).getD x1.toNatClampNeg 0).toInt ≠ (0 : Int32).toInt := kd_eqF c; clear c
      first | refine fo_goS mi_k173 fz173_10_2_30 [.int (-12)] (by rfl) ?_ | refine fo_goS mi_k173 fz173_24_2_30 [.int (-12)] (by rfl) ?_ | refine fo_goS mi_k173 fz173_21_2_30 [.int (-12)] (by rfl) ?_
      exact ft_ret mi_k173 (by rfl) (hP (-12) ⟨(tot9 kotm12), (Or.inl ⟨by decide, Or.inr ⟨(tot10 c2 r1.1 kotm1), (tot11 c2 c4 r1.1 kotm1 ktot0), rfl⟩⟩)⟩)
  ·
    have c5 : ((a 136).getD x1.toNatClampNeg 0).toInt = ((-1) : Int32).toInt := kd_neF c; clear c
    first | refine fo_goS mi_k173 fz173_10_2_30 [.int (-11)] (by rfl) ?_ | refine fo_goS mi_k173 fz173_24_2_30 [.int (-11)] (by rfl) ?_ | refine fo_goS mi_k173 fz173_21_2_30 [.int (-11)] (by rfl) ?_
    exact ft_ret mi_k173 (by rfl) (hP (-11) ⟨(tot12 kotm11), (Or.inl ⟨by decide, Or.inl ⟨(tot13 c5 r1.1 kotm1), rfl⟩⟩)⟩)
noncomputable def ygw174_116 : kW := ([7469], [142], [], [])
noncomputable def ygw174_116_L5 : kW := ([7469], [142], [], [])
set_option maxRecDepth 100000 in
theorem kg174_116 {i : Nat → Int32} {a : Nat → List Int32} {q : Nat → List Int64} {r : Nat → Nat} (hI : kI i a q) (hr : kr r) (x1 : Int32) (hp0 : ((0 : Int) ≤ x1.toInt) ∧ (x1.toInt ≤ 5)) : km 5 174 [.ref 116, .int x1] (ks i a q r) (kVN ygw174_116 i a q r (fun i1 a1 q1 r1 => ((i1 7469).toInt ≤ 20) ∧ kRd (i 7424) ((a 137).getD x1.toNatClampNeg 0).toInt (vQ (q 138) (60 * x1.toInt).toNat) (i1 7469).toInt (a1 142))) := by
  have hG := kG_self ygw174_116 hI hr
  refine km_ofN (q := (mi_h174, mi_c174)) rfl (by decide) (Nat.le_of_ble_eq_true rfl) ?_
  intro P hP
  have hJ1 := kG_i hG 7469 rfl (v := 0) ⟨(tot15 ktot0), (tot16 ktot0)⟩
  first | refine fo_go mi_k174 fz174_0_3_5 [(0, .ref 116), (1, .int x1)] [] (ku i 7469 0) a q r (by rfl) ?_ | refine fo_go mi_k174 fz174_67_3_5 [(0, .ref 116), (1, .int x1)] [] (ku i 7469 0) a q r (by rfl) ?_ | refine ft_go mi_k174 3 5 [(0, .ref 116), (1, .int x1)] [] (ku i 7469 0) a q r (by rfl) ?_
  have lp2 : ∀ (nz : Nat) (i2 : Nat → Int32) (a2 : Nat → List Int32) (q2 : Nat → List Int64) (r2 : Nat → Nat), kG ygw174_116_L5 (ku i 7469 0) a q r i2 a2 q2 r2 → (0 : Int) ≤ (i2 7469).toInt → (i2 7469).toInt ≤ 20 → (i2 7469).toInt ≤ ((a 137).getD x1.toNatClampNeg 0).toInt → kRp (i 7424) (vQ (q 138) (60 * x1.toInt).toNat) (i2 7469).toInt (a2 142) → ((20 - (i2 7469).toInt)).toNat < nz → ko 5 (mi_h174, mi_c174) P (5, [(0, .ref 116), (1, .int x1)], [], (0, 0), ks i2 a2 q2 r2) := by
    intro nz
    induction nz with
    | zero =>
      intro _ _ _ _ _ _ _ _ _ hm
      exact absurd hm (Nat.not_lt_zero _)
    | succ nz ih2 =>
      intro i2 a2 q2 r2 hL2 p2_0 p2_1 p2_2 O2_0 hm2
      have fi2_7469 : ((0 : Int) ≤ (i2 7469).toInt) ∧ ((i2 7469).toInt ≤ 21) := hL2.I.1 7469
      have r4 : ((0 : Int) ≤ ((a 137).getD x1.toNatClampNeg 0).toInt) ∧ (((a 137).getD x1.toNatClampNeg 0).toInt ≤ 60) := hG.I.2.2.1 137 (x1.toNatClampNeg)
      refine fo_goL mi_k174 fz174_5_3_11 [(0, .ref 116), (1, .int x1)] [.int 20, .int (i2 7469)] rfl ?_
      refine ft_ifS mi_k174 (decide (20 ≤ (i2 7469))) 74 14 [] (by rfl) (fun c => ?_) (fun c => ?_)
      ·
        have c5 : (20 : Int32).toInt ≤ (i2 7469).toInt := kd_le c; clear c
        have hG6 := kG_call hJ1 hL2 (by decide +kernel)
        exact ft_ret mi_k174 (by rfl) (hP  _ _ _ _ hG6 ⟨(tot55 p2_1), (kRd_mk (k := (i2 7469)) O2_0 rfl (tot56 c5 ktot20) (tot55 p2_1) (tot57 p2_2) (Or.inl (tot58 c5 p2_1 ktot20)))⟩)
      ·
        have c7 : (i2 7469).toInt < (20 : Int32).toInt := kd_leF c; clear c
        refine fo_goS mi_k174 fz174_14_5_23 [.int x1, .ref 137, .int (i2 7469)] rfl ?_
        refine ko_iald3 mi_k174.1 (n := 6) (c := 6) (ax := (0, 0, 0, 0, 0)) (mi_k174.2 _ _ (by rfl)) (by rfl) (ksG137 _ _ _ _) (hL2.I.2.1 137) rfl (tot5 hp0.1) (tot6 hp0.2) ?_
        have r8 : ((0 : Int) ≤ ((a2 137).getD x1.toNatClampNeg 0).toInt) ∧ (((a2 137).getD x1.toNatClampNeg 0).toInt ≤ 60) := hL2.I.2.2.1 137 (x1.toNatClampNeg)
        have u9 : ((a2 137).getD x1.toNatClampNeg 0).toInt = ((a 137).getD x1.toNatClampNeg 0).toInt := congrArg (fun z : List Int32 => (z.getD x1.toNatClampNeg 0).toInt) (hL2.fa 137 rfl)
        refine ft_ifS mi_k174 (decide (((a2 137).getD x1.toNatClampNeg 0) ≤ (i2 7469))) 74 27 [] (by rfl) (fun c => ?_) (fun c => ?_)
        ·
          have c10 : ((a2 137).getD x1.toNatClampNeg 0).toInt ≤ (i2 7469).toInt := kd_le c; clear c
          have hG11 := kG_call hJ1 hL2 (by decide +kernel)
          exact ft_ret mi_k174 (by rfl) (hP  _ _ _ _ hG11 ⟨(tot55 p2_1), (kRd_mk (k := (i2 7469)) O2_0 rfl (tot5 fi2_7469.1) (tot55 p2_1) (tot57 p2_2) (Or.inr (Or.inl (tot59 c10 p2_2 u9))))⟩)
        ·
          have c12 : (i2 7469).toInt < ((a2 137).getD x1.toNatClampNeg 0).toInt := kd_leF c; clear c
          refine fo_goS mi_k174 fz174_27_5_34 [.int (i2 7469), .int x1, .ref 116, .ref 116] rfl ?_
          refine ko_callPI mi_k174.1 (pc := 34) (ls := [(0, .ref 116), (1, .int x1)]) (st := [.int (i2 7469), .int x1, .ref 116, .ref 116]) (h := ks i2 a2 q2 r2) (i := (.invokevirtual 133, 3, 137, 0, 9, 0, 384)) (mi_k174.2 _ _ (by rfl)) (ft_invS mi_pq137 (by rfl)) (cy := mi_c137) mi_pq137 rfl (kc137_116 hL2.I hL2.R x1 (i2 7469) (tot14 hp0.1 hp0.2) (tot28 fi2_7469.1 fi2_7469.2)) (by decide) ?_
          intro vg13 hg13
          have z14 : vg13.toInt = (((q2 138).getD ((60 * x1) + (i2 7469)).toNatClampNeg 0).toInt32).toInt := hg13
          refine ko_callPI mi_k174.1 (pc := 37) (ls := [(0, .ref 116), (1, .int x1)]) (st := [.int vg13, .ref 116]) (h := ks i2 a2 q2 r2) (i := (.invokevirtual 137, 3, 132, 0, 9, 0, 387)) (mi_k174.2 _ _ (by rfl)) (ft_invS mi_pq132 (by rfl)) (cy := mi_c132) mi_pq132 rfl (kc132_116 hL2.I hL2.R vg13) (by decide) ?_
          intro vg15 hg15
          rcases hg15 with ⟨eg15, hg15⟩ | ⟨eg15, hg15⟩
          ·
            subst eg15
            have fi2_7424 : ((0 : Int) ≤ (i2 7424).toInt) ∧ ((i2 7424).toInt ≤ 8) := hL2.I.1 7424
            have efi2_7424 : (i2 7424).toInt = (i 7424).toInt := hL2.ti 7424 rfl
            have z16 : ((0 : Int) ≤ vg13.toInt) ∧ (vg13.toInt < (i2 7424).toInt) := hg15
            refine fo_goS mi_k174 fz174_40_9_57 [.int (i2 7469), .int x1, .ref 116, .int (i2 7469), .ref 142] rfl ?_
            refine ko_callPI mi_k174.1 (pc := 57) (ls := [(0, .ref 116), (1, .int x1)]) (st := [.int (i2 7469), .int x1, .ref 116, .int (i2 7469), .ref 142]) (h := ks i2 a2 q2 r2) (i := (.invokevirtual 133, 3, 137, 0, 9, 0, 384)) (mi_k174.2 _ _ (by rfl)) (ft_invS mi_pq137 (by rfl)) (cy := mi_c137) mi_pq137 rfl (kc137_116 hL2.I hL2.R x1 (i2 7469) (tot14 hp0.1 hp0.2) (tot28 fi2_7469.1 fi2_7469.2)) (by decide) ?_
            intro vg17 hg17
            have z18 : vg17.toInt = (((q2 138).getD ((60 * x1) + (i2 7469)).toNatClampNeg 0).toInt32).toInt := hg17
            refine ko_iast3 mi_k174.1 (n := 21) (c := 21) (ax := (0, 0, 0, 0, 0)) (mi_k174.2 _ _ (by rfl)) (by rfl) (ksG142 _ _ _ _) (ksA142 _ _ _ _) (hL2.I.2.1 142) rfl (tot5 fi2_7469.1) (tot60 p2_1) ?_
            intro a19 ea19 fa19
            have hJ19 := kG_a3 hL2 142 rfl ea19 fa19 ⟨(tot34 z14 z16.1 z18), (tot35 fi2_7424.2 z14 z16.2 z18)⟩
            have s20 : ((i2 7469) + 1).toInt = (i2 7469).toInt + (1 : Int32).toInt := kd_add (tot36 fi2_7469.1 ktot1) (tot37 fi2_7469.2 ktot1)
            have hJ21 := kG_i hJ19 7469 rfl (v := ((i2 7469) + 1)) ⟨(tot38 fi2_7469.1 s20 ktot1), (tot61 p2_1 s20 ktot1)⟩
            first | refine fo_goI mi_k174 fz174_61_7_5 [] (ku i2 7469 ((i2 7469) + 1)) (by rfl) ?_ | refine ft_go mi_k174 7 5 [(0, .ref 116), (1, .int x1)] [] (ku i2 7469 ((i2 7469) + 1)) a19 q2 r2 (by rfl) ?_
            have s22 : (60 * x1).toInt = 60 * x1.toInt := kd_cmul 60 ktot60 (tot21 hp0.1) (tot22 hp0.2)
            have s23 : ((60 * x1) + (i2 7469)).toInt = (60 * x1).toInt + (i2 7469).toInt := kd_add (tot42 fi2_7469.1 hp0.1 s22) (tot63 c7 hp0.2 s22 ktot20)
            exact ih2 _ _ _ _ hJ21 (tot38 fi2_7469.1 s20 ktot1) (tot62 c7 s20 ktot20 ktot1) (tot41 c12 s20 u9 ktot1) (kRp_step (y := ((60 * x1) + (i2 7469))) (m := 21) O2_0 (hL2.I.2.1 142) (tot5 fi2_7469.1) (tot64 p2_1) (tot47 s20 ktot1) ea19 (kj_b60y (kj_b60 (tot5 hp0.1)) (tot44 s22 s23)) ((kj_v (tot45 z18)).trans (congrArg (fun z : List Int64 => (z.getD ((60 * x1) + (i2 7469)).toNatClampNeg 0).toInt32) (hL2.fq 138 rfl : q2 138 = q 138))) (tot34 z14 z16.1 z18) (tot48 efi2_7424 z14 z16.2 z18)) (kj_meas (tot49 s20 ktot1) (tot65 c7 ktot20) hm2)
          ·
            subst eg15
            have efi2_7424 : (i2 7424).toInt = (i 7424).toInt := hL2.ti 7424 rfl
            have z24 : ¬ (((0 : Int) ≤ vg13.toInt) ∧ (vg13.toInt < (i2 7424).toInt)) := hg15
            first | refine ft_goS mi_k174 1 74 [] (by rfl) ?_
            have hG25 := kG_call hJ1 hL2 (by decide +kernel)
            have s26 : (60 * x1).toInt = 60 * x1.toInt := kd_cmul 60 ktot60 (tot21 hp0.1) (tot22 hp0.2)
            have s27 : ((60 * x1) + (i2 7469)).toInt = (60 * x1).toInt + (i2 7469).toInt := kd_add (tot42 fi2_7469.1 hp0.1 s26) (tot63 c7 hp0.2 s26 ktot20)
            exact ft_ret mi_k174 (by rfl) (hP  _ _ _ _ hG25 ⟨(tot55 p2_1), (kRd_mk (k := (i2 7469)) O2_0 rfl (tot5 fi2_7469.1) (tot55 p2_1) (tot51 c12 u9) (Or.inr (Or.inr (kRd_bad (y := ((60 * x1) + (i2 7469))) (kj_b60y (kj_b60 (tot5 hp0.1)) (tot44 s26 s27)) (tot5 fi2_7469.1) (congrArg (fun z : List Int64 => (z.getD ((60 * x1) + (i2 7469)).toNatClampNeg 0).toInt32) (hL2.fq 138 rfl : q2 138 = q 138)) (tot52 efi2_7424 z14 z24)))))⟩)
  have r28 : ((0 : Int) ≤ ((a 137).getD x1.toNatClampNeg 0).toInt) ∧ (((a 137).getD x1.toNatClampNeg 0).toInt ≤ 60) := hG.I.2.2.1 137 (x1.toNatClampNeg)
  exact lp2 _ _ _ _ _ (kG_self _ hJ1.I hJ1.R) (tot15 ktot0) (tot53 ktot0) (tot54 r28.1 ktot0) (kRp_0 (Int.le_of_eq ktot0)) (Nat.lt_succ_self _)
noncomputable def ygw171_116 : kW := ([7467], [139, 141], [], [])
noncomputable def ygw171_116_L16 : kW := ([], [141], [], [])
set_option maxRecDepth 100000 in
theorem kg171_116 {i : Nat → Int32} {a : Nat → List Int32} {q : Nat → List Int64} {r : Nat → Nat} (hI : kI i a q) (hr : kr r)  : km 3 171 [.ref 116] (ks i a q r) (kVN ygw171_116 i a q r (fun i1 a1 q1 r1 => (True) ∧ (a1 139 = a 118 ∧ a1 118 = a 118 ∧ i1 7467 = 0 ∧ a1 141 = List.replicate 64 0))) := by
  have hG := kG_self ygw171_116 hI hr
  refine km_ofN (q := (mi_h171, mi_c171)) rfl (by decide) (Nat.le_of_ble_eq_true rfl) ?_
  intro P hP
  refine fo_goL mi_k171 fz171_0_4_6 [(0, .ref 116)] [.int 0, .ref 139, .ref 116] rfl ?_
  refine ko_callN mi_k171.1 (pc := 6) (ls := [(0, .ref 116)]) (st := [.int 0, .ref 139, .ref 116]) (h := ks i a q r) (i := (.invokevirtual 263, 3, 168, 0, 9, 0, 413)) (mi_k171.2 _ _ (by rfl)) (ft_invS mi_pq168 (by rfl)) (cy := mi_c168) mi_pq168 rfl (ke168_116_139 hG.I hG.R 0 (tot78 ktot0)) (by decide) ?_
  intro ig1 ag1 qg1 rg1 kg1 hg1
  have hGg1 := kG_call hG kg1 (by decide +kernel)
  obtain ⟨hg1, og1⟩ := hg1
  have q2 : ag1 139 = a 118 := og1
  have hJ3 := kG_i hGg1 7467 rfl (v := 0) (kd_bd _)
  first | refine fo_go mi_k171 fz171_9_5_16 [(1, .int 0), (0, .ref 116)] [] (ku ig1 7467 0) ag1 qg1 rg1 (by rfl) ?_ | refine ft_goL mi_k171 5 16 [(1, .int 0), (0, .ref 116)] [] (by rfl) ?_ | refine ft_go mi_k171 5 16 [(1, .int 0), (0, .ref 116)] [] (ku ig1 7467 0) ag1 qg1 rg1 (by rfl) ?_
  have lp4 : ∀ (nz : Nat) (i4 : Nat → Int32) (a4 : Nat → List Int32) (q4 : Nat → List Int64) (r4 : Nat → Nat) (l1_4 : Int32), kG ygw171_116_L16 (ku ig1 7467 0) ag1 qg1 rg1 i4 a4 q4 r4 → (0 : Int) ≤ l1_4.toInt → kZr (a4 141) l1_4.toInt → ((64 - l1_4.toInt)).toNat < nz → ko 3 (mi_h171, mi_c171) P (16, [(1, .int l1_4), (0, .ref 116)], [], (0, 0), ks i4 a4 q4 r4) := by
    intro nz
    induction nz with
    | zero =>
      intro _ _ _ _ _ _ _ _ hm
      exact absurd hm (Nat.not_lt_zero _)
    | succ nz ih4 =>
      intro i4 a4 q4 r4 l1_4 hL4 p4_0 O4_0 hm4
      refine ft_goL mi_k171 2 19 [(1, .int l1_4), (0, .ref 116)] [.int 64, .int l1_4] (by rfl) ?_
      refine ft_ifS mi_k171 (decide (64 ≤ l1_4)) 35 22 [] (by rfl) (fun c => ?_) (fun c => ?_)
      ·
        have c5 : (64 : Int32).toInt ≤ l1_4.toInt := kd_le c; clear c
        have hG6 := kG_call hJ3 hL4 (by decide +kernel)
        have qz7 : a4 141 = List.replicate 64 0 := kZr_end O4_0 (hG6.I.2.1 141) (tot79 c5 ktot64)
        exact ft_ret mi_k171 (by rfl) (hP  _ _ _ _ hG6 ⟨trivial, ⟨(show a4 139 = a 118 from (by first | rfl | (simp only [hL4.fa 139 rfl, q2, sMn, sMx]; done) | (simp only [hL4.fa 139 rfl, q2, sMn, sMx]; rfl))), (show a4 118 = a 118 from (by first | rfl | (simp only [hL4.fa 118 rfl, kg1.fa 118 rfl, sMn, sMx]; done) | (simp only [hL4.fa 118 rfl, kg1.fa 118 rfl, sMn, sMx]; rfl))), (show i4 7467 = 0 from (by first | rfl | (simp only [(show i4 7467 = (0 : Int32) from hL4.fi 7467 rfl), sMn, sMx]; done) | (simp only [(show i4 7467 = (0 : Int32) from hL4.fi 7467 rfl), sMn, sMx]; rfl))), (show a4 141 = List.replicate 64 0 from (by first | rfl | (simp only [qz7, sMn, sMx]; done) | (simp only [qz7, sMn, sMx]; rfl)))⟩⟩)
      ·
        have c8 : l1_4.toInt < (64 : Int32).toInt := kd_leF c; clear c
        refine fo_goS mi_k171 fz171_22_4_28 [.int 0, .int l1_4, .ref 141] rfl ?_
        refine ko_iast3 mi_k171.1 (n := 64) (c := 64) (ax := (0, 0, 0, 0, 0)) (mi_k171.2 _ _ (by rfl)) (by rfl) (ksG141 _ _ _ _) (ksA141 _ _ _ _) (hL4.I.2.1 141) rfl (tot5 p4_0) (tot80 c8 ktot64) ?_
        intro a9 ea9 fa9
        have hJ9 := kG_a3 hL4 141 rfl ea9 fa9 (kd_bd _)
        have s10 : (l1_4 + 1).toInt = l1_4.toInt + (1 : Int32).toInt := kd_add (tot36 p4_0 ktot1) (tot81 c8 ktot64 ktot1)
        first | refine ft_goL mi_k171 2 16 [(1, .int (l1_4 + 1)), (0, .ref 116)] [] (by rfl) ?_
        exact ih4 _ _ _ _ _ hJ9 (tot38 p4_0 s10 ktot1) (kZr_step O4_0 (hL4.I.2.1 141) (tot5 p4_0) (tot82 c8 ktot64) (tot47 s10 ktot1) ea9) (kj_meas (tot83 s10 ktot1) (tot84 c8 ktot64) hm4)
  exact lp4 _ _ _ _ _ _ (kG_self _ hJ3.I hJ3.R) (tot15 ktot0) (kZr_zero ktot0) (Nat.lt_succ_self _)
noncomputable def ygw170_116 : kW := ([7464, 7465, 7466, 7467], [118, 128, 129, 141, 143, 144, 145], [], [])
noncomputable def ygw170_116_L2 : kW := ([7464, 7465, 7466, 7467], [118, 128, 129, 141, 143, 144, 145], [], [])
set_option maxRecDepth 100000 in
theorem kg170_116 {i : Nat → Int32} {a : Nat → List Int32} {q : Nat → List Int64} {r : Nat → Nat} (hI : kI i a q) (hr : kr r) (hE_code : kCode i a) : km 11 170 [.ref 116] (ks i a q r) (kVN ygw170_116 i a q r (fun i1 a1 q1 r1 => (True) ∧ (gT i1 a1 = gAt (gKn i a) (a 142) (gT i a) (i 7469).toInt.toNat ∧ gOp (gKn i a) (a 142) (gT i a) (i 7469).toInt (a1 143) (a1 144) (a1 145)))) := by
  have hG := kG_self ygw170_116 hI hr
  refine km_ofN (q := (mi_h170, mi_c170)) rfl (by decide) (Nat.le_of_ble_eq_true rfl) ?_
  intro P hP
  first | refine fo_goL mi_k170 fz170_0_2_2 [(1, .int 0), (0, .ref 116)] [] (by rfl) ?_ | refine fo_goL mi_k170 fz170_51_2_2 [(1, .int 0), (0, .ref 116)] [] (by rfl) ?_
  have lp1 : ∀ (nz : Nat) (i1 : Nat → Int32) (a1 : Nat → List Int32) (q1 : Nat → List Int64) (r1 : Nat → Nat) (l1_1 : Int32), kG ygw170_116_L2 i a q r i1 a1 q1 r1 → (0 : Int) ≤ l1_1.toInt → l1_1.toInt ≤ (i 7469).toInt → (i1 7469).toInt = (i 7469).toInt → gT i1 a1 = gAt (gKn i a) (a 142) (gT i a) l1_1.toInt.toNat → gOp (gKn i a) (a 142) (gT i a) l1_1.toInt (a1 143) (a1 144) (a1 145) → (((i1 7469).toInt - l1_1.toInt)).toNat < nz → ko 11 (mi_h170, mi_c170) P (2, [(1, .int l1_1), (0, .ref 116)], [], (0, 0), ks i1 a1 q1 r1) := by
    intro nz
    induction nz with
    | zero =>
      intro _ _ _ _ _ _ _ _ _ _ _ hm
      exact absurd hm (Nat.not_lt_zero _)
    | succ nz ih1 =>
      intro i1 a1 q1 r1 l1_1 hL1 p1_0 p1_1 p1_2 O1_0 O1_1 hm1
      have fi_7469 : ((0 : Int) ≤ (i 7469).toInt) ∧ ((i 7469).toInt ≤ 21) := hG.I.1 7469
      have efi1_7469 : (i1 7469).toInt = (i 7469).toInt := hL1.ti 7469 rfl
      refine fo_goL mi_k170 fz170_2_3_7 [(1, .int l1_1), (0, .ref 116)] [.int (i1 7469), .int l1_1] rfl ?_
      refine ft_ifS mi_k170 (decide ((i1 7469) ≤ l1_1)) 57 10 [] (by rfl) (fun c => ?_) (fun c => ?_)
      ·
        have c2 : (i1 7469).toInt ≤ l1_1.toInt := kd_le c; clear c
        have hG3 := kG_call hG hL1 (by decide +kernel)
        exact ft_ret mi_k170 (by rfl) (hP  _ _ _ _ hG3 ⟨trivial, ⟨gT_c O1_0 (gAt_len (tot85 c2 efi1_7469 p1_1)), gOp_len O1_1 (tot85 c2 efi1_7469 p1_1)⟩⟩)
      ·
        have c4 : l1_1.toInt < (i1 7469).toInt := kd_leF c; clear c
        refine fo_goS mi_k170 fz170_10_4_16 [.int l1_1, .ref 142, .ref 116] rfl ?_
        refine ko_iald3 mi_k170.1 (n := 21) (c := 21) (ax := (0, 0, 0, 0, 0)) (mi_k170.2 _ _ (by rfl)) (by rfl) (ksG142 _ _ _ _) (hL1.I.2.1 142) rfl (tot5 p1_0) (tot86 c4 efi1_7469 fi_7469.2) ?_
        have r5 : ((0 : Int) ≤ ((a1 142).getD l1_1.toNatClampNeg 0).toInt) ∧ (((a1 142).getD l1_1.toNatClampNeg 0).toInt ≤ 7) := hL1.I.2.2.1 142 (l1_1.toNatClampNeg)
        have hG6 := kG_call hG hL1 (by decide +kernel)
        refine ko_callI mi_k170.1 (pc := 17) (ls := [(1, .int l1_1), (0, .ref 116)]) (st := [.int ((a1 142).getD l1_1.toNatClampNeg 0), .ref 116]) (h := ks i1 a1 q1 r1) (i := (.invokevirtual 260, 3, 166, 0, 9, 0, 415)) (mi_k170.2 _ _ (by rfl)) (ft_invS mi_pq166 (by rfl)) (cy := mi_c166) mi_pq166 rfl (kg166_116 hL1.I hL1.R ((a1 142).getD l1_1.toNatClampNeg 0) (tot87 r5.1 r5.2) (kCode_of (i1 := i1) hE_code (hG6.fi 7432 rfl) (hG6.fa 120 rfl) (hG6.fa 121 rfl) (hG6.fa 122 rfl) (hG6.fa 123 rfl))) (by decide) ?_
        intro vg7 ig7 ag7 qg7 rg7 kg7 hg7
        have hGg7 := kG_call hL1 kg7 (by decide +kernel)
        obtain ⟨hg7, og7⟩ := hg7
        have oG8 := og7
        have hG9 := kG_call hG hL1 (by decide +kernel)
        rw [(gKn_fr hG9 (by decide +kernel) : gKn i1 a1 = gKn i a), (O1_0 : gT i1 a1 = gAt (gKn i a) (a 142) (gT i a) l1_1.toInt.toNat)] at oG8
        have tG10 : gT ig7 ag7 = gIn (gKn i a) ((a1 142).getD l1_1.toNatClampNeg 0) (gAt (gKn i a) (a 142) (gT i a) l1_1.toInt.toNat) := oG8
        refine fo_goS mi_k170 fz170_20_6_30 [.int (ig7 7464), .int l1_1, .ref 143] rfl ?_
        refine ko_iast3 mi_k170.1 (n := 21) (c := 21) (ax := (0, 0, 0, 0, 0)) (mi_k170.2 _ _ (by rfl)) (by rfl) (ksG143 _ _ _ _) (ksA143 _ _ _ _) (hGg7.I.2.1 143) rfl (tot5 p1_0) (tot86 c4 efi1_7469 fi_7469.2) ?_
        intro a11 ea11 fa11
        have hJ11 := kG_a3 hGg7 143 rfl ea11 fa11 (kd_bd _)
        refine fo_goS mi_k170 fz170_31_5_40 [.int (ig7 7465), .int l1_1, .ref 144] rfl ?_
        refine ko_iast3 mi_k170.1 (n := 21) (c := 21) (ax := (0, 0, 0, 0, 0)) (mi_k170.2 _ _ (by rfl)) (by rfl) (ksG144 _ _ _ _) (ksA144 _ _ _ _) (hJ11.I.2.1 144) rfl (tot5 p1_0) (tot86 c4 efi1_7469 fi_7469.2) ?_
        intro a12 ea12 fa12
        have hJ12 := kG_a3 hJ11 144 rfl ea12 fa12 (kd_bd _)
        refine fo_goS mi_k170 fz170_41_5_50 [.int (ig7 7466), .int l1_1, .ref 145] rfl ?_
        refine ko_iast3 mi_k170.1 (n := 21) (c := 21) (ax := (0, 0, 0, 0, 0)) (mi_k170.2 _ _ (by rfl)) (by rfl) (ksG145 _ _ _ _) (ksA145 _ _ _ _) (hJ12.I.2.1 145) rfl (tot5 p1_0) (tot86 c4 efi1_7469 fi_7469.2) ?_
        intro a13 ea13 fa13
        have hJ13 := kG_a3 hJ12 145 rfl ea13 fa13 (kd_bd _)
        have s14 : (l1_1 + 1).toInt = l1_1.toInt + (1 : Int32).toInt := kd_add (tot36 p1_0 ktot1) (tot88 c4 efi1_7469 fi_7469.2 ktot1)
        first | refine fo_goL mi_k170 fz170_0_2_2 [(1, .int (l1_1 + 1)), (0, .ref 116)] [] (by rfl) ?_ | refine fo_goL mi_k170 fz170_51_2_2 [(1, .int (l1_1 + 1)), (0, .ref 116)] [] (by rfl) ?_
        have efig7_7469 : (ig7 7469).toInt = (i1 7469).toInt := kg7.ti 7469 rfl
        exact ih1 _ _ _ _ _ hJ13 (tot38 p1_0 s14 ktot1) (tot89 c4 efi1_7469 s14 ktot1) (tot90 efi1_7469 efig7_7469) (gT_c (gT_st fa13 (by decide) (by decide) (gT_st fa12 (by decide) (by decide) (gT_st fa11 (by decide) (by decide) tG10))) (gAt_next (i1 := i) rfl (congrArg (fun z : List Int32 => z.getD l1_1.toNatClampNeg 0) ((hL1.fa 142 rfl) : a1 142 = a 142)) (tot5 p1_0) (tot47 s14 ktot1) rfl).symm) (gOp_step (n := 21) O1_1 (hL1.I.2.1 143) (hL1.I.2.1 144) (hL1.I.2.1 145) (tot5 p1_0) (tot91 c4 efi1_7469 fi_7469.2) (tot47 s14 ktot1) (gAt_next (i1 := i) rfl (congrArg (fun z : List Int32 => z.getD l1_1.toNatClampNeg 0) ((hL1.fa 142 rfl) : a1 142 = a 142)) (tot5 p1_0) (tot47 s14 ktot1) rfl) (show a13 143 = (a1 143).set l1_1.toNatClampNeg (ig7 7464) from (by first | rfl | (simp only [fa13 143 (by decide), fa12 143 (by decide), ea11, kg7.fa 143 rfl, sMn, sMx]; done) | (simp only [fa13 143 (by decide), fa12 143 (by decide), ea11, kg7.fa 143 rfl, sMn, sMx]; rfl))) (show a13 144 = (a1 144).set l1_1.toNatClampNeg (ig7 7465) from (by first | rfl | (simp only [fa13 144 (by decide), ea12, fa11 144 (by decide), kg7.fa 144 rfl, sMn, sMx]; done) | (simp only [fa13 144 (by decide), ea12, fa11 144 (by decide), kg7.fa 144 rfl, sMn, sMx]; rfl))) (show a13 145 = (a1 145).set l1_1.toNatClampNeg (ig7 7466) from (by first | rfl | (simp only [ea13, fa12 145 (by decide), fa11 145 (by decide), kg7.fa 145 rfl, sMn, sMx]; done) | (simp only [ea13, fa12 145 (by decide), fa11 145 (by decide), kg7.fa 145 rfl, sMn, sMx]; rfl))) (gT_out tG10).1 (gT_out tG10).2.1 (gT_out tG10).2.2) (kj_meas (tot92 efig7_7469 s14 ktot1) (tot93 c4) hm1)
  have fi_7469 : ((0 : Int) ≤ (i 7469).toInt) ∧ ((i 7469).toInt ≤ 21) := hG.I.1 7469
  exact lp1 _ _ _ _ _ _ (kG_self _ hG.I hG.R) (tot15 ktot0) (tot54 fi_7469.1 ktot0) tot27 (gT_c rfl (gAt_k0 ktot0)) (gOp_0 ktot0) (Nat.lt_succ_self _)
noncomputable def yzw175_116 : kW := ([7464, 7465, 7466, 7467, 7469], [118, 128, 129, 139, 141, 142, 143, 144, 145], [], [])
set_option maxRecDepth 100000 in
theorem kz175_116 {i : Nat → Int32} {a : Nat → List Int32} {q : Nat → List Int64} {r : Nat → Nat} (hI : kI i a q) (hr : kr r) (x1 : Int32) (x2 : Int32) (x3 : Int32) (hE_code : kCode i a) : km 13 175 [.ref 116, .int x1, .int x2, .int x3] (ks i a q r) (kVI yzw175_116 i a q r (fun v i1 a1 q1 r1 => (True) ∧ (a1 118 = a 118 ∧ rTop (((0 : Int) ≤ x3.toInt) ∧ (x3.toInt ≤ 3) ∧ (((x3.toInt = 3) → (((0 : Int) ≤ x2.toInt) ∧ (x2.toInt < (i 7424).toInt)))) ∧ (((x3.toInt ≠ 3) → (x2.toInt = 0)))) i a q x1 v (fun n L => fMk (gKn i a) (gR i a) x2 x3 v n L)))) := by
  have hG := kG_self yzw175_116 hI hr
  refine km_ofI (q := (mi_h175, mi_c175)) rfl (by decide) (Nat.le_of_ble_eq_true rfl) ?_
  intro P hP
  refine ft_goL mi_k175 1 1 [(0, .ref 116), (1, .int x1), (2, .int x2), (3, .int x3)] [.int x1] (by rfl) ?_
  refine ko_callPI mi_k175.1 (pc := 1) (ls := [(0, .ref 116), (1, .int x1), (2, .int x2), (3, .int x3)]) (st := [.int x1]) (h := ks i a q r) (i := (.invokestatic 127, 3, 133, 0, 9, 0, 382)) (mi_k175.2 _ _ (by rfl)) (ft_invS mi_pq133 (by rfl)) (cy := mi_c133) mi_pq133 rfl (kc133 hG.I hG.R x1) (by decide) ?_
  intro vg1 hg1
  rcases hg1 with ⟨eg1, hg1⟩ | ⟨eg1, hg1⟩
  ·
    subst eg1
    have z2 : ((0 : Int) ≤ x1.toInt) ∧ (x1.toInt ≤ 5) := hg1
    refine ft_goS mi_k175 4 10 [.int 3, .int 0, .int x3] (by rfl) ?_
    refine ko_callPI mi_k175.1 (pc := 10) (ls := [(0, .ref 116), (1, .int x1), (2, .int x2), (3, .int x3)]) (st := [.int 3, .int 0, .int x3]) (h := ks i a q r) (i := (.invokestatic 119, 3, 131, 0, 9, 0, 379)) (mi_k175.2 _ _ (by rfl)) (ft_invS mi_pq131 (by rfl)) (cy := mi_c131) mi_pq131 rfl (kc131 hG.I hG.R x3 0 3) (by decide) ?_
    intro vg3 hg3
    rcases hg3 with ⟨eg3, hg3⟩ | ⟨eg3, hg3⟩
    ·
      subst eg3
      have z4 : ((0 : Int32).toInt ≤ x3.toInt) ∧ (x3.toInt ≤ (3 : Int32).toInt) := hg3
      refine ft_goS mi_k175 3 18 [.int 3, .int x3] (by rfl) ?_
      refine ft_ifS mi_k175 (x3 != 3) 32 21 [] (by rfl) (fun c => ?_) (fun c => ?_)
      ·
        have c5 : x3.toInt ≠ (3 : Int32).toInt := kd_ne c; clear c
        refine ft_goS mi_k175 1 33 [.int x2] (by rfl) ?_
        refine ft_ifS mi_k175 (x2 == 0) 38 36 [] (by rfl) (fun c => ?_) (fun c => ?_)
        ·
          have c6 : x2.toInt = (0 : Int32).toInt := kd_eq c; clear c
          refine ft_goS mi_k175 2 40 [.int x1, .ref 116] (by rfl) ?_
          refine ko_callPI mi_k175.1 (pc := 40) (ls := [(0, .ref 116), (1, .int x1), (2, .int x2), (3, .int x3)]) (st := [.int x1, .ref 116]) (h := ks i a q r) (i := (.invokevirtual 276, 3, 173, 0, 9, 0, 410)) (mi_k175.2 _ _ (by rfl)) (ft_invS mi_pq173 (by rfl)) (cy := mi_c173) mi_pq173 rfl (kg173_116 hG.I hG.R x1 (tot14 z2.1 z2.2)) (by decide) ?_
          intro vg7 hg7
          obtain ⟨hg7, og7⟩ := hg7
          refine ft_goL mi_k175 2 47 [(4, .int vg7), (0, .ref 116), (1, .int x1), (2, .int x2), (3, .int x3)] [.int vg7] (by rfl) ?_
          refine ft_ifS mi_k175 (decide (0 ≤ vg7)) 53 50 [] (by rfl) (fun c => ?_) (fun c => ?_)
          ·
            have c9 : (0 : Int32).toInt ≤ vg7.toInt := kd_le c; clear c
            refine ft_goS mi_k175 2 55 [.int x1, .ref 116] (by rfl) ?_
            refine ko_callN mi_k175.1 (pc := 55) (ls := [(4, .int vg7), (0, .ref 116), (1, .int x1), (2, .int x2), (3, .int x3)]) (st := [.int x1, .ref 116]) (h := ks i a q r) (i := (.invokevirtual 279, 3, 174, 0, 9, 0, 411)) (mi_k175.2 _ _ (by rfl)) (ft_invS mi_pq174 (by rfl)) (cy := mi_c174) mi_pq174 rfl (kg174_116 hG.I hG.R x1 (tot14 z2.1 z2.2)) (by decide) ?_
            intro ig10 ag10 qg10 rg10 kg10 hg10
            have hGg10 := kG_call hG kg10 (by decide +kernel)
            obtain ⟨hg10, og10⟩ := hg10
            refine ft_goS mi_k175 1 59 [.ref 116] (by rfl) ?_
            refine ko_callN mi_k175.1 (pc := 59) (ls := [(4, .int vg7), (0, .ref 116), (1, .int x1), (2, .int x2), (3, .int x3)]) (st := [.ref 116]) (h := ks ig10 ag10 qg10 rg10) (i := (.invokevirtual 267, 3, 171, 0, 9, 0, 412)) (mi_k175.2 _ _ (by rfl)) (ft_invS mi_pq171 (by rfl)) (cy := mi_c171) mi_pq171 rfl (kg171_116 hGg10.I hGg10.R ) (by decide) ?_
            intro ig12 ag12 qg12 rg12 kg12 hg12
            have hGg12 := kG_call hGg10 kg12 (by decide +kernel)
            obtain ⟨hg12, og12⟩ := hg12
            have tG13 : gT ig12 ag12 = gR i a := (gT_R (og12.2.1.trans (kg10.fa 118 rfl)) ((kg12.fi 7464 rfl).trans (kg10.fi 7464 rfl)) ((kg12.fi 7465 rfl).trans (kg10.fi 7465 rfl)) ((kg12.fi 7466 rfl).trans (kg10.fi 7466 rfl)) og12.2.2.1 og12.2.2.2)
            have q14 : ag12 139 = ag10 118 := og12.1
            have q15 : ag12 118 = ag10 118 := og12.2.1
            have q16 : ig12 7467 = 0 := og12.2.2.1
            have q17 : ag12 141 = List.replicate 64 0 := og12.2.2.2
            refine ft_goS mi_k175 1 63 [.ref 116] (by rfl) ?_
            refine ko_callN mi_k175.1 (pc := 63) (ls := [(4, .int vg7), (0, .ref 116), (1, .int x1), (2, .int x2), (3, .int x3)]) (st := [.ref 116]) (h := ks ig12 ag12 qg12 rg12) (i := (.invokevirtual 270, 3, 170, 0, 9, 0, 414)) (mi_k175.2 _ _ (by rfl)) (ft_invS mi_pq170 (by rfl)) (cy := mi_c170) mi_pq170 rfl (kg170_116 hGg12.I hGg12.R (kCode_of (i1 := ig12) hE_code (hGg12.fi 7432 rfl) (hGg12.fa 120 rfl) (hGg12.fa 121 rfl) (hGg12.fa 122 rfl) (hGg12.fa 123 rfl))) (by decide) ?_
            intro ig18 ag18 qg18 rg18 kg18 hg18
            have hGg18 := kG_call hGg12 kg18 (by decide +kernel)
            obtain ⟨hg18, og18⟩ := hg18
            have oG19 := og18
            rw [(gKn_fr hGg12 (by decide +kernel) : gKn ig12 ag12 = gKn i a), (tG13 : gT ig12 ag12 = gR i a)] at oG19
            rw [((kg12.fa 142 rfl) : ag12 142 = ag10 142), ((kg12.fi 7469 rfl) : ig12 7469 = ig10 7469)] at oG19
            have tG20 : gT ig18 ag18 = gAt (gKn i a) (ag10 142) (gR i a) (ig10 7469).toInt.toNat := oG19.1
            refine ft_goS mi_k175 1 67 [.int x3] (by rfl) ?_
            refine ft_ifS mi_k175 (x3 != 0) 77 70 [] (by rfl) (fun c => ?_) (fun c => ?_)
            ·
              have c21 : x3.toInt ≠ (0 : Int32).toInt := kd_ne c; clear c
              refine ft_goS mi_k175 2 79 [.int 1, .int x3] (by rfl) ?_
              refine ft_ifS mi_k175 (x3 != 1) 89 82 [] (by rfl) (fun c => ?_) (fun c => ?_)
              ·
                have c22 : x3.toInt ≠ (1 : Int32).toInt := kd_ne c; clear c
                refine ft_goS mi_k175 2 91 [.int 2, .int x3] (by rfl) ?_
                refine ft_ifS mi_k175 (x3 != 2) 104 94 [] (by rfl) (fun c => ?_) (fun c => ?_)
                ·
                  have c23 : x3.toInt ≠ (2 : Int32).toInt := kd_ne c; clear c
                  exact (tot94 c21 c22 c23 c5 z4.1 z4.2 ktot0 ktot1 ktot2 ktot3).elim
                ·
                  have c24 : x3.toInt = (2 : Int32).toInt := kd_neF c; clear c
                  refine ft_goS mi_k175 3 100 [.int 18, .ref 118] (by rfl) ?_
                  refine ko_iald3 mi_k175.1 (n := 31) (c := 31) (ax := (0, 0, 0, 0, 0)) (mi_k175.2 _ _ (by rfl)) (by rfl) (ksG118 _ _ _ _) (hGg18.I.2.1 118) rfl (tot95 ktot18) (tot96 ktot18) ?_
                  have r25 : ((0 : Int) ≤ ((ag18 118).getD (18 : Int32).toNatClampNeg 0).toInt) ∧ (((ag18 118).getD (18 : Int32).toNatClampNeg 0).toInt ≤ 5) := kE_n18 (p := 118) hGg18.I (by decide)
                  first | refine fo_goL mi_k175 fz175_74_6_118 [(5, .int ((ag18 118).getD (18 : Int32).toNatClampNeg 0)), (4, .int vg7), (0, .ref 116), (1, .int x1), (2, .int x2), (3, .int x3)] [.int 0, .ref 139, .ref 116] (by rfl) ?_ | refine fo_goL mi_k175 fz175_86_6_118 [(5, .int ((ag18 118).getD (18 : Int32).toNatClampNeg 0)), (4, .int vg7), (0, .ref 116), (1, .int x1), (2, .int x2), (3, .int x3)] [.int 0, .ref 139, .ref 116] (by rfl) ?_ | refine fo_goL mi_k175 fz175_101_6_118 [(5, .int ((ag18 118).getD (18 : Int32).toNatClampNeg 0)), (4, .int vg7), (0, .ref 116), (1, .int x1), (2, .int x2), (3, .int x3)] [.int 0, .ref 139, .ref 116] (by rfl) ?_ | refine ft_goL mi_k175 6 118 [(5, .int ((ag18 118).getD (18 : Int32).toNatClampNeg 0)), (4, .int vg7), (0, .ref 116), (1, .int x1), (2, .int x2), (3, .int x3)] [.int 0, .ref 139, .ref 116] (by rfl) ?_
                  refine ko_callN mi_k175.1 (pc := 118) (ls := [(5, .int ((ag18 118).getD (18 : Int32).toNatClampNeg 0)), (4, .int vg7), (0, .ref 116), (1, .int x1), (2, .int x2), (3, .int x3)]) (st := [.int 0, .ref 139, .ref 116]) (h := ks ig18 ag18 qg18 rg18) (i := (.invokevirtual 273, 3, 169, 0, 9, 0, 423)) (mi_k175.2 _ _ (by rfl)) (ft_invS mi_pq169 (by rfl)) (cy := mi_c169) mi_pq169 rfl (ke169_116_139 hGg18.I hGg18.R 0 (tot78 ktot0)) (by decide) ?_
                  intro ig26 ag26 qg26 rg26 kg26 hg26
                  have hGg26 := kG_call hGg18 kg26 (by decide +kernel)
                  obtain ⟨hg26, og26⟩ := hg26
                  have q27 : ag26 118 = ag18 139 := og26
                  refine ft_goS mi_k175 1 123 [.int ((ag18 118).getD (18 : Int32).toNatClampNeg 0)] (by rfl) ?_
                  exact ft_ret mi_k175 (by rfl) (hP ((ag18 118).getD (18 : Int32).toNatClampNeg 0) _ _ _ _ hGg26 ⟨trivial, ⟨(show ag26 118 = a 118 from (by first | rfl | (simp only [q27, kg18.fa 139 rfl, q14, kg10.fa 118 rfl, sMn, sMx]; done) | (simp only [q27, kg18.fa 139 rfl, q14, kg10.fa 118 rfl, sMn, sMx]; rfl))), (rTop_go (rok (tot99 c24 c6 z2.1 z2.2 z4.2 ktot2 ktot0 ktot3)) og7 (tot100 c9 ktot0) og10 ⟨fun h => absurd h (tot101 c24 ktot2), fun h => absurd h (tot102 c24 ktot2), fun _ => gT_18 tG20, fun h => absurd h (tot104 c24 ktot2)⟩)⟩⟩)
              ·
                have c28 : x3.toInt = (1 : Int32).toInt := kd_neF c; clear c
                first | refine fo_goL mi_k175 fz175_70_8_118 [(5, .int (ig18 7467)), (4, .int vg7), (0, .ref 116), (1, .int x1), (2, .int x2), (3, .int x3)] [.int 0, .ref 139, .ref 116] (by rfl) ?_ | refine fo_goL mi_k175 fz175_82_8_118 [(5, .int (ig18 7467)), (4, .int vg7), (0, .ref 116), (1, .int x1), (2, .int x2), (3, .int x3)] [.int 0, .ref 139, .ref 116] (by rfl) ?_ | refine ft_goL mi_k175 8 118 [(5, .int (ig18 7467)), (4, .int vg7), (0, .ref 116), (1, .int x1), (2, .int x2), (3, .int x3)] [.int 0, .ref 139, .ref 116] (by rfl) ?_
                refine ko_callN mi_k175.1 (pc := 118) (ls := [(5, .int (ig18 7467)), (4, .int vg7), (0, .ref 116), (1, .int x1), (2, .int x2), (3, .int x3)]) (st := [.int 0, .ref 139, .ref 116]) (h := ks ig18 ag18 qg18 rg18) (i := (.invokevirtual 273, 3, 169, 0, 9, 0, 423)) (mi_k175.2 _ _ (by rfl)) (ft_invS mi_pq169 (by rfl)) (cy := mi_c169) mi_pq169 rfl (ke169_116_139 hGg18.I hGg18.R 0 (tot78 ktot0)) (by decide) ?_
                intro ig29 ag29 qg29 rg29 kg29 hg29
                have hGg29 := kG_call hGg18 kg29 (by decide +kernel)
                obtain ⟨hg29, og29⟩ := hg29
                have q30 : ag29 118 = ag18 139 := og29
                refine ft_goS mi_k175 1 123 [.int (ig18 7467)] (by rfl) ?_
                exact ft_ret mi_k175 (by rfl) (hP (ig18 7467) _ _ _ _ hGg29 ⟨trivial, ⟨(show ag29 118 = a 118 from (by first | rfl | (simp only [q30, kg18.fa 139 rfl, q14, kg10.fa 118 rfl, sMn, sMx]; done) | (simp only [q30, kg18.fa 139 rfl, q14, kg10.fa 118 rfl, sMn, sMx]; rfl))), (rTop_go (rok (tot105 c28 c6 z2.1 z2.2 z4.2 ktot1 ktot0 ktot3)) og7 (tot100 c9 ktot0) og10 ⟨fun h => absurd h (tot106 c28 ktot1), fun _ => gT_la tG20, fun h => absurd h (tot108 c28 ktot1), fun h => absurd h (tot109 c28 ktot1)⟩)⟩⟩)
            ·
              have c31 : x3.toInt = (0 : Int32).toInt := kd_neF c; clear c
              have efig12_7469 : (ig12 7469).toInt = (ig10 7469).toInt := kg12.ti 7469 rfl
              have efig18_7469 : (ig18 7469).toInt = (ig12 7469).toInt := kg18.ti 7469 rfl
              first | refine fo_goL mi_k175 fz175_70_8_118 [(5, .int (ig18 7469)), (4, .int vg7), (0, .ref 116), (1, .int x1), (2, .int x2), (3, .int x3)] [.int 0, .ref 139, .ref 116] (by rfl) ?_ | refine fo_goL mi_k175 fz175_82_8_118 [(5, .int (ig18 7469)), (4, .int vg7), (0, .ref 116), (1, .int x1), (2, .int x2), (3, .int x3)] [.int 0, .ref 139, .ref 116] (by rfl) ?_ | refine ft_goL mi_k175 8 118 [(5, .int (ig18 7469)), (4, .int vg7), (0, .ref 116), (1, .int x1), (2, .int x2), (3, .int x3)] [.int 0, .ref 139, .ref 116] (by rfl) ?_
              refine ko_callN mi_k175.1 (pc := 118) (ls := [(5, .int (ig18 7469)), (4, .int vg7), (0, .ref 116), (1, .int x1), (2, .int x2), (3, .int x3)]) (st := [.int 0, .ref 139, .ref 116]) (h := ks ig18 ag18 qg18 rg18) (i := (.invokevirtual 273, 3, 169, 0, 9, 0, 423)) (mi_k175.2 _ _ (by rfl)) (ft_invS mi_pq169 (by rfl)) (cy := mi_c169) mi_pq169 rfl (ke169_116_139 hGg18.I hGg18.R 0 (tot78 ktot0)) (by decide) ?_
              intro ig32 ag32 qg32 rg32 kg32 hg32
              have hGg32 := kG_call hGg18 kg32 (by decide +kernel)
              obtain ⟨hg32, og32⟩ := hg32
              have q33 : ag32 118 = ag18 139 := og32
              refine ft_goS mi_k175 1 123 [.int (ig18 7469)] (by rfl) ?_
              exact ft_ret mi_k175 (by rfl) (hP (ig18 7469) _ _ _ _ hGg32 ⟨trivial, ⟨(show ag32 118 = a 118 from (by first | rfl | (simp only [q33, kg18.fa 139 rfl, q14, kg10.fa 118 rfl, sMn, sMx]; done) | (simp only [q33, kg18.fa 139 rfl, q14, kg10.fa 118 rfl, sMn, sMx]; rfl))), (rTop_go (rok (tot110 c31 c6 z2.1 z2.2 z4.1 z4.2 ktot0 ktot3)) og7 (tot100 c9 ktot0) og10 ⟨fun _ => (tot90 efig12_7469 efig18_7469), fun h => absurd h (tot112 c31 ktot0), fun h => absurd h (tot113 c31 ktot0), fun h => absurd h (tot114 c31 ktot0)⟩)⟩⟩)
          ·
            have c34 : vg7.toInt < (0 : Int32).toInt := kd_leF c; clear c
            refine ft_goS mi_k175 1 52 [.int vg7] (by rfl) ?_
            exact ft_ret mi_k175 (by rfl) (hP vg7 _ _ _ _ hG ⟨trivial, ⟨(show a 118 = a 118 from rfl), (rTop_bar (rok (tot115 c5 c6 z2.1 z2.2 z4.1 z4.2 ktot3 ktot0)) og7 (tot116 c34 ktot0))⟩⟩)
        ·
          have c35 : x2.toInt ≠ (0 : Int32).toInt := kd_eqF c; clear c
          refine ft_goS mi_k175 1 37 [.int (-1)] (by rfl) ?_
          exact ft_ret mi_k175 (by rfl) (hP (-1) _ _ _ _ hG ⟨trivial, ⟨(show a 118 = a 118 from rfl), (Or.inl ⟨(tot117 c35 c5 z4.2 ktot0 ktot3), rfl⟩)⟩⟩)
      ·
        have c36 : x3.toInt = (3 : Int32).toInt := kd_neF c; clear c
        refine ft_goS mi_k175 2 23 [.int x2, .ref 116] (by rfl) ?_
        refine ko_callPI mi_k175.1 (pc := 23) (ls := [(0, .ref 116), (1, .int x1), (2, .int x2), (3, .int x3)]) (st := [.int x2, .ref 116]) (h := ks i a q r) (i := (.invokevirtual 137, 3, 132, 0, 9, 0, 387)) (mi_k175.2 _ _ (by rfl)) (ft_invS mi_pq132 (by rfl)) (cy := mi_c132) mi_pq132 rfl (kc132_116 hG.I hG.R x2) (by decide) ?_
        intro vg37 hg37
        rcases hg37 with ⟨eg37, hg37⟩ | ⟨eg37, hg37⟩
        ·
          subst eg37
          have fi_7424 : ((0 : Int) ≤ (i 7424).toInt) ∧ ((i 7424).toInt ≤ 8) := hG.I.1 7424
          have z38 : ((0 : Int) ≤ x2.toInt) ∧ (x2.toInt < (i 7424).toInt) := hg37
          first | refine ft_goS mi_k175 4 40 [.int x1, .ref 116] (by rfl) ?_
          refine ko_callPI mi_k175.1 (pc := 40) (ls := [(0, .ref 116), (1, .int x1), (2, .int x2), (3, .int x3)]) (st := [.int x1, .ref 116]) (h := ks i a q r) (i := (.invokevirtual 276, 3, 173, 0, 9, 0, 410)) (mi_k175.2 _ _ (by rfl)) (ft_invS mi_pq173 (by rfl)) (cy := mi_c173) mi_pq173 rfl (kg173_116 hG.I hG.R x1 (tot14 z2.1 z2.2)) (by decide) ?_
          intro vg39 hg39
          obtain ⟨hg39, og39⟩ := hg39
          refine ft_goL mi_k175 2 47 [(4, .int vg39), (0, .ref 116), (1, .int x1), (2, .int x2), (3, .int x3)] [.int vg39] (by rfl) ?_
          refine ft_ifS mi_k175 (decide (0 ≤ vg39)) 53 50 [] (by rfl) (fun c => ?_) (fun c => ?_)
          ·
            have c41 : (0 : Int32).toInt ≤ vg39.toInt := kd_le c; clear c
            refine ft_goS mi_k175 2 55 [.int x1, .ref 116] (by rfl) ?_
            refine ko_callN mi_k175.1 (pc := 55) (ls := [(4, .int vg39), (0, .ref 116), (1, .int x1), (2, .int x2), (3, .int x3)]) (st := [.int x1, .ref 116]) (h := ks i a q r) (i := (.invokevirtual 279, 3, 174, 0, 9, 0, 411)) (mi_k175.2 _ _ (by rfl)) (ft_invS mi_pq174 (by rfl)) (cy := mi_c174) mi_pq174 rfl (kg174_116 hG.I hG.R x1 (tot14 z2.1 z2.2)) (by decide) ?_
            intro ig42 ag42 qg42 rg42 kg42 hg42
            have hGg42 := kG_call hG kg42 (by decide +kernel)
            obtain ⟨hg42, og42⟩ := hg42
            refine ft_goS mi_k175 1 59 [.ref 116] (by rfl) ?_
            refine ko_callN mi_k175.1 (pc := 59) (ls := [(4, .int vg39), (0, .ref 116), (1, .int x1), (2, .int x2), (3, .int x3)]) (st := [.ref 116]) (h := ks ig42 ag42 qg42 rg42) (i := (.invokevirtual 267, 3, 171, 0, 9, 0, 412)) (mi_k175.2 _ _ (by rfl)) (ft_invS mi_pq171 (by rfl)) (cy := mi_c171) mi_pq171 rfl (kg171_116 hGg42.I hGg42.R ) (by decide) ?_
            intro ig44 ag44 qg44 rg44 kg44 hg44
            have hGg44 := kG_call hGg42 kg44 (by decide +kernel)
            obtain ⟨hg44, og44⟩ := hg44
            have tG45 : gT ig44 ag44 = gR i a := (gT_R (og44.2.1.trans (kg42.fa 118 rfl)) ((kg44.fi 7464 rfl).trans (kg42.fi 7464 rfl)) ((kg44.fi 7465 rfl).trans (kg42.fi 7465 rfl)) ((kg44.fi 7466 rfl).trans (kg42.fi 7466 rfl)) og44.2.2.1 og44.2.2.2)
            have q46 : ag44 139 = ag42 118 := og44.1
            have q47 : ag44 118 = ag42 118 := og44.2.1
            have q48 : ig44 7467 = 0 := og44.2.2.1
            have q49 : ag44 141 = List.replicate 64 0 := og44.2.2.2
            refine ft_goS mi_k175 1 63 [.ref 116] (by rfl) ?_
            refine ko_callN mi_k175.1 (pc := 63) (ls := [(4, .int vg39), (0, .ref 116), (1, .int x1), (2, .int x2), (3, .int x3)]) (st := [.ref 116]) (h := ks ig44 ag44 qg44 rg44) (i := (.invokevirtual 270, 3, 170, 0, 9, 0, 414)) (mi_k175.2 _ _ (by rfl)) (ft_invS mi_pq170 (by rfl)) (cy := mi_c170) mi_pq170 rfl (kg170_116 hGg44.I hGg44.R (kCode_of (i1 := ig44) hE_code (hGg44.fi 7432 rfl) (hGg44.fa 120 rfl) (hGg44.fa 121 rfl) (hGg44.fa 122 rfl) (hGg44.fa 123 rfl))) (by decide) ?_
            intro ig50 ag50 qg50 rg50 kg50 hg50
            have hGg50 := kG_call hGg44 kg50 (by decide +kernel)
            obtain ⟨hg50, og50⟩ := hg50
            have oG51 := og50
            rw [(gKn_fr hGg44 (by decide +kernel) : gKn ig44 ag44 = gKn i a), (tG45 : gT ig44 ag44 = gR i a)] at oG51
            rw [((kg44.fa 142 rfl) : ag44 142 = ag42 142), ((kg44.fi 7469 rfl) : ig44 7469 = ig42 7469)] at oG51
            have tG52 : gT ig50 ag50 = gAt (gKn i a) (ag42 142) (gR i a) (ig42 7469).toInt.toNat := oG51.1
            refine ft_goS mi_k175 1 67 [.int x3] (by rfl) ?_
            refine ft_ifS mi_k175 (x3 != 0) 77 70 [] (by rfl) (fun c => ?_) (fun c => ?_)
            ·
              have c53 : x3.toInt ≠ (0 : Int32).toInt := kd_ne c; clear c
              refine ft_goS mi_k175 2 79 [.int 1, .int x3] (by rfl) ?_
              refine ft_ifS mi_k175 (x3 != 1) 89 82 [] (by rfl) (fun c => ?_) (fun c => ?_)
              ·
                have c54 : x3.toInt ≠ (1 : Int32).toInt := kd_ne c; clear c
                refine ft_goS mi_k175 2 91 [.int 2, .int x3] (by rfl) ?_
                refine ft_ifS mi_k175 (x3 != 2) 104 94 [] (by rfl) (fun c => ?_) (fun c => ?_)
                ·
                  have c55 : x3.toInt ≠ (2 : Int32).toInt := kd_ne c; clear c
                  refine ft_goS mi_k175 3 109 [.int x2, .ref 118] (by rfl) ?_
                  refine ko_iald3 mi_k175.1 (n := 31) (c := 31) (ax := (0, 0, 0, 0, 0)) (mi_k175.2 _ _ (by rfl)) (by rfl) (ksG118 _ _ _ _) (hGg50.I.2.1 118) rfl (tot5 z38.1) (tot118 fi_7424.2 z38.2) ?_
                  have r56 : ((x2.toInt = 18 → (0 : Int) ≤ ((ag50 118).getD x2.toNatClampNeg 0).toInt ∧ ((ag50 118).getD x2.toNatClampNeg 0).toInt ≤ 5)) ∧ ((19 ≤ x2.toInt → x2.toInt ≤ 24 → (0 : Int) ≤ ((ag50 118).getD x2.toNatClampNeg 0).toInt ∧ ((ag50 118).getD x2.toNatClampNeg 0).toInt ≤ 7)) := kE_ncond (p := 118) hGg50.I (by decide) (j := x2) (tot5 z38.1)
                  refine fo_goL mi_k175 fz175_110_5_118 [(5, .int ((ag50 118).getD x2.toNatClampNeg 0)), (4, .int vg39), (0, .ref 116), (1, .int x1), (2, .int x2), (3, .int x3)] [.int 0, .ref 139, .ref 116] rfl ?_
                  refine ko_callN mi_k175.1 (pc := 118) (ls := [(5, .int ((ag50 118).getD x2.toNatClampNeg 0)), (4, .int vg39), (0, .ref 116), (1, .int x1), (2, .int x2), (3, .int x3)]) (st := [.int 0, .ref 139, .ref 116]) (h := ks ig50 ag50 qg50 rg50) (i := (.invokevirtual 273, 3, 169, 0, 9, 0, 423)) (mi_k175.2 _ _ (by rfl)) (ft_invS mi_pq169 (by rfl)) (cy := mi_c169) mi_pq169 rfl (ke169_116_139 hGg50.I hGg50.R 0 (tot78 ktot0)) (by decide) ?_
                  intro ig57 ag57 qg57 rg57 kg57 hg57
                  have hGg57 := kG_call hGg50 kg57 (by decide +kernel)
                  obtain ⟨hg57, og57⟩ := hg57
                  have q58 : ag57 118 = ag50 139 := og57
                  refine ft_goS mi_k175 1 123 [.int ((ag50 118).getD x2.toNatClampNeg 0)] (by rfl) ?_
                  exact ft_ret mi_k175 (by rfl) (hP ((ag50 118).getD x2.toNatClampNeg 0) _ _ _ _ hGg57 ⟨trivial, ⟨(show ag57 118 = a 118 from (by first | rfl | (simp only [q58, kg50.fa 139 rfl, q46, kg42.fa 118 rfl, sMn, sMx]; done) | (simp only [q58, kg50.fa 139 rfl, q46, kg42.fa 118 rfl, sMn, sMx]; rfl))), (rTop_go (rok (tot119 c36 z2.1 z2.2 z38.1 z38.2 z4.2 ktot3)) og39 (tot100 c41 ktot0) og42 ⟨fun h => absurd h (tot120 c36 ktot3), fun h => absurd h (tot121 c36 ktot3), fun h => absurd h (tot122 c36 ktot3), fun _ => gT_pu tG52⟩)⟩⟩)
                ·
                  have c59 : x3.toInt = (2 : Int32).toInt := kd_neF c; clear c
                  exact (tot124 c36 c59 ktot3 ktot2).elim
              ·
                have c60 : x3.toInt = (1 : Int32).toInt := kd_neF c; clear c
                exact (tot125 c36 c60 ktot3 ktot1).elim
            ·
              have c61 : x3.toInt = (0 : Int32).toInt := kd_neF c; clear c
              exact (tot126 c36 c61 ktot3 ktot0).elim
          ·
            have c62 : vg39.toInt < (0 : Int32).toInt := kd_leF c; clear c
            refine ft_goS mi_k175 1 52 [.int vg39] (by rfl) ?_
            exact ft_ret mi_k175 (by rfl) (hP vg39 _ _ _ _ hG ⟨trivial, ⟨(show a 118 = a 118 from rfl), (rTop_bar (rok (tot119 c36 z2.1 z2.2 z38.1 z38.2 z4.2 ktot3)) og39 (tot116 c62 ktot0))⟩⟩)
        ·
          subst eg37
          have z63 : ¬ (((0 : Int) ≤ x2.toInt) ∧ (x2.toInt < (i 7424).toInt)) := hg37
          first | refine fo_goS mi_k175 fz175_4_2_37 [.int (-1)] (by rfl) ?_ | refine fo_goS mi_k175 fz175_13_2_37 [.int (-1)] (by rfl) ?_ | refine fo_goS mi_k175 fz175_26_2_37 [.int (-1)] (by rfl) ?_ | refine fo_goS mi_k175 fz175_33_2_37 [.int (-1)] (by rfl) ?_
          exact ft_ret mi_k175 (by rfl) (hP (-1) _ _ _ _ hG ⟨trivial, ⟨(show a 118 = a 118 from rfl), (Or.inl ⟨(tot127 c36 z4.2 z63 ktot3), rfl⟩)⟩⟩)
    ·
      subst eg3
      have z64 : ¬ (((0 : Int32).toInt ≤ x3.toInt) ∧ (x3.toInt ≤ (3 : Int32).toInt)) := hg3
      first | refine fo_goS mi_k175 fz175_4_2_37 [.int (-1)] (by rfl) ?_ | refine fo_goS mi_k175 fz175_13_2_37 [.int (-1)] (by rfl) ?_ | refine fo_goS mi_k175 fz175_26_2_37 [.int (-1)] (by rfl) ?_ | refine fo_goS mi_k175 fz175_33_2_37 [.int (-1)] (by rfl) ?_
      exact ft_ret mi_k175 (by rfl) (hP (-1) _ _ _ _ hG ⟨trivial, ⟨(show a 118 = a 118 from rfl), (Or.inl ⟨(tot128 z64 ktot0 ktot3), rfl⟩)⟩⟩)
  ·
    subst eg1
    have z65 : ¬ (((0 : Int) ≤ x1.toInt) ∧ (x1.toInt ≤ 5)) := hg1
    first | refine fo_goS mi_k175 fz175_4_2_37 [.int (-1)] (by rfl) ?_ | refine fo_goS mi_k175 fz175_13_2_37 [.int (-1)] (by rfl) ?_ | refine fo_goS mi_k175 fz175_26_2_37 [.int (-1)] (by rfl) ?_ | refine fo_goS mi_k175 fz175_33_2_37 [.int (-1)] (by rfl) ?_
    exact ft_ret mi_k175 (by rfl) (hP (-1) _ _ _ _ hG ⟨trivial, ⟨(show a 118 = a 118 from rfl), (Or.inl ⟨(tot129 z65), rfl⟩)⟩⟩)
noncomputable def yzw176_116 : kW := ([7464, 7465, 7466, 7467, 7469], [118, 128, 129, 139, 141, 142, 143, 144, 145], [], [])
set_option maxRecDepth 100000 in
theorem kz176_116 {i : Nat → Int32} {a : Nat → List Int32} {q : Nat → List Int64} {r : Nat → Nat} (hI : kI i a q) (hr : kr r) (x1 : Int32) (x2 : Int32) (x3 : Int32) (hE_code : kCode i a) : km 13 176 [.ref 116, .int x1, .int x2, .int x3] (ks i a q r) (kVI yzw176_116 i a q r (fun v i1 a1 q1 r1 => (True) ∧ (a1 118 = a 118 ∧ rTop (((0 : Int) ≤ x2.toInt) ∧ ((0 : Int) ≤ x3.toInt) ∧ (x3.toInt ≤ 2)) i a q x1 v (fun n L => fCo (gKn i a) (gR i a) x2 x3 v n L)))) := by
  have hG := kG_self yzw176_116 hI hr
  refine km_ofI (q := (mi_h176, mi_c176)) rfl (by decide) (Nat.le_of_ble_eq_true rfl) ?_
  intro P hP
  refine ft_goL mi_k176 1 1 [(0, .ref 116), (1, .int x1), (2, .int x2), (3, .int x3)] [.int x1] (by rfl) ?_
  refine ko_callPI mi_k176.1 (pc := 1) (ls := [(0, .ref 116), (1, .int x1), (2, .int x2), (3, .int x3)]) (st := [.int x1]) (h := ks i a q r) (i := (.invokestatic 127, 3, 133, 0, 9, 0, 382)) (mi_k176.2 _ _ (by rfl)) (ft_invS mi_pq133 (by rfl)) (cy := mi_c133) mi_pq133 rfl (kc133 hG.I hG.R x1) (by decide) ?_
  intro vg1 hg1
  rcases hg1 with ⟨eg1, hg1⟩ | ⟨eg1, hg1⟩
  ·
    subst eg1
    have z2 : ((0 : Int) ≤ x1.toInt) ∧ (x1.toInt ≤ 5) := hg1
    refine ft_goS mi_k176 2 8 [.int x2] (by rfl) ?_
    refine ft_ifS mi_k176 (decide (x2 < 0)) 20 11 [] (by rfl) (fun c => ?_) (fun c => ?_)
    ·
      have c3 : x2.toInt < (0 : Int32).toInt := kd_lt c; clear c
      refine ft_goS mi_k176 1 21 [.int (-1)] (by rfl) ?_
      exact ft_ret mi_k176 (by rfl) (hP (-1) _ _ _ _ hG ⟨trivial, ⟨(show a 118 = a 118 from rfl), (Or.inl ⟨(tot130 c3 ktot0), rfl⟩)⟩⟩)
    ·
      have c4 : (0 : Int32).toInt ≤ x2.toInt := kd_ltF c; clear c
      refine ft_goS mi_k176 3 14 [.int 2, .int 0, .int x3] (by rfl) ?_
      refine ko_callPI mi_k176.1 (pc := 14) (ls := [(0, .ref 116), (1, .int x1), (2, .int x2), (3, .int x3)]) (st := [.int 2, .int 0, .int x3]) (h := ks i a q r) (i := (.invokestatic 119, 3, 131, 0, 9, 0, 379)) (mi_k176.2 _ _ (by rfl)) (ft_invS mi_pq131 (by rfl)) (cy := mi_c131) mi_pq131 rfl (kc131 hG.I hG.R x3 0 2) (by decide) ?_
      intro vg5 hg5
      rcases hg5 with ⟨eg5, hg5⟩ | ⟨eg5, hg5⟩
      ·
        subst eg5
        have z6 : ((0 : Int32).toInt ≤ x3.toInt) ∧ (x3.toInt ≤ (2 : Int32).toInt) := hg5
        refine ft_goS mi_k176 3 24 [.int x1, .ref 116] (by rfl) ?_
        refine ko_callPI mi_k176.1 (pc := 24) (ls := [(0, .ref 116), (1, .int x1), (2, .int x2), (3, .int x3)]) (st := [.int x1, .ref 116]) (h := ks i a q r) (i := (.invokevirtual 276, 3, 173, 0, 9, 0, 410)) (mi_k176.2 _ _ (by rfl)) (ft_invS mi_pq173 (by rfl)) (cy := mi_c173) mi_pq173 rfl (kg173_116 hG.I hG.R x1 (tot14 z2.1 z2.2)) (by decide) ?_
        intro vg7 hg7
        obtain ⟨hg7, og7⟩ := hg7
        refine ft_goL mi_k176 2 31 [(4, .int vg7), (0, .ref 116), (1, .int x1), (2, .int x2), (3, .int x3)] [.int vg7] (by rfl) ?_
        refine ft_ifS mi_k176 (decide (0 ≤ vg7)) 37 34 [] (by rfl) (fun c => ?_) (fun c => ?_)
        ·
          have c9 : (0 : Int32).toInt ≤ vg7.toInt := kd_le c; clear c
          refine ft_goS mi_k176 2 39 [.int x1, .ref 116] (by rfl) ?_
          refine ko_callN mi_k176.1 (pc := 39) (ls := [(4, .int vg7), (0, .ref 116), (1, .int x1), (2, .int x2), (3, .int x3)]) (st := [.int x1, .ref 116]) (h := ks i a q r) (i := (.invokevirtual 279, 3, 174, 0, 9, 0, 411)) (mi_k176.2 _ _ (by rfl)) (ft_invS mi_pq174 (by rfl)) (cy := mi_c174) mi_pq174 rfl (kg174_116 hG.I hG.R x1 (tot14 z2.1 z2.2)) (by decide) ?_
          intro ig10 ag10 qg10 rg10 kg10 hg10
          have hGg10 := kG_call hG kg10 (by decide +kernel)
          obtain ⟨hg10, og10⟩ := hg10
          have fig10_7469 : ((0 : Int) ≤ (ig10 7469).toInt) ∧ ((ig10 7469).toInt ≤ 21) := hGg10.I.1 7469
          refine ft_goS mi_k176 3 47 [.int (ig10 7469), .int x2] (by rfl) ?_
          refine ft_ifS mi_k176 (decide (x2 < (ig10 7469))) 53 50 [] (by rfl) (fun c => ?_) (fun c => ?_)
          ·
            have c12 : x2.toInt < (ig10 7469).toInt := kd_lt c; clear c
            refine ft_goS mi_k176 1 54 [.ref 116] (by rfl) ?_
            refine ko_callN mi_k176.1 (pc := 54) (ls := [(4, .int vg7), (0, .ref 116), (1, .int x1), (2, .int x2), (3, .int x3)]) (st := [.ref 116]) (h := ks ig10 ag10 qg10 rg10) (i := (.invokevirtual 267, 3, 171, 0, 9, 0, 412)) (mi_k176.2 _ _ (by rfl)) (ft_invS mi_pq171 (by rfl)) (cy := mi_c171) mi_pq171 rfl (kg171_116 hGg10.I hGg10.R ) (by decide) ?_
            intro ig13 ag13 qg13 rg13 kg13 hg13
            have hGg13 := kG_call hGg10 kg13 (by decide +kernel)
            obtain ⟨hg13, og13⟩ := hg13
            have tG14 : gT ig13 ag13 = gR i a := (gT_R (og13.2.1.trans (kg10.fa 118 rfl)) ((kg13.fi 7464 rfl).trans (kg10.fi 7464 rfl)) ((kg13.fi 7465 rfl).trans (kg10.fi 7465 rfl)) ((kg13.fi 7466 rfl).trans (kg10.fi 7466 rfl)) og13.2.2.1 og13.2.2.2)
            have q15 : ag13 139 = ag10 118 := og13.1
            have q16 : ag13 118 = ag10 118 := og13.2.1
            have q17 : ig13 7467 = 0 := og13.2.2.1
            have q18 : ag13 141 = List.replicate 64 0 := og13.2.2.2
            refine ft_goS mi_k176 1 58 [.ref 116] (by rfl) ?_
            refine ko_callN mi_k176.1 (pc := 58) (ls := [(4, .int vg7), (0, .ref 116), (1, .int x1), (2, .int x2), (3, .int x3)]) (st := [.ref 116]) (h := ks ig13 ag13 qg13 rg13) (i := (.invokevirtual 270, 3, 170, 0, 9, 0, 414)) (mi_k176.2 _ _ (by rfl)) (ft_invS mi_pq170 (by rfl)) (cy := mi_c170) mi_pq170 rfl (kg170_116 hGg13.I hGg13.R (kCode_of (i1 := ig13) hE_code (hGg13.fi 7432 rfl) (hGg13.fa 120 rfl) (hGg13.fa 121 rfl) (hGg13.fa 122 rfl) (hGg13.fa 123 rfl))) (by decide) ?_
            intro ig19 ag19 qg19 rg19 kg19 hg19
            have hGg19 := kG_call hGg13 kg19 (by decide +kernel)
            obtain ⟨hg19, og19⟩ := hg19
            have oG20 := og19
            rw [(gKn_fr hGg13 (by decide +kernel) : gKn ig13 ag13 = gKn i a), (tG14 : gT ig13 ag13 = gR i a)] at oG20
            rw [((kg13.fa 142 rfl) : ag13 142 = ag10 142), ((kg13.fi 7469 rfl) : ig13 7469 = ig10 7469)] at oG20
            have tG21 : gT ig19 ag19 = gAt (gKn i a) (ag10 142) (gR i a) (ig10 7469).toInt.toNat := oG20.1
            refine ft_goS mi_k176 4 67 [.int 0, .ref 139, .ref 116] (by rfl) ?_
            refine ko_callN mi_k176.1 (pc := 67) (ls := [(4, .int vg7), (0, .ref 116), (1, .int x1), (2, .int x2), (3, .int x3)]) (st := [.int 0, .ref 139, .ref 116]) (h := ks ig19 ag19 qg19 rg19) (i := (.invokevirtual 273, 3, 169, 0, 9, 0, 423)) (mi_k176.2 _ _ (by rfl)) (ft_invS mi_pq169 (by rfl)) (cy := mi_c169) mi_pq169 rfl (ke169_116_139 hGg19.I hGg19.R 0 (tot78 ktot0)) (by decide) ?_
            intro ig22 ag22 qg22 rg22 kg22 hg22
            have hGg22 := kG_call hGg19 kg22 (by decide +kernel)
            obtain ⟨hg22, og22⟩ := hg22
            have q23 : ag22 118 = ag19 139 := og22
            refine ft_goS mi_k176 1 71 [.int x3] (by rfl) ?_
            refine ft_ifS mi_k176 (x3 != 0) 83 74 [] (by rfl) (fun c => ?_) (fun c => ?_)
            ·
              have c24 : x3.toInt ≠ (0 : Int32).toInt := kd_ne c; clear c
              refine ft_goS mi_k176 2 85 [.int 1, .int x3] (by rfl) ?_
              refine ft_ifS mi_k176 (x3 != 1) 97 88 [] (by rfl) (fun c => ?_) (fun c => ?_)
              ·
                have c25 : x3.toInt ≠ (1 : Int32).toInt := kd_ne c; clear c
                refine ft_goS mi_k176 3 102 [.int x2, .ref 145] (by rfl) ?_
                refine ko_iald3 mi_k176.1 (n := 21) (c := 21) (ax := (0, 0, 0, 0, 0)) (mi_k176.2 _ _ (by rfl)) (by rfl) (ksG145 _ _ _ _) (hGg22.I.2.1 145) rfl (tot131 c4 ktot0) (tot132 c12 fig10_7469.2) ?_
                exact ft_ret mi_k176 (by rfl) (hP ((ag22 145).getD x2.toNatClampNeg 0) _ _ _ _ hGg22 ⟨trivial, ⟨(show ag22 118 = a 118 from (by first | rfl | (simp only [q23, kg19.fa 139 rfl, q15, kg10.fa 118 rfl, sMn, sMx]; done) | (simp only [q23, kg19.fa 139 rfl, q15, kg10.fa 118 rfl, sMn, sMx]; rfl))), (rTop_go (rok (tot133 c4 z2.1 z2.2 z6.1 z6.2 ktot0 ktot2)) og7 (tot100 c9 ktot0) og10 ⟨fun h => absurd h (tot135 c12), fun _ => ⟨fun h => absurd h (tot136 c24 z6.1 ktot0), fun h => absurd h (tot137 c24 c25 z6.1 ktot0 ktot1), fun _ => ((congrArg (fun z : List Int32 => z.getD x2.toNatClampNeg 0) ((kg22.fa 145 rfl) : ag22 145 = ag19 145)).trans (gOp_at oG20.2 (tot131 c4 ktot0) (tot134 c12)).2.2)⟩⟩)⟩⟩)
              ·
                have c26 : x3.toInt = (1 : Int32).toInt := kd_neF c; clear c
                refine ft_goS mi_k176 3 93 [.int x2, .ref 144] (by rfl) ?_
                refine ko_iald3 mi_k176.1 (n := 21) (c := 21) (ax := (0, 0, 0, 0, 0)) (mi_k176.2 _ _ (by rfl)) (by rfl) (ksG144 _ _ _ _) (hGg22.I.2.1 144) rfl (tot131 c4 ktot0) (tot132 c12 fig10_7469.2) ?_
                first | refine ft_goS mi_k176 1 103 [.int ((ag22 144).getD x2.toNatClampNeg 0)] (by rfl) ?_
                exact ft_ret mi_k176 (by rfl) (hP ((ag22 144).getD x2.toNatClampNeg 0) _ _ _ _ hGg22 ⟨trivial, ⟨(show ag22 118 = a 118 from (by first | rfl | (simp only [q23, kg19.fa 139 rfl, q15, kg10.fa 118 rfl, sMn, sMx]; done) | (simp only [q23, kg19.fa 139 rfl, q15, kg10.fa 118 rfl, sMn, sMx]; rfl))), (rTop_go (rok (tot139 c26 c4 z2.1 z2.2 z6.2 ktot1 ktot0 ktot2)) og7 (tot100 c9 ktot0) og10 ⟨fun h => absurd h (tot135 c12), fun _ => ⟨fun h => absurd h (tot106 c26 ktot1), fun _ => ((congrArg (fun z : List Int32 => z.getD x2.toNatClampNeg 0) ((kg22.fa 144 rfl) : ag22 144 = ag19 144)).trans (gOp_at oG20.2 (tot131 c4 ktot0) (tot134 c12)).2.1), fun h => absurd h (tot108 c26 ktot1)⟩⟩)⟩⟩)
            ·
              have c27 : x3.toInt = (0 : Int32).toInt := kd_neF c; clear c
              refine ft_goS mi_k176 3 79 [.int x2, .ref 143] (by rfl) ?_
              refine ko_iald3 mi_k176.1 (n := 21) (c := 21) (ax := (0, 0, 0, 0, 0)) (mi_k176.2 _ _ (by rfl)) (by rfl) (ksG143 _ _ _ _) (hGg22.I.2.1 143) rfl (tot131 c4 ktot0) (tot132 c12 fig10_7469.2) ?_
              first | refine ft_goS mi_k176 1 103 [.int ((ag22 143).getD x2.toNatClampNeg 0)] (by rfl) ?_
              exact ft_ret mi_k176 (by rfl) (hP ((ag22 143).getD x2.toNatClampNeg 0) _ _ _ _ hGg22 ⟨trivial, ⟨(show ag22 118 = a 118 from (by first | rfl | (simp only [q23, kg19.fa 139 rfl, q15, kg10.fa 118 rfl, sMn, sMx]; done) | (simp only [q23, kg19.fa 139 rfl, q15, kg10.fa 118 rfl, sMn, sMx]; rfl))), (rTop_go (rok (tot133 c4 z2.1 z2.2 z6.1 z6.2 ktot0 ktot2)) og7 (tot100 c9 ktot0) og10 ⟨fun h => absurd h (tot135 c12), fun _ => ⟨fun _ => ((congrArg (fun z : List Int32 => z.getD x2.toNatClampNeg 0) ((kg22.fa 143 rfl) : ag22 143 = ag19 143)).trans (gOp_at oG20.2 (tot131 c4 ktot0) (tot134 c12)).1), fun h => absurd h (tot112 c27 ktot0), fun h => absurd h (tot113 c27 ktot0)⟩⟩)⟩⟩)
          ·
            have c28 : (ig10 7469).toInt ≤ x2.toInt := kd_ltF c; clear c
            refine ft_goS mi_k176 1 52 [.int (-2)] (by rfl) ?_
            exact ft_ret mi_k176 (by rfl) (hP (-2) _ _ _ _ hGg10 ⟨trivial, ⟨(show ag10 118 = a 118 from (by first | rfl | (simp only [kg10.fa 118 rfl, sMn, sMx]; done) | (simp only [kg10.fa 118 rfl, sMn, sMx]; rfl))), (rTop_go (rok (tot133 c4 z2.1 z2.2 z6.1 z6.2 ktot0 ktot2)) og7 (tot100 c9 ktot0) og10 ⟨fun _ => rfl, fun h => absurd h (tot140 c28)⟩)⟩⟩)
        ·
          have c29 : vg7.toInt < (0 : Int32).toInt := kd_leF c; clear c
          refine ft_goS mi_k176 1 36 [.int vg7] (by rfl) ?_
          exact ft_ret mi_k176 (by rfl) (hP vg7 _ _ _ _ hG ⟨trivial, ⟨(show a 118 = a 118 from rfl), (rTop_bar (rok (tot133 c4 z2.1 z2.2 z6.1 z6.2 ktot0 ktot2)) og7 (tot116 c29 ktot0))⟩⟩)
      ·
        subst eg5
        have z30 : ¬ (((0 : Int32).toInt ≤ x3.toInt) ∧ (x3.toInt ≤ (2 : Int32).toInt)) := hg5
        first | refine ft_goS mi_k176 2 21 [.int (-1)] (by rfl) ?_
        exact ft_ret mi_k176 (by rfl) (hP (-1) _ _ _ _ hG ⟨trivial, ⟨(show a 118 = a 118 from rfl), (Or.inl ⟨(tot141 z30 ktot0 ktot2), rfl⟩)⟩⟩)
  ·
    subst eg1
    have z31 : ¬ (((0 : Int) ≤ x1.toInt) ∧ (x1.toInt ≤ 5)) := hg1
    first | refine ft_goS mi_k176 2 21 [.int (-1)] (by rfl) ?_
    exact ft_ret mi_k176 (by rfl) (hP (-1) _ _ _ _ hG ⟨trivial, ⟨(show a 118 = a 118 from rfl), (Or.inl ⟨(tot142 z31), rfl⟩)⟩⟩)
end
section
theorem tou6 {a0 a1 : Int} (h0 : a0 ≤ a1) (h1 : (0 : Int) ≤ a0) (h2 : a1 = 0) : a0 = 0 := by omega
theorem tou27 {a0 a1 : Int} (h0 : a0 = a1) (h1 : a1 = (-1)) : ¬ (a0 ≠ (-1)) := by omega
theorem tou29 {a0 a1 a2 : Int} (h0 : a0 = a1) (h1 : (0 : Int) ≤ a2) (h2 : a2 < a1) : ((0 : Int) ≤ a2) ∧ (a2 < a0) := by omega
theorem tou31 {a0 : Int} (h0 : (0 : Int) ≤ a0) : ¬ (a0 = (-1)) := by omega
end
section
theorem ktop8 : (8 : Int32).toInt = 8 := by decide
theorem ktop0 : (0 : Int32).toInt = 0 := by decide
theorem ktop1 : (1 : Int32).toInt = 1 := by decide
theorem ktop10 : (10 : Int32).toInt = 10 := by decide
theorem ktopm1 : ((-1) : Int32).toInt = (-1) := by decide
theorem ktop20 : (20 : Int32).toInt = 20 := by decide
theorem top0 {a0 : Int} (h0 : (0 : Int) ≤ a0) (h1 : a0 ≤ 5) : ((0 : Int) ≤ a0) ∧ (a0 ≤ 5) := oz35 h0 h1
theorem top1 {a0 a1 : Int} (h0 : a0 ≤ a1) (h1 : a1 ≤ a0) : a1 = a0 := oy46 h0 h1
theorem top2 {a0 a1 : Int} (h0 : a0 ≠ a1) (h1 : a0 = a1) (h2 : a1 = (-1)) : False := oz390 h0 h1 h2
theorem top3 {a0 : Int} (h0 : a0 = 0) : a0 = 0 := oz236 h0
theorem top4 {a0 a1 a2 a3 a4 a5 a6 : Int} (h0 : a0 = a1) (h1 : (0 : Int) ≤ a2) (h2 : a2 ≤ 5) (h3 : a3 ≤ a4) (h4 : a4 ≤ a5) (h5 : a1 = (-1)) (h6 : a3 = 0) (h7 : a5 = 20) : (((0 : Int) ≤ a4) ∧ (a4 ≤ 20) ∧ ((a0 = (-1)) ∨ (((0 : Int) ≤ a0) ∧ (a0 < a6)))) ∧ ((0 : Int) ≤ a2) ∧ (a2 ≤ 5) := by omega
theorem top5 {a0 a1 : Int} (h0 : a0 ≤ a1) (h1 : a0 = 0) : ¬ (a1 < 0) := oy47 h0 h1
theorem top7 {a0 a1 : Int} (h0 : a0 = a1) (h1 : a1 = (-1)) : ¬ (a0 ≠ (-1)) := tou27 h0 h1
theorem top8 {a0 a1 : Int} (h0 : (0 : Int) ≤ a0) (h1 : a1 = 1) : (-2147483648 : Int) ≤ a0 + a1 := oz12 h0 h1
theorem top9 {a0 a1 a2 : Int} (h0 : a0 ≤ a1) (h1 : a1 = 0) (h2 : a2 = 1) : a0 + a2 ≤ 2147483647 := oz391 h0 h1 h2
theorem top10 {a0 a1 a2 : Int} (h0 : (0 : Int) ≤ a0) (h1 : a1 = a0 + a2) (h2 : a2 = 1) : (0 : Int) ≤ a1 := oz14 h0 h1 h2
theorem top11 {a0 a1 a2 a3 : Int} (h0 : a0 < a1) (h1 : a2 = a0 + a3) (h2 : a3 = 1) : a2 ≤ a1 := og20 h0 h1 h2
theorem top12 {a0 a1 a2 : Int} (h0 : a0 = a1 + a2) (h1 : a2 = 1) : a0 = a1 + 1 := oz169 h0 h1
theorem top13 {a0 a1 : Int} (h0 : a0 ≤ a1) (h1 : (0 : Int) ≤ a0) (h2 : a1 = 0) : a0 = 0 := tou6 h0 h1 h2
theorem top14 {a0 a1 a2 a3 : Int} (h0 : a0 = a1 + a2) (h1 : a2 = 1) : (a3 - a0) < (a3 - a1) := oz44 h0 h1
theorem top15 {a0 a1 : Int} (h0 : a0 < a1) : (1 : Int) ≤ (a1 - a0) := oz45 h0
theorem top32 {a0 a1 a2 : Int} (h0 : a0 < a1) (h1 : a0 = 0) (h2 : a2 = 1) : (-2147483648 : Int) ≤ a1 + a2 := oz402 h0 h1 h2
theorem top33 {a0 a1 a2 a3 : Int} (h0 : a0 < a1) (h1 : a1 ≤ a2) (h2 : a2 = 20) (h3 : a3 = 1) : a0 + a3 ≤ 2147483647 := oz403 h0 h1 h2 h3
theorem top34 {a0 a1 a2 a3 : Int} (h0 : a0 < a1) (h1 : a2 = a1 + a3) (h2 : a0 = 0) (h3 : a3 = 1) : (0 : Int) ≤ a2 := oz404 h0 h1 h2 h3
theorem top35 {a0 a1 : Int} (h0 : a0 < a1) (h1 : a0 = 0) : (1 : Int) ≤ a1 := oz659 h0 h1
theorem top36 {a0 : Int} (h0 : a0 = 0) : (0 : Int) ≤ a0 := oz46 h0
theorem top37 {a0 a1 : Int} (h0 : a0 ≤ a1) (h1 : a0 = 0) : a0 ≤ a1 := by omega
theorem top38 {a0 a1 : Int} (h0 : a0 < a1) (h1 : a1 = 0) : a0 < 0 := oz1670 h0 h1
theorem top39 {a0 : Int} (h0 : (0 : Int) ≤ a0) : (0 : Int) ≤ a0 := oz3 h0
theorem top40 {a0 a1 : Int} (h0 : a0 ≤ 8) (h1 : a1 < a0) : a1 < 31 := oz385 h0 h1
theorem top41 {a0 a1 a2 a3 a4 a5 : Int} (h0 : (0 : Int) ≤ a0) (h1 : a0 ≤ 5) (h2 : a1 ≤ a2) (h3 : a2 ≤ a3) (h4 : (0 : Int) ≤ a4) (h5 : a4 < a5) (h6 : a1 = 0) (h7 : a3 = 20) : (((0 : Int) ≤ a2) ∧ (a2 ≤ 20) ∧ ((a4 = (-1)) ∨ (((0 : Int) ≤ a4) ∧ (a4 < a5)))) ∧ ((0 : Int) ≤ a0) ∧ (a0 ≤ 5) := by omega
theorem top42 {a0 : Int} (h0 : (0 : Int) ≤ a0) : ¬ (a0 = (-1)) := tou31 h0
theorem top44 {a0 a1 : Int} (h0 : a0 = a1) (h1 : (0 : Int) ≤ a0) (h2 : a1 = (-1)) : False := oz405 h0 h1 h2
theorem top45 {a0 a1 a2 a3 a4 : Int} (h0 : a0 ≠ a1) (h1 : ¬ (((0 : Int) ≤ a0) ∧ (a0 < a2))) (h2 : a1 = (-1)) : ¬ ((((0 : Int) ≤ a3) ∧ (a3 ≤ 20) ∧ ((a0 = (-1)) ∨ (((0 : Int) ≤ a0) ∧ (a0 < a2)))) ∧ ((0 : Int) ≤ a4) ∧ (a4 ≤ 5)) := by omega
theorem top46 {a0 a1 a2 a3 a4 a5 : Int} (h0 : ¬ ((a0 ≤ a1) ∧ (a1 ≤ a2))) (h1 : a0 = 0) (h2 : a2 = 20) : ¬ ((((0 : Int) ≤ a1) ∧ (a1 ≤ 20) ∧ ((a3 = (-1)) ∨ (((0 : Int) ≤ a3) ∧ (a3 < a4)))) ∧ ((0 : Int) ≤ a5) ∧ (a5 ≤ 5)) := by omega
theorem top47 {a0 a1 a2 a3 : Int} (h0 : ¬ (((0 : Int) ≤ a0) ∧ (a0 ≤ 5))) : ¬ ((((0 : Int) ≤ a1) ∧ (a1 ≤ 20) ∧ ((a2 = (-1)) ∨ (((0 : Int) ≤ a2) ∧ (a2 < a3)))) ∧ ((0 : Int) ≤ a0) ∧ (a0 ≤ 5)) := by omega
theorem top54 {a0 : Int} (h0 : a0 ≤ 7) : a0 < 31 := oz65 h0
theorem top55 {a0 : Int} (h0 : a0 = 0) : ((0 : Int) ≤ a0) ∧ (a0 ≤ 7) := oz463 h0
theorem top56 {a0 a1 : Int} (h0 : a0 = (a1 / 10)) (h1 : (0 : Int) ≤ a1) : (-2147483648 : Int) ≤ 8 * a0 := oz464 h0 h1
theorem top57 {a0 a1 a2 : Int} (h0 : a0 ≤ 8) (h1 : a1 = (a2 / 10)) (h2 : (a2 / 10) < a0) (h3 : (a2 % 10) < a0) (h4 : (a2 / 10) ≠ (a2 % 10)) : 8 * a1 ≤ 2147483647 := oz465 h0 h1 h2 h3 h4
theorem top58 {a0 a1 a2 a3 : Int} (h0 : a0 = (a1 / 10)) (h1 : a2 = 8 * a0) (h2 : a3 = (a1 % 10)) (h3 : (0 : Int) ≤ a1) : (-2147483648 : Int) ≤ a2 + a3 := oz466 h0 h1 h2 h3
theorem top59 {a0 a1 a2 a3 a4 : Int} (h0 : a0 ≤ 8) (h1 : a1 = (a2 / 10)) (h2 : a3 = 8 * a1) (h3 : a4 = (a2 % 10)) (h4 : (a2 / 10) < a0) (h5 : (a2 % 10) < a0) (h6 : (a2 / 10) ≠ (a2 % 10)) : a3 + a4 ≤ 2147483647 := oz467 h0 h1 h2 h3 h4 h5 h6
theorem top60 {a0 a1 a2 a3 a4 : Int} (h0 : a0 = (a1 / 10)) (h1 : a2 = 8 * a0) (h2 : a3 = (a1 % 10)) (h3 : a4 = a2 + a3) (h4 : (0 : Int) ≤ a1) : (0 : Int) ≤ a4 := oz468 h0 h1 h2 h3 h4
theorem top61 {a0 a1 a2 a3 a4 a5 : Int} (h0 : a0 ≤ 8) (h1 : a1 = (a2 / 10)) (h2 : a3 = 8 * a1) (h3 : a4 = (a2 % 10)) (h4 : a5 = a3 + a4) (h5 : (a2 / 10) < a0) (h6 : (a2 % 10) < a0) (h7 : (a2 / 10) ≠ (a2 % 10)) : a5 < 64 := oz469 h0 h1 h2 h3 h4 h5 h6 h7
theorem top62 {a0 a1 a2 : Int} (h0 : (0 : Int) ≤ a0) (h1 : a0 ≤ 5) (h2 : (0 : Int) ≤ a1) (h3 : (a1 / 10) < a2) (h4 : (a1 % 10) < a2) (h5 : (a1 / 10) ≠ (a1 % 10)) : (((0 : Int) ≤ a1) ∧ ((a1 / 10) < a2) ∧ ((a1 % 10) < a2) ∧ ((a1 / 10) ≠ (a1 % 10))) ∧ ((0 : Int) ≤ a0) ∧ (a0 ≤ 5) := by omega
theorem top63 {a0 a1 a2 : Int} (h0 : ¬ (((0 : Int) ≤ a0) ∧ (((a0 / 10) < a1) ∧ ((a0 % 10) < a1)) ∧ ((a0 / 10) ≠ (a0 % 10)))) : ¬ ((((0 : Int) ≤ a0) ∧ ((a0 / 10) < a1) ∧ ((a0 % 10) < a1) ∧ ((a0 / 10) ≠ (a0 % 10))) ∧ ((0 : Int) ≤ a2) ∧ (a2 ≤ 5)) := by omega
theorem top64 {a0 a1 a2 : Int} (h0 : ¬ (((0 : Int) ≤ a0) ∧ (a0 ≤ 5))) : ¬ ((((0 : Int) ≤ a1) ∧ ((a1 / 10) < a2) ∧ ((a1 % 10) < a2) ∧ ((a1 / 10) ≠ (a1 % 10))) ∧ ((0 : Int) ≤ a0) ∧ (a0 ≤ 5)) := by omega
noncomputable def yzw177_116 : kW := ([7464, 7465, 7466, 7467, 7469], [118, 128, 129, 139, 141, 142, 143, 144, 145], [], [])
noncomputable def yzw177_116_L59 : kW := ([7464, 7465, 7466, 7467], [118, 128, 129, 141, 143, 144, 145], [], [])
set_option maxRecDepth 100000 in
theorem kz177_116 {i : Nat → Int32} {a : Nat → List Int32} {q : Nat → List Int64} {r : Nat → Nat} (hI : kI i a q) (hr : kr r) (x1 : Int32) (x2 : Int32) (x3 : Int32) (hE_code : kCode i a) : km 13 177 [.ref 116, .int x1, .int x2, .int x3] (ks i a q r) (kVI yzw177_116 i a q r (fun v i1 a1 q1 r1 => (True) ∧ (a1 118 = a 118 ∧ rTop (((0 : Int) ≤ x2.toInt) ∧ (x2.toInt ≤ 20) ∧ ((x3.toInt = (-1)) ∨ (((0 : Int) ≤ x3.toInt) ∧ (x3.toInt < (i 7424).toInt)))) i a q x1 v (fun n L => fLa (gKn i a) (gR i a) x2 x3 v n L)))) := by
  have hG := kG_self yzw177_116 hI hr
  refine km_ofI (q := (mi_h177, mi_c177)) rfl (by decide) (Nat.le_of_ble_eq_true rfl) ?_
  intro P hP
  refine ft_goL mi_k177 1 1 [(0, .ref 116), (1, .int x1), (2, .int x2), (3, .int x3)] [.int x1] (by rfl) ?_
  refine ko_callPI mi_k177.1 (pc := 1) (ls := [(0, .ref 116), (1, .int x1), (2, .int x2), (3, .int x3)]) (st := [.int x1]) (h := ks i a q r) (i := (.invokestatic 127, 3, 133, 0, 9, 0, 382)) (mi_k177.2 _ _ (by rfl)) (ft_invS mi_pq133 (by rfl)) (cy := mi_c133) mi_pq133 rfl (kc133 hG.I hG.R x1) (by decide) ?_
  intro vg1 hg1
  rcases hg1 with ⟨eg1, hg1⟩ | ⟨eg1, hg1⟩
  ·
    subst eg1
    have z2 : ((0 : Int) ≤ x1.toInt) ∧ (x1.toInt ≤ 5) := hg1
    refine ft_goS mi_k177 4 11 [.int 20, .int 0, .int x2] (by rfl) ?_
    refine ko_callPI mi_k177.1 (pc := 11) (ls := [(0, .ref 116), (1, .int x1), (2, .int x2), (3, .int x3)]) (st := [.int 20, .int 0, .int x2]) (h := ks i a q r) (i := (.invokestatic 119, 3, 131, 0, 9, 0, 379)) (mi_k177.2 _ _ (by rfl)) (ft_invS mi_pq131 (by rfl)) (cy := mi_c131) mi_pq131 rfl (kc131 hG.I hG.R x2 0 20) (by decide) ?_
    intro vg3 hg3
    rcases hg3 with ⟨eg3, hg3⟩ | ⟨eg3, hg3⟩
    ·
      subst eg3
      have z4 : ((0 : Int32).toInt ≤ x2.toInt) ∧ (x2.toInt ≤ (20 : Int32).toInt) := hg3
      refine ft_goS mi_k177 3 19 [.int (-1), .int x3] (by rfl) ?_
      refine ft_ifS mi_k177 (x3 == (-1)) 32 22 [] (by rfl) (fun c => ?_) (fun c => ?_)
      ·
        have c5 : x3.toInt = ((-1) : Int32).toInt := kd_eq c; clear c
        refine ft_goS mi_k177 2 34 [.int x1, .ref 116] (by rfl) ?_
        refine ko_callPI mi_k177.1 (pc := 34) (ls := [(0, .ref 116), (1, .int x1), (2, .int x2), (3, .int x3)]) (st := [.int x1, .ref 116]) (h := ks i a q r) (i := (.invokevirtual 276, 3, 173, 0, 9, 0, 410)) (mi_k177.2 _ _ (by rfl)) (ft_invS mi_pq173 (by rfl)) (cy := mi_c173) mi_pq173 rfl (kg173_116 hG.I hG.R x1 (top0 z2.1 z2.2)) (by decide) ?_
        intro vg6 hg6
        obtain ⟨hg6, og6⟩ := hg6
        refine ft_goL mi_k177 2 41 [(4, .int vg6), (0, .ref 116), (1, .int x1), (2, .int x2), (3, .int x3)] [.int vg6] (by rfl) ?_
        refine ft_ifS mi_k177 (decide (0 ≤ vg6)) 47 44 [] (by rfl) (fun c => ?_) (fun c => ?_)
        ·
          have c8 : (0 : Int32).toInt ≤ vg6.toInt := kd_le c; clear c
          refine ft_goS mi_k177 2 49 [.int x1, .ref 116] (by rfl) ?_
          refine ko_callN mi_k177.1 (pc := 49) (ls := [(4, .int vg6), (0, .ref 116), (1, .int x1), (2, .int x2), (3, .int x3)]) (st := [.int x1, .ref 116]) (h := ks i a q r) (i := (.invokevirtual 279, 3, 174, 0, 9, 0, 411)) (mi_k177.2 _ _ (by rfl)) (ft_invS mi_pq174 (by rfl)) (cy := mi_c174) mi_pq174 rfl (kg174_116 hG.I hG.R x1 (top0 z2.1 z2.2)) (by decide) ?_
          intro ig9 ag9 qg9 rg9 kg9 hg9
          have hGg9 := kG_call hG kg9 (by decide +kernel)
          obtain ⟨hg9, og9⟩ := hg9
          refine ft_goS mi_k177 1 53 [.ref 116] (by rfl) ?_
          refine ko_callN mi_k177.1 (pc := 53) (ls := [(4, .int vg6), (0, .ref 116), (1, .int x1), (2, .int x2), (3, .int x3)]) (st := [.ref 116]) (h := ks ig9 ag9 qg9 rg9) (i := (.invokevirtual 267, 3, 171, 0, 9, 0, 412)) (mi_k177.2 _ _ (by rfl)) (ft_invS mi_pq171 (by rfl)) (cy := mi_c171) mi_pq171 rfl (kg171_116 hGg9.I hGg9.R ) (by decide) ?_
          intro ig11 ag11 qg11 rg11 kg11 hg11
          have hGg11 := kG_call hGg9 kg11 (by decide +kernel)
          obtain ⟨hg11, og11⟩ := hg11
          have tG12 : gT ig11 ag11 = gR i a := (gT_R (og11.2.1.trans (kg9.fa 118 rfl)) ((kg11.fi 7464 rfl).trans (kg9.fi 7464 rfl)) ((kg11.fi 7465 rfl).trans (kg9.fi 7465 rfl)) ((kg11.fi 7466 rfl).trans (kg9.fi 7466 rfl)) og11.2.2.1 og11.2.2.2)
          have q13 : ag11 139 = ag9 118 := og11.1
          have q14 : ag11 118 = ag9 118 := og11.2.1
          have q15 : ig11 7467 = 0 := og11.2.2.1
          have q16 : ag11 141 = List.replicate 64 0 := og11.2.2.2
          first | refine fo_goL mi_k177 fz177_56_2_59 [(5, .int 0), (4, .int vg6), (0, .ref 116), (1, .int x1), (2, .int x2), (3, .int x3)] [] (by rfl) ?_ | refine fo_goL mi_k177 fz177_78_2_59 [(5, .int 0), (4, .int vg6), (0, .ref 116), (1, .int x1), (2, .int x2), (3, .int x3)] [] (by rfl) ?_
          have lp17 : ∀ (nz : Nat) (i17 : Nat → Int32) (a17 : Nat → List Int32) (q17 : Nat → List Int64) (r17 : Nat → Nat) (l5_17 : Int32), kG yzw177_116_L59 ig11 ag11 qg11 rg11 i17 a17 q17 r17 → (0 : Int) ≤ l5_17.toInt → l5_17.toInt ≤ x2.toInt → gT i17 a17 = gDay (gKn i a) (ag9 142) (ig9 7469).toInt.toNat (gR i a) l5_17.toInt.toNat → ((x2.toInt - l5_17.toInt)).toNat < nz → ko 13 (mi_h177, mi_c177) P (59, [(5, .int l5_17), (4, .int vg6), (0, .ref 116), (1, .int x1), (2, .int x2), (3, .int x3)], [], (0, 0), ks i17 a17 q17 r17) := by
            intro nz
            induction nz with
            | zero =>
              intro _ _ _ _ _ _ _ _ _ hm
              exact absurd hm (Nat.not_lt_zero _)
            | succ nz ih17 =>
              intro i17 a17 q17 r17 l5_17 hL17 p17_0 p17_1 O17_0 hm17
              refine ft_goL mi_k177 2 62 [(5, .int l5_17), (4, .int vg6), (0, .ref 116), (1, .int x1), (2, .int x2), (3, .int x3)] [.int x2, .int l5_17] (by rfl) ?_
              refine ft_ifS mi_k177 (decide (x2 ≤ l5_17)) 84 65 [] (by rfl) (fun c => ?_) (fun c => ?_)
              ·
                have c18 : x2.toInt ≤ l5_17.toInt := kd_le c; clear c
                have hG19 := kG_call hGg11 hL17 (by decide +kernel)
                have tG20 : gT i17 a17 = gDay (gKn i a) (ag9 142) (ig9 7469).toInt.toNat (gR i a) x2.toInt.toNat := (gT_c O17_0 (gDay_len (top1 c18 p17_1)))
                refine ft_goS mi_k177 2 86 [.int (-1), .int x3] (by rfl) ?_
                refine ft_ifS mi_k177 (x3 != (-1)) 96 89 [] (by rfl) (fun c => ?_) (fun c => ?_)
                ·
                  have c21 : x3.toInt ≠ ((-1) : Int32).toInt := kd_ne c; clear c
                  exact (top2 c21 c5 ktopm1).elim
                ·
                  have c22 : x3.toInt = ((-1) : Int32).toInt := kd_neF c; clear c
                  first | refine fo_goL mi_k177 fz177_89_8_110 [(5, .int (i17 7467)), (4, .int vg6), (0, .ref 116), (1, .int x1), (2, .int x2), (3, .int x3)] [.int 0, .ref 139, .ref 116] (by rfl) ?_ | refine ft_goL mi_k177 8 110 [(5, .int (i17 7467)), (4, .int vg6), (0, .ref 116), (1, .int x1), (2, .int x2), (3, .int x3)] [.int 0, .ref 139, .ref 116] (by rfl) ?_
                  refine ko_callN mi_k177.1 (pc := 110) (ls := [(5, .int (i17 7467)), (4, .int vg6), (0, .ref 116), (1, .int x1), (2, .int x2), (3, .int x3)]) (st := [.int 0, .ref 139, .ref 116]) (h := ks i17 a17 q17 r17) (i := (.invokevirtual 273, 3, 169, 0, 9, 0, 423)) (mi_k177.2 _ _ (by rfl)) (ft_invS mi_pq169 (by rfl)) (cy := mi_c169) mi_pq169 rfl (ke169_116_139 hG19.I hG19.R 0 (top3 ktop0)) (by decide) ?_
                  intro ig23 ag23 qg23 rg23 kg23 hg23
                  have hGg23 := kG_call hG19 kg23 (by decide +kernel)
                  obtain ⟨hg23, og23⟩ := hg23
                  have q24 : ag23 118 = a17 139 := og23
                  refine ft_goS mi_k177 1 115 [.int (i17 7467)] (by rfl) ?_
                  exact ft_ret mi_k177 (by rfl) (hP (i17 7467) _ _ _ _ hGg23 ⟨trivial, ⟨(show ag23 118 = a 118 from (by first | rfl | (simp only [q24, hL17.fa 139 rfl, q13, kg9.fa 118 rfl, sMn, sMx]; done) | (simp only [q24, hL17.fa 139 rfl, q13, kg9.fa 118 rfl, sMn, sMx]; rfl))), (rTop_go (rok (top4 c5 z2.1 z2.2 z4.1 z4.2 ktopm1 ktop0 ktop20)) og6 (top5 c8 ktop0) og9 ⟨fun _ => gT_la tG20, fun h => absurd h (top7 c5 ktopm1)⟩)⟩⟩)
              ·
                have c25 : l5_17.toInt < x2.toInt := kd_leF c; clear c
                refine ft_goS mi_k177 1 67 [.int l5_17] (by rfl) ?_
                refine ft_ifS mi_k177 (decide (l5_17 ≤ 0)) 74 70 [] (by rfl) (fun c => ?_) (fun c => ?_)
                ·
                  have c26 : l5_17.toInt ≤ (0 : Int32).toInt := kd_le c; clear c
                  refine ft_goS mi_k177 1 75 [.ref 116] (by rfl) ?_
                  have hG27 := kG_call hGg11 hL17 (by decide +kernel)
                  refine ko_callN mi_k177.1 (pc := 75) (ls := [(5, .int l5_17), (4, .int vg6), (0, .ref 116), (1, .int x1), (2, .int x2), (3, .int x3)]) (st := [.ref 116]) (h := ks i17 a17 q17 r17) (i := (.invokevirtual 270, 3, 170, 0, 9, 0, 414)) (mi_k177.2 _ _ (by rfl)) (ft_invS mi_pq170 (by rfl)) (cy := mi_c170) mi_pq170 rfl (kg170_116 hL17.I hL17.R (kCode_of (i1 := i17) hE_code (hG27.fi 7432 rfl) (hG27.fa 120 rfl) (hG27.fa 121 rfl) (hG27.fa 122 rfl) (hG27.fa 123 rfl))) (by decide) ?_
                  intro ig28 ag28 qg28 rg28 kg28 hg28
                  have hGg28 := kG_call hL17 kg28 (by decide +kernel)
                  obtain ⟨hg28, og28⟩ := hg28
                  have oG29 := og28
                  have hG30 := kG_call hGg11 hL17 (by decide +kernel)
                  rw [(gKn_fr hG30 (by decide +kernel) : gKn i17 a17 = gKn i a), (O17_0 : gT i17 a17 = gDay (gKn i a) (ag9 142) (ig9 7469).toInt.toNat (gR i a) l5_17.toInt.toNat)] at oG29
                  rw [(((hL17.fa 142 rfl).trans (kg11.fa 142 rfl)) : a17 142 = ag9 142), (((hL17.fi 7469 rfl).trans (kg11.fi 7469 rfl)) : i17 7469 = ig9 7469)] at oG29
                  have tG31 : gT ig28 ag28 = gAt (gKn i a) (ag9 142) (gDay (gKn i a) (ag9 142) (ig9 7469).toInt.toNat (gR i a) l5_17.toInt.toNat) (ig9 7469).toInt.toNat := oG29.1
                  have s32 : (l5_17 + 1).toInt = l5_17.toInt + (1 : Int32).toInt := kd_add (top8 p17_0 ktop1) (top9 c26 ktop0 ktop1)
                  first | refine fo_goL mi_k177 fz177_56_2_59 [(5, .int (l5_17 + 1)), (4, .int vg6), (0, .ref 116), (1, .int x1), (2, .int x2), (3, .int x3)] [] (by rfl) ?_ | refine fo_goL mi_k177 fz177_78_2_59 [(5, .int (l5_17 + 1)), (4, .int vg6), (0, .ref 116), (1, .int x1), (2, .int x2), (3, .int x3)] [] (by rfl) ?_
                  exact ih17 _ _ _ _ _ hGg28 (top10 p17_0 s32 ktop1) (top11 c25 s32 ktop1) (gT_c tG31 (gDay_one rfl (top13 c26 p17_0 ktop0) (top12 s32 ktop1)).symm) (kj_meas (top14 s32 ktop1) (top15 c25) hm17)
                ·
                  have c33 : (0 : Int32).toInt < l5_17.toInt := kd_leF c; clear c
                  refine ft_goS mi_k177 1 71 [.ref 116] (by rfl) ?_
                  refine ko_callN mi_k177.1 (pc := 71) (ls := [(5, .int l5_17), (4, .int vg6), (0, .ref 116), (1, .int x1), (2, .int x2), (3, .int x3)]) (st := [.ref 116]) (h := ks i17 a17 q17 r17) (i := (.invokevirtual 282, 3, 167, 0, 9, 0, 426)) (mi_k177.2 _ _ (by rfl)) (ft_invS mi_pq167 (by rfl)) (cy := mi_c167) mi_pq167 rfl (ke167_116 hL17.I hL17.R ) (by decide) ?_
                  intro ig34 ag34 qg34 rg34 kg34 hg34
                  have hGg34 := kG_call hL17 kg34 (by decide +kernel)
                  obtain ⟨hg34, og34⟩ := hg34
                  have tG35 : gT ig34 ag34 = gEve (gDay (gKn i a) (ag9 142) (ig9 7469).toInt.toNat (gR i a) l5_17.toInt.toNat) := (gT_eve O17_0 og34 (kg34.fi 7464 rfl) (kg34.fi 7465 rfl) (kg34.fi 7466 rfl) (kg34.fi 7467 rfl) (kg34.fa 141 rfl))
                  have q36 : ag34 118 = sEnds (a17 118) := og34
                  refine ft_goS mi_k177 1 75 [.ref 116] (by rfl) ?_
                  have hG37 := kG_call hGg11 hGg34 (by decide +kernel)
                  refine ko_callN mi_k177.1 (pc := 75) (ls := [(5, .int l5_17), (4, .int vg6), (0, .ref 116), (1, .int x1), (2, .int x2), (3, .int x3)]) (st := [.ref 116]) (h := ks ig34 ag34 qg34 rg34) (i := (.invokevirtual 270, 3, 170, 0, 9, 0, 414)) (mi_k177.2 _ _ (by rfl)) (ft_invS mi_pq170 (by rfl)) (cy := mi_c170) mi_pq170 rfl (kg170_116 hGg34.I hGg34.R (kCode_of (i1 := ig34) hE_code (hG37.fi 7432 rfl) (hG37.fa 120 rfl) (hG37.fa 121 rfl) (hG37.fa 122 rfl) (hG37.fa 123 rfl))) (by decide) ?_
                  intro ig38 ag38 qg38 rg38 kg38 hg38
                  have hGg38 := kG_call hGg34 kg38 (by decide +kernel)
                  obtain ⟨hg38, og38⟩ := hg38
                  have oG39 := og38
                  have hG40 := kG_call hGg11 hGg34 (by decide +kernel)
                  rw [(gKn_fr hG40 (by decide +kernel) : gKn ig34 ag34 = gKn i a), (tG35 : gT ig34 ag34 = gEve (gDay (gKn i a) (ag9 142) (ig9 7469).toInt.toNat (gR i a) l5_17.toInt.toNat))] at oG39
                  rw [((((kg34.fa 142 rfl).trans (hL17.fa 142 rfl)).trans (kg11.fa 142 rfl)) : ag34 142 = ag9 142), ((((kg34.fi 7469 rfl).trans (hL17.fi 7469 rfl)).trans (kg11.fi 7469 rfl)) : ig34 7469 = ig9 7469)] at oG39
                  have tG41 : gT ig38 ag38 = gAt (gKn i a) (ag9 142) (gEve (gDay (gKn i a) (ag9 142) (ig9 7469).toInt.toNat (gR i a) l5_17.toInt.toNat)) (ig9 7469).toInt.toNat := oG39.1
                  have s42 : (l5_17 + 1).toInt = l5_17.toInt + (1 : Int32).toInt := kd_add (top32 c33 ktop0 ktop1) (top33 c25 z4.2 ktop20 ktop1)
                  first | refine fo_goL mi_k177 fz177_56_2_59 [(5, .int (l5_17 + 1)), (4, .int vg6), (0, .ref 116), (1, .int x1), (2, .int x2), (3, .int x3)] [] (by rfl) ?_ | refine fo_goL mi_k177 fz177_78_2_59 [(5, .int (l5_17 + 1)), (4, .int vg6), (0, .ref 116), (1, .int x1), (2, .int x2), (3, .int x3)] [] (by rfl) ?_
                  exact ih17 _ _ _ _ _ hGg38 (top34 c33 s42 ktop0 ktop1) (top11 c25 s42 ktop1) (gT_c tG41 (gDay_more rfl (top35 c33 ktop0) (top12 s42 ktop1)).symm) (kj_meas (top14 s42 ktop1) (top15 c25) hm17)
          exact lp17 _ _ _ _ _ _ (kG_self _ hGg11.I hGg11.R) (top36 ktop0) (top37 z4.1 ktop0) (gT_c tG12 (gDay_0 ktop0)) (Nat.lt_succ_self _)
        ·
          have c43 : vg6.toInt < (0 : Int32).toInt := kd_leF c; clear c
          refine ft_goS mi_k177 1 46 [.int vg6] (by rfl) ?_
          exact ft_ret mi_k177 (by rfl) (hP vg6 _ _ _ _ hG ⟨trivial, ⟨(show a 118 = a 118 from rfl), (rTop_bar (rok (top4 c5 z2.1 z2.2 z4.1 z4.2 ktopm1 ktop0 ktop20)) og6 (top38 c43 ktop0))⟩⟩)
      ·
        have c44 : x3.toInt ≠ ((-1) : Int32).toInt := kd_eqF c; clear c
        refine ft_goS mi_k177 2 24 [.int x3, .ref 116] (by rfl) ?_
        refine ko_callPI mi_k177.1 (pc := 24) (ls := [(0, .ref 116), (1, .int x1), (2, .int x2), (3, .int x3)]) (st := [.int x3, .ref 116]) (h := ks i a q r) (i := (.invokevirtual 137, 3, 132, 0, 9, 0, 387)) (mi_k177.2 _ _ (by rfl)) (ft_invS mi_pq132 (by rfl)) (cy := mi_c132) mi_pq132 rfl (kc132_116 hG.I hG.R x3) (by decide) ?_
        intro vg45 hg45
        rcases hg45 with ⟨eg45, hg45⟩ | ⟨eg45, hg45⟩
        ·
          subst eg45
          have fi_7424 : ((0 : Int) ≤ (i 7424).toInt) ∧ ((i 7424).toInt ≤ 8) := hG.I.1 7424
          have z46 : ((0 : Int) ≤ x3.toInt) ∧ (x3.toInt < (i 7424).toInt) := hg45
          first | refine ft_goS mi_k177 3 34 [.int x1, .ref 116] (by rfl) ?_
          refine ko_callPI mi_k177.1 (pc := 34) (ls := [(0, .ref 116), (1, .int x1), (2, .int x2), (3, .int x3)]) (st := [.int x1, .ref 116]) (h := ks i a q r) (i := (.invokevirtual 276, 3, 173, 0, 9, 0, 410)) (mi_k177.2 _ _ (by rfl)) (ft_invS mi_pq173 (by rfl)) (cy := mi_c173) mi_pq173 rfl (kg173_116 hG.I hG.R x1 (top0 z2.1 z2.2)) (by decide) ?_
          intro vg47 hg47
          obtain ⟨hg47, og47⟩ := hg47
          refine ft_goL mi_k177 2 41 [(4, .int vg47), (0, .ref 116), (1, .int x1), (2, .int x2), (3, .int x3)] [.int vg47] (by rfl) ?_
          refine ft_ifS mi_k177 (decide (0 ≤ vg47)) 47 44 [] (by rfl) (fun c => ?_) (fun c => ?_)
          ·
            have c49 : (0 : Int32).toInt ≤ vg47.toInt := kd_le c; clear c
            refine ft_goS mi_k177 2 49 [.int x1, .ref 116] (by rfl) ?_
            refine ko_callN mi_k177.1 (pc := 49) (ls := [(4, .int vg47), (0, .ref 116), (1, .int x1), (2, .int x2), (3, .int x3)]) (st := [.int x1, .ref 116]) (h := ks i a q r) (i := (.invokevirtual 279, 3, 174, 0, 9, 0, 411)) (mi_k177.2 _ _ (by rfl)) (ft_invS mi_pq174 (by rfl)) (cy := mi_c174) mi_pq174 rfl (kg174_116 hG.I hG.R x1 (top0 z2.1 z2.2)) (by decide) ?_
            intro ig50 ag50 qg50 rg50 kg50 hg50
            have hGg50 := kG_call hG kg50 (by decide +kernel)
            obtain ⟨hg50, og50⟩ := hg50
            refine ft_goS mi_k177 1 53 [.ref 116] (by rfl) ?_
            refine ko_callN mi_k177.1 (pc := 53) (ls := [(4, .int vg47), (0, .ref 116), (1, .int x1), (2, .int x2), (3, .int x3)]) (st := [.ref 116]) (h := ks ig50 ag50 qg50 rg50) (i := (.invokevirtual 267, 3, 171, 0, 9, 0, 412)) (mi_k177.2 _ _ (by rfl)) (ft_invS mi_pq171 (by rfl)) (cy := mi_c171) mi_pq171 rfl (kg171_116 hGg50.I hGg50.R ) (by decide) ?_
            intro ig52 ag52 qg52 rg52 kg52 hg52
            have hGg52 := kG_call hGg50 kg52 (by decide +kernel)
            obtain ⟨hg52, og52⟩ := hg52
            have tG53 : gT ig52 ag52 = gR i a := (gT_R (og52.2.1.trans (kg50.fa 118 rfl)) ((kg52.fi 7464 rfl).trans (kg50.fi 7464 rfl)) ((kg52.fi 7465 rfl).trans (kg50.fi 7465 rfl)) ((kg52.fi 7466 rfl).trans (kg50.fi 7466 rfl)) og52.2.2.1 og52.2.2.2)
            have q54 : ag52 139 = ag50 118 := og52.1
            have q55 : ag52 118 = ag50 118 := og52.2.1
            have q56 : ig52 7467 = 0 := og52.2.2.1
            have q57 : ag52 141 = List.replicate 64 0 := og52.2.2.2
            first | refine fo_goL mi_k177 fz177_56_2_59 [(5, .int 0), (4, .int vg47), (0, .ref 116), (1, .int x1), (2, .int x2), (3, .int x3)] [] (by rfl) ?_ | refine fo_goL mi_k177 fz177_78_2_59 [(5, .int 0), (4, .int vg47), (0, .ref 116), (1, .int x1), (2, .int x2), (3, .int x3)] [] (by rfl) ?_
            have lp58 : ∀ (nz : Nat) (i58 : Nat → Int32) (a58 : Nat → List Int32) (q58 : Nat → List Int64) (r58 : Nat → Nat) (l5_58 : Int32), kG yzw177_116_L59 ig52 ag52 qg52 rg52 i58 a58 q58 r58 → (0 : Int) ≤ l5_58.toInt → l5_58.toInt ≤ x2.toInt → gT i58 a58 = gDay (gKn i a) (ag50 142) (ig50 7469).toInt.toNat (gR i a) l5_58.toInt.toNat → ((x2.toInt - l5_58.toInt)).toNat < nz → ko 13 (mi_h177, mi_c177) P (59, [(5, .int l5_58), (4, .int vg47), (0, .ref 116), (1, .int x1), (2, .int x2), (3, .int x3)], [], (0, 0), ks i58 a58 q58 r58) := by
              intro nz
              induction nz with
              | zero =>
                intro _ _ _ _ _ _ _ _ _ hm
                exact absurd hm (Nat.not_lt_zero _)
              | succ nz ih58 =>
                intro i58 a58 q58 r58 l5_58 hL58 p58_0 p58_1 O58_0 hm58
                refine ft_goL mi_k177 2 62 [(5, .int l5_58), (4, .int vg47), (0, .ref 116), (1, .int x1), (2, .int x2), (3, .int x3)] [.int x2, .int l5_58] (by rfl) ?_
                refine ft_ifS mi_k177 (decide (x2 ≤ l5_58)) 84 65 [] (by rfl) (fun c => ?_) (fun c => ?_)
                ·
                  have c59 : x2.toInt ≤ l5_58.toInt := kd_le c; clear c
                  have hG60 := kG_call hGg52 hL58 (by decide +kernel)
                  have tG61 : gT i58 a58 = gDay (gKn i a) (ag50 142) (ig50 7469).toInt.toNat (gR i a) x2.toInt.toNat := (gT_c O58_0 (gDay_len (top1 c59 p58_1)))
                  refine ft_goS mi_k177 2 86 [.int (-1), .int x3] (by rfl) ?_
                  refine ft_ifS mi_k177 (x3 != (-1)) 96 89 [] (by rfl) (fun c => ?_) (fun c => ?_)
                  ·
                    have c62 : x3.toInt ≠ ((-1) : Int32).toInt := kd_ne c; clear c
                    refine ft_goS mi_k177 3 101 [.int x3, .ref 118] (by rfl) ?_
                    refine ko_iald3 mi_k177.1 (n := 31) (c := 31) (ax := (0, 0, 0, 0, 0)) (mi_k177.2 _ _ (by rfl)) (by rfl) (ksG118 _ _ _ _) (hG60.I.2.1 118) rfl (top39 z46.1) (top40 fi_7424.2 z46.2) ?_
                    have r63 : ((x3.toInt = 18 → (0 : Int) ≤ ((a58 118).getD x3.toNatClampNeg 0).toInt ∧ ((a58 118).getD x3.toNatClampNeg 0).toInt ≤ 5)) ∧ ((19 ≤ x3.toInt → x3.toInt ≤ 24 → (0 : Int) ≤ ((a58 118).getD x3.toNatClampNeg 0).toInt ∧ ((a58 118).getD x3.toNatClampNeg 0).toInt ≤ 7)) := kE_ncond (p := 118) hG60.I (by decide) (j := x3) (top39 z46.1)
                    refine fo_goL mi_k177 fz177_102_5_110 [(5, .int ((a58 118).getD x3.toNatClampNeg 0)), (4, .int vg47), (0, .ref 116), (1, .int x1), (2, .int x2), (3, .int x3)] [.int 0, .ref 139, .ref 116] rfl ?_
                    refine ko_callN mi_k177.1 (pc := 110) (ls := [(5, .int ((a58 118).getD x3.toNatClampNeg 0)), (4, .int vg47), (0, .ref 116), (1, .int x1), (2, .int x2), (3, .int x3)]) (st := [.int 0, .ref 139, .ref 116]) (h := ks i58 a58 q58 r58) (i := (.invokevirtual 273, 3, 169, 0, 9, 0, 423)) (mi_k177.2 _ _ (by rfl)) (ft_invS mi_pq169 (by rfl)) (cy := mi_c169) mi_pq169 rfl (ke169_116_139 hG60.I hG60.R 0 (top3 ktop0)) (by decide) ?_
                    intro ig64 ag64 qg64 rg64 kg64 hg64
                    have hGg64 := kG_call hG60 kg64 (by decide +kernel)
                    obtain ⟨hg64, og64⟩ := hg64
                    have q65 : ag64 118 = a58 139 := og64
                    refine ft_goS mi_k177 1 115 [.int ((a58 118).getD x3.toNatClampNeg 0)] (by rfl) ?_
                    exact ft_ret mi_k177 (by rfl) (hP ((a58 118).getD x3.toNatClampNeg 0) _ _ _ _ hGg64 ⟨trivial, ⟨(show ag64 118 = a 118 from (by first | rfl | (simp only [q65, hL58.fa 139 rfl, q54, kg50.fa 118 rfl, sMn, sMx]; done) | (simp only [q65, hL58.fa 139 rfl, q54, kg50.fa 118 rfl, sMn, sMx]; rfl))), (rTop_go (rok (top41 z2.1 z2.2 z4.1 z4.2 z46.1 z46.2 ktop0 ktop20)) og47 (top5 c49 ktop0) og50 ⟨fun h => absurd h (top42 z46.1), fun _ => gT_pu tG61⟩)⟩⟩)
                  ·
                    have c66 : x3.toInt = ((-1) : Int32).toInt := kd_neF c; clear c
                    exact (top44 c66 z46.1 ktopm1).elim
                ·
                  have c67 : l5_58.toInt < x2.toInt := kd_leF c; clear c
                  refine ft_goS mi_k177 1 67 [.int l5_58] (by rfl) ?_
                  refine ft_ifS mi_k177 (decide (l5_58 ≤ 0)) 74 70 [] (by rfl) (fun c => ?_) (fun c => ?_)
                  ·
                    have c68 : l5_58.toInt ≤ (0 : Int32).toInt := kd_le c; clear c
                    refine ft_goS mi_k177 1 75 [.ref 116] (by rfl) ?_
                    have hG69 := kG_call hGg52 hL58 (by decide +kernel)
                    refine ko_callN mi_k177.1 (pc := 75) (ls := [(5, .int l5_58), (4, .int vg47), (0, .ref 116), (1, .int x1), (2, .int x2), (3, .int x3)]) (st := [.ref 116]) (h := ks i58 a58 q58 r58) (i := (.invokevirtual 270, 3, 170, 0, 9, 0, 414)) (mi_k177.2 _ _ (by rfl)) (ft_invS mi_pq170 (by rfl)) (cy := mi_c170) mi_pq170 rfl (kg170_116 hL58.I hL58.R (kCode_of (i1 := i58) hE_code (hG69.fi 7432 rfl) (hG69.fa 120 rfl) (hG69.fa 121 rfl) (hG69.fa 122 rfl) (hG69.fa 123 rfl))) (by decide) ?_
                    intro ig70 ag70 qg70 rg70 kg70 hg70
                    have hGg70 := kG_call hL58 kg70 (by decide +kernel)
                    obtain ⟨hg70, og70⟩ := hg70
                    have oG71 := og70
                    have hG72 := kG_call hGg52 hL58 (by decide +kernel)
                    rw [(gKn_fr hG72 (by decide +kernel) : gKn i58 a58 = gKn i a), (O58_0 : gT i58 a58 = gDay (gKn i a) (ag50 142) (ig50 7469).toInt.toNat (gR i a) l5_58.toInt.toNat)] at oG71
                    rw [(((hL58.fa 142 rfl).trans (kg52.fa 142 rfl)) : a58 142 = ag50 142), (((hL58.fi 7469 rfl).trans (kg52.fi 7469 rfl)) : i58 7469 = ig50 7469)] at oG71
                    have tG73 : gT ig70 ag70 = gAt (gKn i a) (ag50 142) (gDay (gKn i a) (ag50 142) (ig50 7469).toInt.toNat (gR i a) l5_58.toInt.toNat) (ig50 7469).toInt.toNat := oG71.1
                    have s74 : (l5_58 + 1).toInt = l5_58.toInt + (1 : Int32).toInt := kd_add (top8 p58_0 ktop1) (top9 c68 ktop0 ktop1)
                    first | refine fo_goL mi_k177 fz177_56_2_59 [(5, .int (l5_58 + 1)), (4, .int vg47), (0, .ref 116), (1, .int x1), (2, .int x2), (3, .int x3)] [] (by rfl) ?_ | refine fo_goL mi_k177 fz177_78_2_59 [(5, .int (l5_58 + 1)), (4, .int vg47), (0, .ref 116), (1, .int x1), (2, .int x2), (3, .int x3)] [] (by rfl) ?_
                    exact ih58 _ _ _ _ _ hGg70 (top10 p58_0 s74 ktop1) (top11 c67 s74 ktop1) (gT_c tG73 (gDay_one rfl (top13 c68 p58_0 ktop0) (top12 s74 ktop1)).symm) (kj_meas (top14 s74 ktop1) (top15 c67) hm58)
                  ·
                    have c75 : (0 : Int32).toInt < l5_58.toInt := kd_leF c; clear c
                    refine ft_goS mi_k177 1 71 [.ref 116] (by rfl) ?_
                    refine ko_callN mi_k177.1 (pc := 71) (ls := [(5, .int l5_58), (4, .int vg47), (0, .ref 116), (1, .int x1), (2, .int x2), (3, .int x3)]) (st := [.ref 116]) (h := ks i58 a58 q58 r58) (i := (.invokevirtual 282, 3, 167, 0, 9, 0, 426)) (mi_k177.2 _ _ (by rfl)) (ft_invS mi_pq167 (by rfl)) (cy := mi_c167) mi_pq167 rfl (ke167_116 hL58.I hL58.R ) (by decide) ?_
                    intro ig76 ag76 qg76 rg76 kg76 hg76
                    have hGg76 := kG_call hL58 kg76 (by decide +kernel)
                    obtain ⟨hg76, og76⟩ := hg76
                    have tG77 : gT ig76 ag76 = gEve (gDay (gKn i a) (ag50 142) (ig50 7469).toInt.toNat (gR i a) l5_58.toInt.toNat) := (gT_eve O58_0 og76 (kg76.fi 7464 rfl) (kg76.fi 7465 rfl) (kg76.fi 7466 rfl) (kg76.fi 7467 rfl) (kg76.fa 141 rfl))
                    have q78 : ag76 118 = sEnds (a58 118) := og76
                    refine ft_goS mi_k177 1 75 [.ref 116] (by rfl) ?_
                    have hG79 := kG_call hGg52 hGg76 (by decide +kernel)
                    refine ko_callN mi_k177.1 (pc := 75) (ls := [(5, .int l5_58), (4, .int vg47), (0, .ref 116), (1, .int x1), (2, .int x2), (3, .int x3)]) (st := [.ref 116]) (h := ks ig76 ag76 qg76 rg76) (i := (.invokevirtual 270, 3, 170, 0, 9, 0, 414)) (mi_k177.2 _ _ (by rfl)) (ft_invS mi_pq170 (by rfl)) (cy := mi_c170) mi_pq170 rfl (kg170_116 hGg76.I hGg76.R (kCode_of (i1 := ig76) hE_code (hG79.fi 7432 rfl) (hG79.fa 120 rfl) (hG79.fa 121 rfl) (hG79.fa 122 rfl) (hG79.fa 123 rfl))) (by decide) ?_
                    intro ig80 ag80 qg80 rg80 kg80 hg80
                    have hGg80 := kG_call hGg76 kg80 (by decide +kernel)
                    obtain ⟨hg80, og80⟩ := hg80
                    have oG81 := og80
                    have hG82 := kG_call hGg52 hGg76 (by decide +kernel)
                    rw [(gKn_fr hG82 (by decide +kernel) : gKn ig76 ag76 = gKn i a), (tG77 : gT ig76 ag76 = gEve (gDay (gKn i a) (ag50 142) (ig50 7469).toInt.toNat (gR i a) l5_58.toInt.toNat))] at oG81
                    rw [((((kg76.fa 142 rfl).trans (hL58.fa 142 rfl)).trans (kg52.fa 142 rfl)) : ag76 142 = ag50 142), ((((kg76.fi 7469 rfl).trans (hL58.fi 7469 rfl)).trans (kg52.fi 7469 rfl)) : ig76 7469 = ig50 7469)] at oG81
                    have tG83 : gT ig80 ag80 = gAt (gKn i a) (ag50 142) (gEve (gDay (gKn i a) (ag50 142) (ig50 7469).toInt.toNat (gR i a) l5_58.toInt.toNat)) (ig50 7469).toInt.toNat := oG81.1
                    have s84 : (l5_58 + 1).toInt = l5_58.toInt + (1 : Int32).toInt := kd_add (top32 c75 ktop0 ktop1) (top33 c67 z4.2 ktop20 ktop1)
                    first | refine fo_goL mi_k177 fz177_56_2_59 [(5, .int (l5_58 + 1)), (4, .int vg47), (0, .ref 116), (1, .int x1), (2, .int x2), (3, .int x3)] [] (by rfl) ?_ | refine fo_goL mi_k177 fz177_78_2_59 [(5, .int (l5_58 + 1)), (4, .int vg47), (0, .ref 116), (1, .int x1), (2, .int x2), (3, .int x3)] [] (by rfl) ?_
                    exact ih58 _ _ _ _ _ hGg80 (top34 c75 s84 ktop0 ktop1) (top11 c67 s84 ktop1) (gT_c tG83 (gDay_more rfl (top35 c75 ktop0) (top12 s84 ktop1)).symm) (kj_meas (top14 s84 ktop1) (top15 c67) hm58)
            exact lp58 _ _ _ _ _ _ (kG_self _ hGg52.I hGg52.R) (top36 ktop0) (top37 z4.1 ktop0) (gT_c tG53 (gDay_0 ktop0)) (Nat.lt_succ_self _)
          ·
            have c85 : vg47.toInt < (0 : Int32).toInt := kd_leF c; clear c
            refine ft_goS mi_k177 1 46 [.int vg47] (by rfl) ?_
            exact ft_ret mi_k177 (by rfl) (hP vg47 _ _ _ _ hG ⟨trivial, ⟨(show a 118 = a 118 from rfl), (rTop_bar (rok (top41 z2.1 z2.2 z4.1 z4.2 z46.1 z46.2 ktop0 ktop20)) og47 (top38 c85 ktop0))⟩⟩)
        ·
          subst eg45
          have z86 : ¬ (((0 : Int) ≤ x3.toInt) ∧ (x3.toInt < (i 7424).toInt)) := hg45
          first | refine fo_goS mi_k177 fz177_4_2_31 [.int (-1)] (by rfl) ?_ | refine fo_goS mi_k177 fz177_14_2_31 [.int (-1)] (by rfl) ?_ | refine fo_goS mi_k177 fz177_27_2_31 [.int (-1)] (by rfl) ?_
          exact ft_ret mi_k177 (by rfl) (hP (-1) _ _ _ _ hG ⟨trivial, ⟨(show a 118 = a 118 from rfl), (Or.inl ⟨(top45 c44 z86 ktopm1), rfl⟩)⟩⟩)
    ·
      subst eg3
      have z87 : ¬ (((0 : Int32).toInt ≤ x2.toInt) ∧ (x2.toInt ≤ (20 : Int32).toInt)) := hg3
      first | refine fo_goS mi_k177 fz177_4_2_31 [.int (-1)] (by rfl) ?_ | refine fo_goS mi_k177 fz177_14_2_31 [.int (-1)] (by rfl) ?_ | refine fo_goS mi_k177 fz177_27_2_31 [.int (-1)] (by rfl) ?_
      exact ft_ret mi_k177 (by rfl) (hP (-1) _ _ _ _ hG ⟨trivial, ⟨(show a 118 = a 118 from rfl), (Or.inl ⟨(top46 z87 ktop0 ktop20), rfl⟩)⟩⟩)
  ·
    subst eg1
    have z88 : ¬ (((0 : Int) ≤ x1.toInt) ∧ (x1.toInt ≤ 5)) := hg1
    first | refine fo_goS mi_k177 fz177_4_2_31 [.int (-1)] (by rfl) ?_ | refine fo_goS mi_k177 fz177_14_2_31 [.int (-1)] (by rfl) ?_ | refine fo_goS mi_k177 fz177_27_2_31 [.int (-1)] (by rfl) ?_
    exact ft_ret mi_k177 (by rfl) (hP (-1) _ _ _ _ hG ⟨trivial, ⟨(show a 118 = a 118 from rfl), (Or.inl ⟨(top47 z88), rfl⟩)⟩⟩)
noncomputable def ygw172_116 : kW := ([7464, 7465, 7466, 7467], [118, 128, 129, 139, 141, 143, 144, 145], [], [])
set_option maxRecDepth 100000 in
theorem kg172_116 {i : Nat → Int32} {a : Nat → List Int32} {q : Nat → List Int64} {r : Nat → Nat} (hI : kI i a q) (hr : kr r) (x1 : Int32) (hp0 : ((0 : Int) ≤ x1.toInt) ∧ (x1.toInt ≤ 7)) (hE_code : kCode i a) : km 13 172 [.ref 116, .int x1] (ks i a q r) (kVI ygw172_116 i a q r (fun v i1 a1 q1 r1 => (True) ∧ (a1 118 = a 118 ∧ (v = (gAt (gKn i a) (a 142) (gR i a) (i 7469).toInt.toNat).1.getD x1.toNatClampNeg 0 ∧ a1 141 = (gAt (gKn i a) (a 142) (gR i a) (i 7469).toInt.toNat).2.2.2.2.2)))) := by
  have hG := kG_self ygw172_116 hI hr
  refine km_ofI (q := (mi_h172, mi_c172)) rfl (by decide) (Nat.le_of_ble_eq_true rfl) ?_
  intro P hP
  refine ft_goL mi_k172 1 1 [(0, .ref 116), (1, .int x1)] [.ref 116] (by rfl) ?_
  refine ko_callN mi_k172.1 (pc := 1) (ls := [(0, .ref 116), (1, .int x1)]) (st := [.ref 116]) (h := ks i a q r) (i := (.invokevirtual 267, 3, 171, 0, 9, 0, 412)) (mi_k172.2 _ _ (by rfl)) (ft_invS mi_pq171 (by rfl)) (cy := mi_c171) mi_pq171 rfl (kg171_116 hG.I hG.R ) (by decide) ?_
  intro ig1 ag1 qg1 rg1 kg1 hg1
  have hGg1 := kG_call hG kg1 (by decide +kernel)
  obtain ⟨hg1, og1⟩ := hg1
  have tG2 : gT ig1 ag1 = gR i a := (gT_R (og1.2.1.trans rfl) (kg1.fi 7464 rfl) (kg1.fi 7465 rfl) (kg1.fi 7466 rfl) og1.2.2.1 og1.2.2.2)
  have q3 : ag1 139 = a 118 := og1.1
  have q4 : ag1 118 = a 118 := og1.2.1
  have q5 : ig1 7467 = 0 := og1.2.2.1
  have q6 : ag1 141 = List.replicate 64 0 := og1.2.2.2
  refine ft_goS mi_k172 1 5 [.ref 116] (by rfl) ?_
  refine ko_callN mi_k172.1 (pc := 5) (ls := [(0, .ref 116), (1, .int x1)]) (st := [.ref 116]) (h := ks ig1 ag1 qg1 rg1) (i := (.invokevirtual 270, 3, 170, 0, 9, 0, 414)) (mi_k172.2 _ _ (by rfl)) (ft_invS mi_pq170 (by rfl)) (cy := mi_c170) mi_pq170 rfl (kg170_116 hGg1.I hGg1.R (kCode_of (i1 := ig1) hE_code (hGg1.fi 7432 rfl) (hGg1.fa 120 rfl) (hGg1.fa 121 rfl) (hGg1.fa 122 rfl) (hGg1.fa 123 rfl))) (by decide) ?_
  intro ig7 ag7 qg7 rg7 kg7 hg7
  have hGg7 := kG_call hGg1 kg7 (by decide +kernel)
  obtain ⟨hg7, og7⟩ := hg7
  have oG8 := og7
  rw [(gKn_fr hGg1 (by decide +kernel) : gKn ig1 ag1 = gKn i a), (tG2 : gT ig1 ag1 = gR i a)] at oG8
  rw [((kg1.fa 142 rfl) : ag1 142 = a 142), ((kg1.fi 7469 rfl) : ig1 7469 = i 7469)] at oG8
  have tG9 : gT ig7 ag7 = gAt (gKn i a) (a 142) (gR i a) (i 7469).toInt.toNat := oG8.1
  refine fo_goS mi_k172 fz172_8_3_13 [.int x1, .ref 118] rfl ?_
  refine ko_iald3 mi_k172.1 (n := 31) (c := 31) (ax := (0, 0, 0, 0, 0)) (mi_k172.2 _ _ (by rfl)) (by rfl) (ksG118 _ _ _ _) (hGg7.I.2.1 118) rfl (top39 hp0.1) (top54 hp0.2) ?_
  have r10 : ((x1.toInt = 18 → (0 : Int) ≤ ((ag7 118).getD x1.toNatClampNeg 0).toInt ∧ ((ag7 118).getD x1.toNatClampNeg 0).toInt ≤ 5)) ∧ ((19 ≤ x1.toInt → x1.toInt ≤ 24 → (0 : Int) ≤ ((ag7 118).getD x1.toNatClampNeg 0).toInt ∧ ((ag7 118).getD x1.toNatClampNeg 0).toInt ≤ 7)) := kE_ncond (p := 118) hGg7.I (by decide) (j := x1) (top39 hp0.1)
  refine fo_goL mi_k172 fz172_14_5_21 [(2, .int ((ag7 118).getD x1.toNatClampNeg 0)), (0, .ref 116), (1, .int x1)] [.int 0, .ref 139, .ref 116] rfl ?_
  refine ko_callN mi_k172.1 (pc := 21) (ls := [(2, .int ((ag7 118).getD x1.toNatClampNeg 0)), (0, .ref 116), (1, .int x1)]) (st := [.int 0, .ref 139, .ref 116]) (h := ks ig7 ag7 qg7 rg7) (i := (.invokevirtual 273, 3, 169, 0, 9, 0, 423)) (mi_k172.2 _ _ (by rfl)) (ft_invS mi_pq169 (by rfl)) (cy := mi_c169) mi_pq169 rfl (ke169_116_139 hGg7.I hGg7.R 0 (top3 ktop0)) (by decide) ?_
  intro ig11 ag11 qg11 rg11 kg11 hg11
  have hGg11 := kG_call hGg7 kg11 (by decide +kernel)
  obtain ⟨hg11, og11⟩ := hg11
  have q12 : ag11 118 = ag7 139 := og11
  refine ft_goS mi_k172 1 25 [.int ((ag7 118).getD x1.toNatClampNeg 0)] (by rfl) ?_
  exact ft_ret mi_k172 (by rfl) (hP ((ag7 118).getD x1.toNatClampNeg 0) _ _ _ _ hGg11 ⟨trivial, ⟨(show ag11 118 = a 118 from (by first | rfl | (simp only [q12, kg7.fa 139 rfl, q3, sMn, sMx]; done) | (simp only [q12, kg7.fa 139 rfl, q3, sMn, sMx]; rfl))), ⟨gT_pu tG9, (show ag11 141 = ag7 141 from (kg11.fa 141 rfl)).trans (congrArg (fun z : gS => z.2.2.2.2.2) tG9)⟩⟩⟩)
noncomputable def yzw187_116 : kW := ([7464, 7465, 7466, 7467, 7469], [118, 128, 129, 139, 141, 142, 143, 144, 145], [], [])
set_option maxRecDepth 100000 in
theorem kz187_116 {i : Nat → Int32} {a : Nat → List Int32} {q : Nat → List Int64} {r : Nat → Nat} (hI : kI i a q) (hr : kr r) (x1 : Int32) (x2 : Int32) (hE_code : kCode i a) : km 15 187 [.ref 116, .int x1, .int x2] (ks i a q r) (kVI yzw187_116 i a q r (fun v i1 a1 q1 r1 => (True) ∧ (a1 118 = a 118 ∧ rTop (((0 : Int) ≤ x2.toInt) ∧ ((x2.toInt / 10) < (i 7424).toInt) ∧ ((x2.toInt % 10) < (i 7424).toInt) ∧ ((x2.toInt / 10) ≠ (x2.toInt % 10))) i a q x1 v (fun n L => fFl (gKn i a) (gR i a) x2 v n L)))) := by
  have hG := kG_self yzw187_116 hI hr
  refine km_ofI (q := (mi_h187, mi_c187)) rfl (by decide) (Nat.le_of_ble_eq_true rfl) ?_
  intro P hP
  refine ft_goL mi_k187 1 1 [(0, .ref 116), (1, .int x1), (2, .int x2)] [.int x1] (by rfl) ?_
  refine ko_callPI mi_k187.1 (pc := 1) (ls := [(0, .ref 116), (1, .int x1), (2, .int x2)]) (st := [.int x1]) (h := ks i a q r) (i := (.invokestatic 127, 3, 133, 0, 9, 0, 382)) (mi_k187.2 _ _ (by rfl)) (ft_invS mi_pq133 (by rfl)) (cy := mi_c133) mi_pq133 rfl (kc133 hG.I hG.R x1) (by decide) ?_
  intro vg1 hg1
  rcases hg1 with ⟨eg1, hg1⟩ | ⟨eg1, hg1⟩
  ·
    subst eg1
    have z2 : ((0 : Int) ≤ x1.toInt) ∧ (x1.toInt ≤ 5) := hg1
    refine ft_goS mi_k187 3 9 [.int x2, .ref 116] (by rfl) ?_
    refine ko_callPI mi_k187.1 (pc := 9) (ls := [(0, .ref 116), (1, .int x1), (2, .int x2)]) (st := [.int x2, .ref 116]) (h := ks i a q r) (i := (.invokevirtual 308, 3, 186, 0, 9, 0, 438)) (mi_k187.2 _ _ (by rfl)) (ft_invS mi_pq186 (by rfl)) (cy := mi_c186) mi_pq186 rfl (kc186_116 hG.I hG.R x2) (by decide) ?_
    intro vg3 hg3
    rcases hg3 with ⟨eg3, hg3⟩ | ⟨eg3, hg3⟩
    ·
      subst eg3
      have fi_7424 : ((0 : Int) ≤ (i 7424).toInt) ∧ ((i 7424).toInt ≤ 8) := hG.I.1 7424
      have z4 : ((0 : Int) ≤ x2.toInt) ∧ (((x2.toInt / 10) < (i 7424).toInt) ∧ ((x2.toInt % 10) < (i 7424).toInt)) ∧ ((x2.toInt / 10) ≠ (x2.toInt % 10)) := hg3
      refine ft_goS mi_k187 3 19 [.int x1, .ref 116] (by rfl) ?_
      refine ko_callPI mi_k187.1 (pc := 19) (ls := [(0, .ref 116), (1, .int x1), (2, .int x2)]) (st := [.int x1, .ref 116]) (h := ks i a q r) (i := (.invokevirtual 276, 3, 173, 0, 9, 0, 410)) (mi_k187.2 _ _ (by rfl)) (ft_invS mi_pq173 (by rfl)) (cy := mi_c173) mi_pq173 rfl (kg173_116 hG.I hG.R x1 (top0 z2.1 z2.2)) (by decide) ?_
      intro vg5 hg5
      obtain ⟨hg5, og5⟩ := hg5
      refine ft_goL mi_k187 2 24 [(3, .int vg5), (0, .ref 116), (1, .int x1), (2, .int x2)] [.int vg5] (by rfl) ?_
      refine ft_ifS mi_k187 (decide (0 ≤ vg5)) 29 27 [] (by rfl) (fun c => ?_) (fun c => ?_)
      ·
        have c7 : (0 : Int32).toInt ≤ vg5.toInt := kd_le c; clear c
        refine ft_goS mi_k187 2 31 [.int x1, .ref 116] (by rfl) ?_
        refine ko_callN mi_k187.1 (pc := 31) (ls := [(3, .int vg5), (0, .ref 116), (1, .int x1), (2, .int x2)]) (st := [.int x1, .ref 116]) (h := ks i a q r) (i := (.invokevirtual 279, 3, 174, 0, 9, 0, 411)) (mi_k187.2 _ _ (by rfl)) (ft_invS mi_pq174 (by rfl)) (cy := mi_c174) mi_pq174 rfl (kg174_116 hG.I hG.R x1 (top0 z2.1 z2.2)) (by decide) ?_
        intro ig8 ag8 qg8 rg8 kg8 hg8
        have hGg8 := kG_call hG kg8 (by decide +kernel)
        obtain ⟨hg8, og8⟩ := hg8
        refine ft_goS mi_k187 2 36 [.int 0, .ref 116] (by rfl) ?_
        refine ko_callI mi_k187.1 (pc := 36) (ls := [(3, .int vg5), (0, .ref 116), (1, .int x1), (2, .int x2)]) (st := [.int 0, .ref 116]) (h := ks ig8 ag8 qg8 rg8) (i := (.invokevirtual 288, 3, 172, 0, 9, 0, 429)) (mi_k187.2 _ _ (by rfl)) (ft_invS mi_pq172 (by rfl)) (cy := mi_c172) mi_pq172 rfl (kg172_116 hGg8.I hGg8.R 0 (top55 ktop0) (kCode_of (i1 := ig8) hE_code (hGg8.fi 7432 rfl) (hGg8.fa 120 rfl) (hGg8.fa 121 rfl) (hGg8.fa 122 rfl) (hGg8.fa 123 rfl))) (by decide) ?_
        intro vg10 ig10 ag10 qg10 rg10 kg10 hg10
        have hGg10 := kG_call hGg8 kg10 (by decide +kernel)
        obtain ⟨hg10, og10⟩ := hg10
        have oP11 := og10.2
        rw [(gKn_fr hGg8 (by decide +kernel) : gKn ig8 ag8 = gKn i a), (gR_eq (kg8.fa 118 rfl) (kg8.fi 7464 rfl) (kg8.fi 7465 rfl) (kg8.fi 7466 rfl) : gR ig8 ag8 = gR i a)] at oP11
        have q12 : ag10 118 = ag8 118 := og10.1
        have s13 : (x2 / 10).toInt = (x2.toInt / 10) := kd_div 10 ktop10 (by decide) (top39 z4.1)
        have s14 : (8 * (x2 / 10)).toInt = 8 * (x2 / 10).toInt := kd_cmul 8 ktop8 (top56 s13 z4.1) (top57 fi_7424.2 s13 z4.2.1.1 z4.2.1.2 z4.2.2)
        have s15 : (x2 - x2 / 10 * 10).toInt = (x2.toInt % 10) := kd_rem 10 ktop10 (by decide) (top39 z4.1)
        have s16 : ((8 * (x2 / 10)) + (x2 - x2 / 10 * 10)).toInt = (8 * (x2 / 10)).toInt + (x2 - x2 / 10 * 10).toInt := kd_add (top58 s13 s14 s15 z4.1) (top59 fi_7424.2 s13 s14 s15 z4.2.1.1 z4.2.1.2 z4.2.2)
        refine fo_goS mi_k187 fz187_39_12_56 [.int ((8 * (x2 / 10)) + (x2 - x2 / 10 * 10)), .ref 141] rfl ?_
        refine ko_iald3 mi_k187.1 (n := 64) (c := 64) (ax := (0, 0, 0, 0, 0)) (mi_k187.2 _ _ (by rfl)) (by rfl) (ksG141 _ _ _ _) (hGg10.I.2.1 141) rfl (top60 s13 s14 s15 s16 z4.1) (top61 fi_7424.2 s13 s14 s15 s16 z4.2.1.1 z4.2.1.2 z4.2.2) ?_
        exact ft_ret mi_k187 (by rfl) (hP ((ag10 141).getD ((8 * (x2 / 10)) + (x2 - x2 / 10 * 10)).toNatClampNeg 0) _ _ _ _ hGg10 ⟨trivial, ⟨(show ag10 118 = a 118 from (by first | rfl | (simp only [q12, kg8.fa 118 rfl, sMn, sMx]; done) | (simp only [q12, kg8.fa 118 rfl, sMn, sMx]; rfl))), (rTop_go (rok (top62 z2.1 z2.2 z4.1 z4.2.1.1 z4.2.1.2 z4.2.2)) og5 (top5 c7 ktop0) og8 ((congrArg (fun z : List Int32 => z.getD ((8 * (x2 / 10)) + (x2 - x2 / 10 * 10)).toNatClampNeg 0) oP11.2).trans rfl))⟩⟩)
      ·
        have c17 : vg5.toInt < (0 : Int32).toInt := kd_leF c; clear c
        refine ft_goS mi_k187 1 28 [.int vg5] (by rfl) ?_
        exact ft_ret mi_k187 (by rfl) (hP vg5 _ _ _ _ hG ⟨trivial, ⟨(show a 118 = a 118 from rfl), (rTop_bar (rok (top62 z2.1 z2.2 z4.1 z4.2.1.1 z4.2.1.2 z4.2.2)) og5 (top38 c17 ktop0))⟩⟩)
    ·
      subst eg3
      have z18 : ¬ (((0 : Int) ≤ x2.toInt) ∧ (((x2.toInt / 10) < (i 7424).toInt) ∧ ((x2.toInt % 10) < (i 7424).toInt)) ∧ ((x2.toInt / 10) ≠ (x2.toInt % 10))) := hg3
      first | refine ft_goS mi_k187 2 16 [.int (-1)] (by rfl) ?_
      exact ft_ret mi_k187 (by rfl) (hP (-1) _ _ _ _ hG ⟨trivial, ⟨(show a 118 = a 118 from rfl), (Or.inl ⟨(top63 z18), rfl⟩)⟩⟩)
  ·
    subst eg1
    have z19 : ¬ (((0 : Int) ≤ x1.toInt) ∧ (x1.toInt ≤ 5)) := hg1
    first | refine ft_goS mi_k187 2 16 [.int (-1)] (by rfl) ?_
    exact ft_ret mi_k187 (by rfl) (hP (-1) _ _ _ _ hG ⟨trivial, ⟨(show a 118 = a 118 from rfl), (Or.inl ⟨(top64 z19), rfl⟩)⟩⟩)
end
section
/-! THE BEST OF MANY ROWS: rows as functions; one comes in once more, is changed for another; the best of some -/
noncomputable def gAtF (K : gK) (R : Nat → Int32) (S : gS) : Nat → gS
  | 0 => S
  | k + 1 => gIn K (R k) (gAtF K R S k)
noncomputable def kIs (L : List Int32) (R : Nat → Int32) (n : Int) : Prop := ∀ j : Nat, (j : Int) < n → L.getD j 0 = R j
noncomputable def rIns (R : Nat → Int32) (x : Int32) (p : Nat) (j : Nat) : Int32 := if j < p then R j else if j = p then x else R (j - 1)
noncomputable def rSwp (R : Nat → Int32) (p : Nat) (j : Nat) : Int32 := if j = p then R (p + 1) else if j = p + 1 then R p else R j
noncomputable def gN0 (N : List Int32) : gS := (N, 8, 0, 0, 0, List.replicate 64 0)
/-- what x has behind n comings -/
noncomputable def gPur (K : gK) (N : List Int32) (R : Nat → Int32) (n : Nat) (x : Int32) : Int32 := (gAtF K R (gN0 N) n).1.getD x.toNatClampNeg 0
/-- the most of f 0 .. f (k - 1), above m; which of them, else w -/
noncomputable def gBst (f : Nat → Int32) (m : Int32) (w : Int) : Nat → Int32 × Int
  | 0 => (m, w)
  | k + 1 => if (gBst f m w k).1.toInt < (f k).toInt then (f k, (k : Int)) else gBst f m w k
section BST
variable {K : gK} {L L1 N : List Int32} {R R1 : Nat → Int32} {S : gS} {x : Int32}
theorem gAtF_row {n : Int} (h : kIs L R n) : ∀ k : Nat, (k : Int) ≤ n → gAt K L S k = gAtF K R S k
  | 0, _ => rfl
  | k + 1, hk => by
    show gIn K (L.getD k 0) (gAt K L S k) = gIn K (R k) (gAtF K R S k)
    rw [h k (by omega), gAtF_row h k (by omega)]
theorem gAtF_eq {n : Nat} (h : ∀ j : Nat, j < n → R j = R1 j) : ∀ k : Nat, k ≤ n → gAtF K R S k = gAtF K R1 S k
  | 0, _ => rfl
  | k + 1, hk => by
    show gIn K (R k) (gAtF K R S k) = gIn K (R1 k) (gAtF K R1 S k)
    rw [h k (by omega), gAtF_eq h k (by omega)]
theorem gPur_of {n : Int32} {v : Int32} (h : v = (gAt K L S n.toInt.toNat).1.getD x.toNatClampNeg 0) (hS : S.1 = N) (h2 : S.2.2.2.2 = (0, List.replicate 64 0)) (hR : kIs L R n.toInt) (h0 : 0 ≤ n.toInt) : v = gPur K N R n.toInt.toNat x := by
  unfold gPur
  rw [h, ← gAtF_row hR n.toInt.toNat (by omega)]
  have e : gEq S (gN0 N) := ⟨hS, h2⟩
  rw [(gAt_eq (K := K) (L := L) e n.toInt.toNat).1.1]
theorem gBst_eq {f g : Nat → Int32} {m : Int32} {w : Int} : ∀ k : Nat, (∀ j : Nat, j < k → f j = g j) → gBst f m w k = gBst g m w k
  | 0, _ => rfl
  | k + 1, h => by
    have e := gBst_eq (m := m) (w := w) k (fun j hj => h j (by omega))
    unfold gBst
    rw [e, h k (by omega)]
theorem gBst_0 {f : Nat → Int32} {m : Int32} {w : Int} {k : Int32} (h : k.toInt = 0) : (m, w) = gBst f m w k.toInt.toNat := by
  rw [h]
  rfl
/-- a better one -/
theorem gBst_up {f : Nat → Int32} {m m0 v : Int32} {w0 : Int} {w1 k k1 : Int32} {w : Int} (h : (m, w) = gBst f m0 w0 k.toInt.toNat) (hv : v = f k.toInt.toNat) (hl : m.toInt < v.toInt) (h0 : 0 ≤ k.toInt) (h1 : k1.toInt = k.toInt + 1) (hw : w1.toInt = k.toInt) : (v, w1.toInt) = gBst f m0 w0 k1.toInt.toNat := by
  rw [show k1.toInt.toNat = k.toInt.toNat + 1 by omega]
  unfold gBst
  rw [← h, ← hv, if_pos hl, hw]
  have e : ((k.toInt.toNat : Nat) : Int) = k.toInt := by omega
  rw [e]
theorem gBst_no {f : Nat → Int32} {m m0 v : Int32} {w0 w : Int} {k k1 : Int32} (h : (m, w) = gBst f m0 w0 k.toInt.toNat) (hv : v = f k.toInt.toNat) (hl : v.toInt ≤ m.toInt) (h0 : 0 ≤ k.toInt) (h1 : k1.toInt = k.toInt + 1) : (m, w) = gBst f m0 w0 k1.toInt.toNat := by
  rw [show k1.toInt.toNat = k.toInt.toNat + 1 by omega]
  unfold gBst
  have q : ¬ (m.toInt < v.toInt) := by omega
  rw [← h, ← hv, if_neg q]
theorem kT2m {m m1 : Int32} {w w1 : Int} {R : Int32 × Int} (h : (m, w) = R) (e : m1 = m) (ew : w1 = w) : (m1, w1) = R := by subst e; subst ew; exact h
theorem gBst_len {f : Nat → Int32} {m : Int32} {w : Int} {k : Int32} {n : Nat} {X : Int32 × Int} (h : X = gBst f m w k.toInt.toNat) (e : k.toInt = (n : Int)) : X = gBst f m w n := by
  rw [h, e]
  rfl
theorem kIs_swp {n : Int} {p p1 : Int32} {m : Nat} (h : kIs L R n) (lL : L.length = m) (h0 : 0 ≤ p.toInt) (e1 : p1.toInt = p.toInt + 1) (hp : p1.toInt < n) (hn : n ≤ (m : Int)) (e : L1 = (L.set p.toNatClampNeg (L.getD p1.toNatClampNeg 0)).set p1.toNatClampNeg (L.getD p.toNatClampNeg 0)) : kIs L1 (rSwp R p.toInt.toNat) n := by
  have t0 := Int32.toNat_toInt p
  have t1 := Int32.toNat_toInt p1
  subst e
  intro j hj
  rw [kset_gI (by rw [List.length_set]; omega), kset_gI (by omega)]
  unfold rSwp
  by_cases c : j = p1.toNatClampNeg
  · rw [if_pos c, if_neg (by omega), if_pos (by omega), show p.toNatClampNeg = p.toInt.toNat by omega]
    exact h _ (by omega)
  · rw [if_neg c]
    by_cases c2 : j = p.toNatClampNeg
    · rw [if_pos c2, if_pos (by omega), show p1.toNatClampNeg = p.toInt.toNat + 1 by omega]
      exact h _ (by omega)
    · rw [if_neg c2, if_neg (by omega), if_neg (by omega)]
      exact h j hj
theorem rSwp_2 (p : Nat) : rSwp (rSwp R p) p = R := by
  funext j
  unfold rSwp
  by_cases c : j = p
  · subst c
    rw [if_pos rfl, if_neg (by omega), if_pos rfl]
  · rw [if_neg c]
    by_cases c2 : j = p + 1
    · subst c2
      rw [if_pos rfl, if_pos rfl]
    · rw [if_neg c2, if_neg c, if_neg c2]
theorem kIs_c {n n1 : Int} (h : kIs L R n) (e : L1 = L) (hn : n1 ≤ n) : kIs L1 R n1 := by subst e; exact fun j hj => h j (by omega)
theorem kIs_R {n : Int} (h : kIs L R n) (e : R1 = R) : kIs L R1 n := by subst e; exact h
theorem kIs_self {n : Int} : kIs L (fun j => L.getD j 0) n := fun _ _ => rfl
/-- all come from among the buyers -/
noncomputable def rOkw (R : Nat → Int32) (n : Int) (b : Int) : Prop := ∀ j : Nat, (j : Int) < n → 0 ≤ (R j).toInt ∧ (R j).toInt < b
theorem rOkw_swp {n b : Int} {p : Nat} (h : rOkw R n b) (hp : (p : Int) + 1 < n) : rOkw (rSwp R p) n b := by
  intro j hj
  unfold rSwp
  by_cases c : j = p
  · rw [if_pos c]; exact h (p + 1) (by omega)
  · rw [if_neg c]
    by_cases c2 : j = p + 1
    · rw [if_pos c2]; exact h p (by omega)
    · rw [if_neg c2]; exact h j hj
theorem kRow_is {i i1 : Nat → Int32} {a1 : Nat → List Int32} {n : Int} (h : kIs (a1 74) R n) (ho : rOkw R n (i 64).toInt) (e : (i1 3138).toInt = n) (e1 : i1 64 = i 64) : kRow i1 a1 := by
  intro j hj
  rw [h j (by omega), e1]
  exact ho j (by omega)
theorem rOkw_row {i : Nat → Int32} {a : Nat → List Int32} (h : kRow i a) : rOkw (fun j => (a 74).getD j 0) (i 3138).toInt (i 64).toInt := h
theorem rIns_eq {n : Int} {p : Nat} (h : ∀ j : Nat, (j : Int) < n → R j = R1 j) (hp : (p : Int) ≤ n) : ∀ j : Nat, (j : Int) < n + 1 → rIns R x p j = rIns R1 x p j := by
  intro j hj
  unfold rIns
  by_cases c : j < p
  · rw [if_pos c, if_pos c]; exact h j (by omega)
  · rw [if_neg c, if_neg c]
    by_cases c2 : j = p
    · rw [if_pos c2, if_pos c2]
    · rw [if_neg c2, if_neg c2]; exact h (j - 1) (by omega)
theorem rSwp_eq {n : Int} {p : Nat} (h : ∀ j : Nat, (j : Int) < n → R j = R1 j) (hp : (p : Int) + 1 < n) : ∀ j : Nat, (j : Int) < n → rSwp R p j = rSwp R1 p j := by
  intro j hj
  unfold rSwp
  by_cases c : j = p
  · rw [if_pos c, if_pos c]; exact h _ (by omega)
  · rw [if_neg c, if_neg c]
    by_cases c2 : j = p + 1
    · rw [if_pos c2, if_pos c2]; exact h _ (by omega)
    · rw [if_neg c2, if_neg c2]; exact h j hj
theorem gPur_eq {n : Nat} (h : ∀ j : Nat, j < n → R j = R1 j) : gPur K N R n x = gPur K N R1 n x := by
  unfold gPur
  rw [gAtF_eq h n (Nat.le_refl _)]
end BST
theorem kj_natle {k : Int32} {n : Int} (h0 : 0 ≤ k.toInt) (h : k.toInt ≤ n) : ((k.toInt.toNat : Nat) : Int) ≤ n := by omega
theorem kj_natlt {k : Int32} {n : Int} (h0 : 0 ≤ k.toInt) (h : k.toInt + 1 < n) : ((k.toInt.toNat : Nat) : Int) + 1 < n := by omega
theorem kj_np1 {k : Int32} {n : Int} (h : k.toInt = n + 1) (h0 : 0 ≤ n) : k.toInt = (((n + 1).toNat : Nat) : Int) := by omega
theorem kj_np {k : Int32} {n : Int} (h : k.toInt = n) (h0 : 0 ≤ n) : k.toInt = ((n.toNat : Nat) : Int) := by omega
theorem kj_nm1 {k : Int32} {n : Int} (h0 : 0 ≤ k.toInt) (h : n - 1 = k.toInt ∨ (n ≤ 0 ∧ k.toInt = 0)) : k.toInt = (((n - 1).toNat : Nat) : Int) := by omega
/-- numbers as ints of 32 bits -/
noncomputable def kOf : Nat → Int32
  | 0 => 0
  | n + 1 => kOf n + 1
theorem kOf_i : ∀ n : Nat, n ≤ 1000 → (kOf n).toInt = (n : Int)
  | 0, _ => by decide
  | n + 1, h => by
    have ih := kOf_i n (by omega)
    have k1 : (1 : Int32).toInt = 1 := by decide
    show (kOf n + 1).toInt = _
    rw [kd_add (by omega) (by omega), ih, k1]
    omega
theorem kOf_v {k : Int32} (h0 : 0 ≤ k.toInt) (h1 : k.toInt ≤ 1000) : kOf k.toInt.toNat = k := kj_v (by rw [kOf_i _ (by omega)]; omega)
theorem bh_fv {K : gK} {N : List Int32} {R : Nat → Int32} {v k x : Int32} {p n : Nat} (w : v = gPur K N (rIns R k p) n x) (h0 : 0 ≤ k.toInt) (h1 : k.toInt ≤ 1000) : v = (fun z : Nat => gPur K N (rIns R (kOf z) p) n x) k.toInt.toNat := by
  show v = gPur K N (rIns R (kOf k.toInt.toNat) p) n x
  rw [kOf_v h0 h1]
  exact w
noncomputable def vBst (w v : Int32) (B : Int32 × Int) : Prop := (w.toInt = 0 → v.toInt = B.2) ∧ (w.toInt ≠ 0 → v = B.1)
noncomputable def lF (L : List Int32) : Nat → Int32 := fun j => L.getD j 0
noncomputable def fBp (K : gK) (N : List Int32) (x2 x3 v : Int32) (n : Int) (L : List Int32) : Prop := (n = 20 → v = -5) ∧ (n < 20 → vBst x3 v (gBst (fun p => gPur K N (rIns (lF L) x2 p) (n + 1).toNat x2) (-1) 0 (n + 1).toNat))
noncomputable def fHi (K : gK) (N : List Int32) (b x2 x3 x4 v : Int32) (n : Int) (L : List Int32) : Prop := (n < x2.toInt → v = -1) ∧ (x2.toInt ≤ n → (n = 20 → v = -5) ∧ (n < 20 → vBst x4 v (gBst (fun p => gPur K N (rIns (lF L) (kOf p) x2.toInt.toNat) (n + 1).toNat x3) (-1) 0 b.toInt.toNat)))
noncomputable def fLt (K : gK) (N : List Int32) (x2 x3 v : Int32) (n : Int) (L : List Int32) : Prop := vBst x3 v (gBst (fun p => gPur K N (rSwp (lF L) p) n.toNat x2) (gPur K N (lF L) n.toNat x2) (-2) (n - 1).toNat)
theorem vBst_same {w v u : Int32} {B C : Int32 × Int} (h : vBst w v B) (g : vBst w u C) (e : B = C) : v = u := by
  subst e
  by_cases c : w.toInt = 0
  · exact kj_v ((h.1 c).trans (g.1 c).symm)
  · rw [h.2 c, g.2 c]
theorem lF_eq {L L1 : List Int32} {n : Int} (hL : ∀ j : Nat, (j : Int) < n → L.getD j 0 = L1.getD j 0) : ∀ j : Nat, (j : Int) < n → lF L j = lF L1 j := hL
theorem gBst_m {f : Nat → Int32} {m m1 : Int32} {w : Int} {k : Nat} (e : m = m1) : gBst f m w k = gBst f m1 w k := by subst e; rfl
theorem fLt_same {K : gK} {N : List Int32} {x2 x3 v u : Int32} {n : Int} {L L1 : List Int32} (h0 : 0 ≤ n) (hL : ∀ j : Nat, (j : Int) < n → L.getD j 0 = L1.getD j 0) (h : fLt K N x2 x3 v n L) (g : fLt K N x2 x3 u n L1) : v = u := by
  refine vBst_same h g ((gBst_eq _ (fun p hp => gPur_eq (fun j hj => rSwp_eq (lF_eq hL) (by omega) j (by omega)))).trans (gBst_m (gPur_eq (fun j hj => lF_eq hL j (by omega)))))
/-! the reference puts in by moving one by one, and takes out again -/
noncomputable def kPu (L0 L1 : List Int32) (k n : Int) : Prop := ∀ j : Nat, (j : Int) ≤ n → L1.getD j 0 = if k < (j : Int) then L0.getD (j - 1) 0 else L0.getD j 0
theorem kPu_0 {L0 L1 : List Int32} {k n : Int} (e : L1 = L0) (h : n ≤ k) : kPu L0 L1 k n := by subst e; exact fun j hj => by rw [if_neg (by omega)]
theorem kPu_step {L0 L1 L2 : List Int32} {k k1 y n : Int32} {m : Nat} (h : kPu L0 L1 k.toInt n.toInt) (lL : L1.length = m) (hk : 1 ≤ k.toInt) (hm : k.toInt < (m : Int)) (h1 : k1.toInt = k.toInt - 1) (hy : y.toInt = k.toInt - 1) (e : L2 = L1.set k.toNatClampNeg (L1.getD y.toNatClampNeg 0)) (hn : k.toInt ≤ n.toInt) : kPu L0 L2 k1.toInt n.toInt := by
  have t0 := Int32.toNat_toInt k
  have t1 := Int32.toNat_toInt y
  subst e
  intro j hj
  rw [kset_gI (by omega)]
  by_cases c : j = k.toNatClampNeg
  · rw [if_pos c, if_pos (by omega), h _ (by omega), if_neg (by omega), show y.toNatClampNeg = j - 1 by omega]
  · rw [if_neg c, h j hj]
    by_cases c2 : k.toInt < (j : Int)
    · rw [if_pos c2, if_pos (by omega)]
    · rw [if_neg c2, if_neg (by omega)]
theorem kPu_end {L0 L1 L2 : List Int32} {k p n x : Int32} {m : Nat} (h : kPu L0 L1 k.toInt n.toInt) (lL : L1.length = m) (hk : k.toInt = p.toInt) (h0 : 0 ≤ p.toInt) (hm : p.toInt < (m : Int)) (e : L2 = L1.set p.toNatClampNeg x) : kIs L2 (rIns (lF L0) x p.toInt.toNat) (n.toInt + 1) := by
  have t0 := Int32.toNat_toInt p
  subst e
  intro j hj
  rw [kset_gI (by omega)]
  unfold rIns lF
  by_cases c : j = p.toNatClampNeg
  · rw [if_pos c, if_neg (by omega), if_pos (by omega)]
  · rw [if_neg c, h j (by omega)]
    by_cases c2 : j < p.toInt.toNat
    · rw [if_neg (by omega), if_pos c2]
    · rw [if_pos (by omega), if_neg c2, if_neg (by omega)]
noncomputable def rDel (R : Nat → Int32) (p : Nat) (j : Nat) : Int32 := if j < p then R j else R (j + 1)
/-- behind p, ahead of k, all have gone one place on -/
noncomputable def kTa (L0 L1 : List Int32) (p k : Int) (n : Int) : Prop := ∀ j : Nat, (j : Int) ≤ n → L1.getD j 0 = if p ≤ (j : Int) ∧ (j : Int) < k then L0.getD (j + 1) 0 else L0.getD j 0
theorem kTa_0 {L0 L1 : List Int32} {p k n : Int} (e : L1 = L0) (h : k ≤ p) : kTa L0 L1 p k n := by subst e; exact fun j hj => by rw [if_neg (by omega)]
theorem kTa_step {L0 L1 L2 : List Int32} {p n : Int} {k k1 y : Int32} {m : Nat} (h : kTa L0 L1 p k.toInt n) (lL : L1.length = m) (h0 : 0 ≤ k.toInt) (hp : p ≤ k.toInt) (hm : k.toInt < (m : Int)) (hn : k.toInt + 1 ≤ n) (h1 : k1.toInt = k.toInt + 1) (hy : y.toInt = k.toInt + 1) (e : L2 = L1.set k.toNatClampNeg (L1.getD y.toNatClampNeg 0)) : kTa L0 L2 p k1.toInt n := by
  have t0 := Int32.toNat_toInt k
  have t1 := Int32.toNat_toInt y
  subst e
  intro j hj
  rw [kset_gI (by omega)]
  by_cases c : j = k.toNatClampNeg
  · rw [if_pos c, if_pos (by omega), h _ (by omega), if_neg (by omega), show y.toNatClampNeg = j + 1 by omega]
  · rw [if_neg c, h j hj]
    by_cases c2 : p ≤ (j : Int) ∧ (j : Int) < k.toInt
    · rw [if_pos c2, if_pos (by omega)]
    · rw [if_neg c2, if_neg (by omega)]
theorem kTa_end {L0 L1 : List Int32} {p : Int32} {k n : Int} (h : kTa L0 L1 p.toInt k n) (h0 : 0 ≤ p.toInt) (hk : n ≤ k) : kIs L1 (rDel (lF L0) p.toInt.toNat) n := by
  intro j hj
  rw [h j (by omega)]
  unfold rDel lF
  by_cases c : j < p.toInt.toNat
  · rw [if_pos c, if_neg (by omega)]
  · rw [if_neg c, if_pos (by omega)]
/-- put in, and taken out again -/
theorem kIs_back {L1 L2 : List Int32} {R : Nat → Int32} {x : Int32} {p : Nat} {n : Int} (h : kIs L1 (rIns R x p) (n + 1)) (g : kIs L2 (rDel (lF L1) p) n) : kIs L2 R n := by
  intro j hj
  rw [g j hj]
  unfold rDel lF
  by_cases c : j < p
  · rw [if_pos c, h j (by omega)]
    unfold rIns
    rw [if_pos c]
  · rw [if_neg c, h (j + 1) (by omega)]
    unfold rIns
    rw [if_neg (by omega), if_neg (by omega), show j + 1 - 1 = j by omega]
theorem kIs_lF {L L1 : List Int32} {R : Nat → Int32} {x : Int32} {p : Nat} {n : Int} (h : kIs L1 (rIns (lF L) x p) (n + 1)) (g : kIs L R n) (hp : (p : Int) ≤ n) : kIs L1 (rIns R x p) (n + 1) := by
  intro j hj
  rw [h j hj]
  exact rIns_eq (fun m hm => g m hm) hp j hj
theorem kIs_sw {L L1 : List Int32} {R : Nat → Int32} {p p1 : Int32} {n : Int} {m : Nat} (h : kIs L R n) (lL : L.length = m) (h0 : 0 ≤ p.toInt) (e1 : p1.toInt = p.toInt + 1) (hp : p1.toInt < n) (hn : n ≤ (m : Int)) (e : L1 = (L.set p.toNatClampNeg (L.getD p1.toNatClampNeg 0)).set p1.toNatClampNeg (L.getD p.toNatClampNeg 0)) : kIs L1 (rSwp R p.toInt.toNat) n := kIs_swp h lL h0 e1 hp hn e
end
section
theorem ktok0 : (0 : Int32).toInt = 0 := by decide
theorem ktok1 : (1 : Int32).toInt = 1 := by decide
theorem ktokm2 : ((-2) : Int32).toInt = (-2) := by decide
theorem tok3 {a0 a1 : Int} (h0 : (0 : Int) ≤ a0) (h1 : a1 = 1) : (-2147483648 : Int) ≤ a0 + a1 := oz12 h0 h1
theorem tok8 {a0 : Int} (h0 : (0 : Int) ≤ a0) : (0 : Int) ≤ a0 := oz3 h0
theorem tok9 {a0 a1 a2 : Int} (h0 : (0 : Int) ≤ a0) (h1 : a1 = a0 + a2) (h2 : a2 = 1) : (0 : Int) ≤ a1 := oz14 h0 h1 h2
theorem tok16 {a0 : Int} (h0 : a0 = 0) : (0 : Int) ≤ a0 := oz46 h0
theorem tok43 {a0 a1 : Int} (h0 : (0 : Int) ≤ a0) (h1 : a0 < a1) : ((0 : Int) ≤ a0) ∧ (a0 < a1) := oz967 h0 h1
theorem tok63 {a0 a1 a2 a3 : Int} (h0 : a0 < a1) (h1 : a1 = a2) (h2 : a2 = a3) : a0 < a3 := ox20 h0 h1 h2
theorem tok66 {a0 a1 a2 a3 : Int} (h0 : a0 = a1) (h1 : a2 = a0) (h2 : a1 = a3) : a2 = a3 := ox22 h0 h1 h2
theorem tok67 {a0 a1 a2 : Int} (h0 : a0 = a1 + a2) (h1 : a2 = 1) : a0 = a1 + 1 := oz169 h0 h1
theorem tok70 {a0 a1 : Int} (h0 : a0 = a1) : a0 = a1 := oz719 h0
theorem tok77 {a0 : Int}  : a0 = a0 := oz34
theorem tok81 {a0 : Int} (h0 : a0 ≤ 19) : a0 < 20 := oz1065 h0
theorem tok83 {a0 a1 a2 a3 : Int} (h0 : a0 < a1) (h1 : a1 ≤ 20) (h2 : (0 : Int) ≤ a2) (h3 : a0 = a2 + a3) (h4 : a3 = 1) : ((0 : Int) ≤ a0) ∧ (a0 ≤ 19) := oz1067 h0 h1 h2 h3 h4
theorem tok94 {a0 a1 a2 a3 a4 : Int} (h0 : a0 < a1) (h1 : a1 = a2) (h2 : a2 = a3) (h3 : a3 ≤ 8) (h4 : a4 = 1) : a0 + a4 ≤ 2147483647 := by omega
theorem tok95 {a0 a1 a2 a3 : Int} (h0 : a0 < a1) (h1 : a1 = a2) (h2 : a2 = a3) (h3 : a3 ≤ 8) : a0 ≤ 1000 := by omega
theorem tok98 {a0 a1 a2 : Int} (h0 : a0 ≤ 20) (h1 : (a1 = 0) ∨ ((a1 + 1) ≤ a0)) (h2 : a2 = 1) : a1 + a2 ≤ 2147483647 := by omega
theorem tok99 {a0 a1 a2 a3 a4 a5 : Int} (h0 : a0 ≤ a1) (h1 : a0 = a2) (h2 : a2 = a3) (h3 : (0 : Int) ≤ a4) (h4 : (a4 = 0) ∨ ((a4 + 1) ≤ a3)) (h5 : a1 = a4 + a5) (h6 : a5 = 1) : a3 - 1 = a4 ∨ (a3 ≤ 0 ∧ a4 = 0) := by omega
theorem tok100 {a0 a1 a2 a3 a4 a5 : Int} (h0 : a0 < a1) (h1 : a1 = a2) (h2 : a2 = a3) (h3 : a3 ≤ 20) (h4 : (0 : Int) ≤ a4) (h5 : a0 = a4 + a5) (h6 : a5 = 1) : ((0 : Int) ≤ a4) ∧ (a4 ≤ 19) := by omega
theorem tok101 {a0 : Int} (h0 : a0 ≤ 20) : a0 ≤ ((20 : Nat) : Int) := by omega
theorem tok102 {a0 a1 a2 a3 a4 a5 : Int} (h0 : a0 < a1) (h1 : a1 = a2) (h2 : a2 = a3) (h3 : a0 = a4 + a5) (h4 : a5 = 1) : a4 + 1 < a3 := by omega
theorem tok103 {a0 a1 a2 a3 a4 : Int} (h0 : a0 = a1) (h1 : a2 = a0) (h2 : a1 = a3) (h3 : (0 : Int) ≤ a4) (h4 : a4 < a3) : ((0 : Int) ≤ a4) ∧ (a4 < a2) := by omega
theorem tok104 {a0 a1 a2 a3 : Int} (h0 : a0 < a1) (h1 : a1 = a2) (h2 : a2 = a3) : (a0 = 0) ∨ ((a0 + 1) ≤ a3) := by omega
theorem tok105 {a0 a1 a2 a3 a4 a5 : Int} (h0 : a0 = a1) (h1 : a2 = a0) (h2 : a3 = a2) (h3 : a4 = a3) (h4 : a1 = a5) : a4 = a5 := by omega
theorem tok106 {a0 a1 a2 a3 a4 : Int} (h0 : a0 ≤ a1) (h1 : a2 = a3) (h2 : a4 = a2) (h3 : a1 = a4) : a0 ≤ a3 := by omega
theorem tok107 {a0 a1 a2 a3 : Int} (h0 : a0 = a1) (h1 : a2 = a0) (h2 : a3 = a2) : a3 = a1 := oz773 h0 h1 h2
theorem tok108 {a0 a1 a2 a3 a4 a5 a6 : Int} (h0 : a0 = a1) (h1 : a2 = a0) (h2 : a3 = a2) (h3 : a4 = a5 + a6) (h4 : a6 = 1) : (a3 - a4) < (a1 - a5) := oz445 h0 h1 h2 h3 h4
theorem tok109 {a0 a1 a2 a3 : Int} (h0 : a0 < a1) (h1 : a0 = a2 + a3) (h2 : a3 = 1) : (1 : Int) ≤ (a1 - a2) := oz455 h0 h1 h2
theorem tok110 {a0 a1 a2 a3 a4 : Int} (h0 : a0 < a1) (h1 : a2 = a3) (h2 : a4 = a2) (h3 : a0 = a4) : a3 < a1 := by omega
theorem tok111 {a0 a1 : Int} (h0 : a0 = 0) : (a0 = 0) ∨ ((a0 + 1) ≤ a1) := by omega
theorem tok184 {a0 a1 a2 : Int} (h0 : a0 = a1) (h1 : (0 : Int) ≤ a2) (h2 : a2 < a1) : ((0 : Int) ≤ a2) ∧ (a2 < a0) := tou29 h0 h1 h2
theorem tok186 {a0 a1 : Int} (h0 : a0 ≤ a1) (h1 : a0 = 0) : ¬ (a1 < 0) := oy47 h0 h1
theorem tok187 {a0 a1 a2 a3 a4 : Int} (h0 : (0 : Int) ≤ a0) (h1 : a0 < a1) (h2 : a2 ≤ a3) (h3 : a3 ≤ a4) (h4 : a2 = 0) (h5 : a4 = 1) : ((0 : Int) ≤ a0) ∧ (a0 < a1) ∧ ((0 : Int) ≤ a3) ∧ (a3 ≤ 1) := by omega
theorem tok189 {a0 a1 : Int} (h0 : a0 ≠ a1) (h1 : a1 ≤ a0) (h2 : a1 = 0) : ¬ (a0 = 0) := toy121 h0 h1 h2
theorem tok192 {a0 a1 : Int} (h0 : a0 = a1) (h1 : a1 ≤ a0) (h2 : a1 = 0) : ¬ (a0 ≠ 0) := by omega
theorem tok194 {a0 a1 : Int} (h0 : a0 < a1) (h1 : a1 = 0) : a0 < 0 := oz1670 h0 h1
theorem tok195 {a0 a1 a2 a3 a4 : Int} (h0 : ¬ ((a0 ≤ a1) ∧ (a1 ≤ a2))) (h1 : a0 = 0) (h2 : a2 = 1) : ¬ (((0 : Int) ≤ a3) ∧ (a3 < a4) ∧ ((0 : Int) ≤ a1) ∧ (a1 ≤ 1)) := by omega
theorem tok196 {a0 a1 a2 : Int} (h0 : ¬ (((0 : Int) ≤ a0) ∧ (a0 < a1))) : ¬ (((0 : Int) ≤ a0) ∧ (a0 < a1) ∧ ((0 : Int) ≤ a2) ∧ (a2 ≤ 1)) := by omega
noncomputable def yw64_49 : kW := ([], [74], [], [])
set_option maxRecDepth 100000 in
theorem ke64_49 {i : Nat → Int32} {a : Nat → List Int32} {q : Nat → List Int64} {r : Nat → Nat} (hI : kI i a q) (hr : kr r) (x1 : Int32) (x2 : Int32) (hp0 : ((0 : Int) ≤ x1.toInt) ∧ (x1.toInt ≤ 19)) (hp1 : ((0 : Int) ≤ x2.toInt) ∧ (x2.toInt ≤ 19)) : km 1 64 [.ref 49, .int x1, .int x2] (ks i a q r) (kVN yw64_49 i a q r (fun i1 a1 q1 r1 => (True) ∧ a1 74 = ((a 74).set x1.toNatClampNeg ((a 74).getD x2.toNatClampNeg 0)).set x2.toNatClampNeg ((a 74).getD x1.toNatClampNeg 0))) := by
  have hG := kG_self yw64_49 hI hr
  refine km_ofN (q := (mi_h64, mi_c64)) rfl (by decide) (Nat.le_of_ble_eq_true rfl) ?_
  intro P hP
  refine fo_goL mi_k64 fz64_0_3_5 [(0, .ref 49), (1, .int x1), (2, .int x2)] [.int x1, .ref 74] rfl ?_
  refine ko_iald3 mi_k64.1 (n := 20) (c := 20) (ax := (0, 0, 0, 0, 0)) (mi_k64.2 _ _ (by rfl)) (by rfl) (ksG74 _ _ _ _) (hG.I.2.1 74) rfl (tok8 hp0.1) (tok81 hp0.2) ?_
  refine fo_goL mi_k64 fz64_6_7_17 [(3, .int ((a 74).getD x1.toNatClampNeg 0)), (0, .ref 49), (1, .int x1), (2, .int x2)] [.int x2, .ref 74, .int x1, .ref 74] rfl ?_
  refine ko_iald3 mi_k64.1 (n := 20) (c := 20) (ax := (0, 0, 0, 0, 0)) (mi_k64.2 _ _ (by rfl)) (by rfl) (ksG74 _ _ _ _) (hG.I.2.1 74) rfl (tok8 hp1.1) (tok81 hp1.2) ?_
  refine ko_iast3 mi_k64.1 (n := 20) (c := 20) (ax := (0, 0, 0, 0, 0)) (mi_k64.2 _ _ (by rfl)) (by rfl) (ksG74 _ _ _ _) (ksA74 _ _ _ _) (hG.I.2.1 74) rfl (tok8 hp0.1) (tok81 hp0.2) ?_
  intro a1 ea1 fa1
  have hJ1 := kG_a3 hG 74 rfl ea1 fa1 (kd_bd _)
  refine fo_goS mi_k64 fz64_19_4_25 [.int ((a 74).getD x1.toNatClampNeg 0), .int x2, .ref 74] rfl ?_
  refine ko_iast3 mi_k64.1 (n := 20) (c := 20) (ax := (0, 0, 0, 0, 0)) (mi_k64.2 _ _ (by rfl)) (by rfl) (ksG74 _ _ _ _) (ksA74 _ _ _ _) (hJ1.I.2.1 74) rfl (tok8 hp1.1) (tok81 hp1.2) ?_
  intro a2 ea2 fa2
  have hJ2 := kG_a3 hJ1 74 rfl ea2 fa2 (kd_bd _)
  exact ft_ret mi_k64 (by rfl) (hP  _ _ _ _ hJ2 ⟨trivial, (show a2 74 = ((a 74).set x1.toNatClampNeg ((a 74).getD x2.toNatClampNeg 0)).set x2.toNatClampNeg ((a 74).getD x1.toNatClampNeg 0) from (by first | rfl | (simp only [ea2, ea1, sMn, sMx]; done) | (simp only [ea2, ea1, sMn, sMx]; rfl)))⟩)
noncomputable def yw68_49_1 : kW := ([645, 3142, 3200, 3206, 3207, 3208, 3209, 3214, 3215, 3216, 3586, 3781, 6405], [13, 51, 52, 53, 54, 55, 57, 58, 62, 63, 65, 66, 67, 68, 69, 70, 71, 72, 73, 74, 103], [], [1])
noncomputable def yw68_49_1_L16 : kW := ([645, 3142, 3200, 3206, 3207, 3208, 3209, 3214, 3215, 3216, 3586, 3781, 6405], [13, 51, 52, 53, 54, 55, 57, 58, 62, 63, 65, 66, 67, 68, 69, 70, 71, 72, 73, 74, 103], [], [1])
set_option maxRecDepth 100000 in
theorem ke68_49_1 {i : Nat → Int32} {a : Nat → List Int32} {q : Nat → List Int64} {r : Nat → Nat} (hI : kI i a q) (hr : kr r) (x2 : Int32) (hp0 : ((0 : Int) ≤ x2.toInt) ∧ (x2.toInt < (i 64).toInt)) (hN : kNoW i a r) (hR : kRow i a) : km 11 68 [.ref 49, .ref 1, .int x2] (ks i a q r) (kVI yw68_49_1 i a q r (fun v i1 a1 q1 r1 => (True) ∧ (i1 3142, v.toInt) = gBst (fun p => gPur (gKn i a) (a 118) (rSwp (fun j => (a 74).getD j 0) p) (i 3138).toInt.toNat x2) (gPur (gKn i a) (a 118) (fun j => (a 74).getD j 0) (i 3138).toInt.toNat x2) (-2) ((i 3138).toInt - 1).toNat)) := by
  have hG := kG_self yw68_49_1 hI hr
  refine km_ofI (q := (mi_h68, mi_c68)) rfl (by decide) (Nat.le_of_ble_eq_true rfl) ?_
  intro P hP
  have fi_64 : ((0 : Int) ≤ (i 64).toInt) ∧ ((i 64).toInt ≤ 8) := hG.I.1 64
  have tI1 : kIs (a 74) ((fun j => (a 74).getD j 0)) ((i 3138).toInt) := kIs_self
  refine fo_goL mi_k68 fz68_0_6_7 [(3, .int (-2)), (0, .ref 49), (1, .ref 1), (2, .int x2)] [.int x2, .ref 1, .ref 49, .ref 49] rfl ?_
  have fi_3138 : ((0 : Int) ≤ (i 3138).toInt) ∧ ((i 3138).toInt ≤ 20) := hG.I.1 3138
  refine ko_callI mi_k68.1 (pc := 7) (ls := [(3, .int (-2)), (0, .ref 49), (1, .ref 1), (2, .int x2)]) (st := [.int x2, .ref 1, .ref 49, .ref 49]) (h := ks i a q r) (i := (.invokevirtual 99, 3, 63, 0, 9, 0, 239)) (mi_k68.2 _ _ (by rfl)) (ft_invS mi_pq63 (by rfl)) (cy := mi_c63) mi_pq63 rfl (ke63_49_1 hG.I hG.R x2 (tok43 hp0.1 hp0.2) hN (kRow_is tI1 (rOkw_row hR) tok77 (hG.fi 64 rfl))) (by decide) ?_
  intro vg2 ig2 ag2 qg2 rg2 kg2 hg2
  have hGg2 := kG_call hG kg2 (by decide +kernel)
  obtain ⟨hg2, og2⟩ := hg2
  have oP3 := og2.1
  have pv4 : vg2 = gPur (gKn i a) (a 118) ((fun j => (a 74).getD j 0)) ((i 3138).toInt).toNat x2 := by
    have e := gPur_of (R := (fun j => (a 74).getD j 0)) oP3 (N := a 118) (show a 118 = a 118 from rfl) rfl (kIs_c tI1 rfl (Int.le_of_eq tok77)) (tok8 fi_3138.1)
    exact e
  have hJ5 := kG_i hGg2 3142 rfl (v := vg2) (kd_bd _)
  first | refine ft_go mi_k68 3 16 [(4, .int 0), (3, .int (-2)), (0, .ref 49), (1, .ref 1), (2, .int x2)] [] (ku ig2 3142 vg2) ag2 qg2 rg2 (by rfl) ?_ | refine ft_goL mi_k68 3 16 [(4, .int 0), (3, .int (-2)), (0, .ref 49), (1, .ref 1), (2, .int x2)] [] (by rfl) ?_
  have lp6 : ∀ (nz : Nat) (i6 : Nat → Int32) (a6 : Nat → List Int32) (q6 : Nat → List Int64) (r6 : Nat → Nat) (l4_6 : Int32) (l3_6 : Int32), kG yw68_49_1_L16 (ku ig2 3142 vg2) ag2 qg2 rg2 i6 a6 q6 r6 → (0 : Int) ≤ l4_6.toInt → (l4_6.toInt = 0) ∨ ((l4_6.toInt + 1) ≤ (i 3138).toInt) → (i6 3138).toInt = (i 3138).toInt → ((i6 3142), l3_6.toInt) = gBst (fun p => gPur (gKn i a) (a 118) (rSwp (fun j => (a 74).getD j 0) p) (i 3138).toInt.toNat x2) (gPur (gKn i a) (a 118) (fun j => (a 74).getD j 0) (i 3138).toInt.toNat x2) (-2) l4_6.toInt.toNat → kIs (a6 74) (fun j => (a 74).getD j 0) (i 3138).toInt → (((i6 3138).toInt - l4_6.toInt)).toNat < nz → ko 11 (mi_h68, mi_c68) P (16, [(4, .int l4_6), (3, .int l3_6), (0, .ref 49), (1, .ref 1), (2, .int x2)], [], (0, 0), ks i6 a6 q6 r6) := by
    intro nz
    induction nz with
    | zero =>
      intro _ _ _ _ _ _ _ _ _ _ _ _ hm
      exact absurd hm (Nat.not_lt_zero _)
    | succ nz ih6 =>
      intro i6 a6 q6 r6 l4_6 l3_6 hL6 p6_0 p6_1 p6_2 O6_0 O6_1 hm6
      have fi6_3138 : ((0 : Int) ≤ (i6 3138).toInt) ∧ ((i6 3138).toInt ≤ 20) := hL6.I.1 3138
      have fig2_3138 : ((0 : Int) ≤ (ig2 3138).toInt) ∧ ((ig2 3138).toInt ≤ 20) := hJ5.I.1 3138
      have efig2_3138 : (ig2 3138).toInt = (i 3138).toInt := kg2.ti 3138 rfl
      have efi6_3138 : (i6 3138).toInt = (ig2 3138).toInt := hL6.ti 3138 rfl
      have s7 : (l4_6 + 1).toInt = l4_6.toInt + (1 : Int32).toInt := kd_add (tok3 p6_0 ktok1) (tok98 fi_3138.2 p6_1 ktok1)
      refine fo_goL mi_k68 fz68_16_5_24 [(4, .int l4_6), (3, .int l3_6), (0, .ref 49), (1, .ref 1), (2, .int x2)] [.int (i6 3138), .int (l4_6 + 1)] rfl ?_
      refine ft_ifS mi_k68 (decide ((i6 3138) ≤ (l4_6 + 1))) 79 27 [] (by rfl) (fun c => ?_) (fun c => ?_)
      ·
        have c8 : (i6 3138).toInt ≤ (l4_6 + 1).toInt := kd_le c; clear c
        have hG9 := kG_call hJ5 hL6 (by decide +kernel)
        refine ft_goS mi_k68 1 80 [.int l3_6] (by rfl) ?_
        exact ft_ret mi_k68 (by rfl) (hP l3_6 _ _ _ _ hG9 ⟨trivial, (gBst_len O6_0 (kj_nm1 (tok8 p6_0) (tok99 c8 efi6_3138 efig2_3138 p6_0 p6_1 s7 ktok1)))⟩)
      ·
        have c10 : (l4_6 + 1).toInt < (i6 3138).toInt := kd_leF c; clear c
        refine fo_goS mi_k68 fz68_27_5_34 [.int (l4_6 + 1), .int l4_6, .ref 49] rfl ?_
        refine ko_callN mi_k68.1 (pc := 34) (ls := [(4, .int l4_6), (3, .int l3_6), (0, .ref 49), (1, .ref 1), (2, .int x2)]) (st := [.int (l4_6 + 1), .int l4_6, .ref 49]) (h := ks i6 a6 q6 r6) (i := (.invokevirtual 103, 3, 64, 0, 9, 0, 241)) (mi_k68.2 _ _ (by rfl)) (ft_invS mi_pq64 (by rfl)) (cy := mi_c64) mi_pq64 rfl (ke64_49 hL6.I hL6.R l4_6 (l4_6 + 1) (tok100 c10 efi6_3138 efig2_3138 fi_3138.2 p6_0 s7 ktok1) (tok83 c10 fi6_3138.2 p6_0 s7 ktok1)) (by decide) ?_
        intro ig11 ag11 qg11 rg11 kg11 hg11
        have hGg11 := kG_call hL6 kg11 (by decide +kernel)
        obtain ⟨hg11, og11⟩ := hg11
        have tI12 : kIs (ag11 74) (rSwp ((fun j => (a 74).getD j 0)) l4_6.toInt.toNat) ((i 3138).toInt) := (kIs_swp (p := l4_6) (p1 := (l4_6 + 1)) (m := 20) O6_1 (hL6.I.2.1 74) (tok8 p6_0) (tok67 s7 ktok1) (tok63 c10 efi6_3138 efig2_3138) (tok101 fi_3138.2) og11)
        have q13 : ag11 74 = ((a6 74).set l4_6.toNatClampNeg ((a6 74).getD (l4_6 + 1).toNatClampNeg 0)).set (l4_6 + 1).toNatClampNeg ((a6 74).getD l4_6.toNatClampNeg 0) := og11
        refine ft_goS mi_k68 3 40 [.int x2, .ref 1, .ref 49] (by rfl) ?_
        have fig11_64 : ((0 : Int) ≤ (ig11 64).toInt) ∧ ((ig11 64).toInt ≤ 8) := hGg11.I.1 64
        have fi6_64 : ((0 : Int) ≤ (i6 64).toInt) ∧ ((i6 64).toInt ≤ 8) := hL6.I.1 64
        have fig2_64 : ((0 : Int) ≤ (ig2 64).toInt) ∧ ((ig2 64).toInt ≤ 8) := hJ5.I.1 64
        have efig2_64 : (ig2 64).toInt = (i 64).toInt := kg2.ti 64 rfl
        have efi6_64 : (i6 64).toInt = (ig2 64).toInt := hL6.ti 64 rfl
        have efig11_64 : (ig11 64).toInt = (i6 64).toInt := kg11.ti 64 rfl
        have hG14 := kG_call hJ5 hGg11 (by decide +kernel)
        have fig11_3138 : ((0 : Int) ≤ (ig11 3138).toInt) ∧ ((ig11 3138).toInt ≤ 20) := hGg11.I.1 3138
        have efig11_3138 : (ig11 3138).toInt = (i6 3138).toInt := kg11.ti 3138 rfl
        refine ko_callI mi_k68.1 (pc := 40) (ls := [(4, .int l4_6), (3, .int l3_6), (0, .ref 49), (1, .ref 1), (2, .int x2)]) (st := [.int x2, .ref 1, .ref 49]) (h := ks ig11 ag11 qg11 rg11) (i := (.invokevirtual 99, 3, 63, 0, 9, 0, 239)) (mi_k68.2 _ _ (by rfl)) (ft_invS mi_pq63 (by rfl)) (cy := mi_c63) mi_pq63 rfl (ke63_49_1 hGg11.I hGg11.R x2 (tok103 efi6_64 efig11_64 efig2_64 hp0.1 hp0.2) (kNoW_fr hG14 (by decide +kernel) hr hN) (kRow_is tI12 (rOkw_swp (rOkw_row hR) (kj_natlt (tok8 p6_0) (tok102 c10 efi6_3138 efig2_3138 s7 ktok1))) (tok66 efi6_3138 efig11_3138 efig2_3138) (hG14.fi 64 rfl))) (by decide) ?_
        intro vg15 ig15 ag15 qg15 rg15 kg15 hg15
        have hGg15 := kG_call hGg11 kg15 (by decide +kernel)
        obtain ⟨hg15, og15⟩ := hg15
        have hG16 := kG_call hJ5 hGg11 (by decide +kernel)
        have oP17 := og15.1
        rw [(gKn_fr hG16 (by decide +kernel) : gKn ig11 ag11 = gKn i a)] at oP17
        have pv18 : vg15 = gPur (gKn i a) (a 118) (rSwp ((fun j => (a 74).getD j 0)) l4_6.toInt.toNat) ((i 3138).toInt).toNat x2 := by
          have e := gPur_of (R := rSwp ((fun j => (a 74).getD j 0)) l4_6.toInt.toNat) oP17 (N := a 118) (show ag11 118 = a 118 from (((kg11.fa 118 rfl).trans (hL6.fa 118 rfl)).trans (kg2.fa 118 rfl))) rfl (kIs_c tI12 rfl (Int.le_of_eq (tok66 efi6_3138 efig11_3138 efig2_3138))) (tok8 fig11_3138.1)
          rw [((tok66 efi6_3138 efig11_3138 efig2_3138) : (ig11 3138).toInt = (i 3138).toInt)] at e
          exact e
        refine fo_goL mi_k68 fz68_43_6_52 [(5, .int vg15), (4, .int l4_6), (3, .int l3_6), (0, .ref 49), (1, .ref 1), (2, .int x2)] [.int (l4_6 + 1), .int l4_6, .ref 49] rfl ?_
        refine ko_callN mi_k68.1 (pc := 52) (ls := [(5, .int vg15), (4, .int l4_6), (3, .int l3_6), (0, .ref 49), (1, .ref 1), (2, .int x2)]) (st := [.int (l4_6 + 1), .int l4_6, .ref 49]) (h := ks ig15 ag15 qg15 rg15) (i := (.invokevirtual 103, 3, 64, 0, 9, 0, 241)) (mi_k68.2 _ _ (by rfl)) (ft_invS mi_pq64 (by rfl)) (cy := mi_c64) mi_pq64 rfl (ke64_49 hGg15.I hGg15.R l4_6 (l4_6 + 1) (tok100 c10 efi6_3138 efig2_3138 fi_3138.2 p6_0 s7 ktok1) (tok83 c10 fi6_3138.2 p6_0 s7 ktok1)) (by decide) ?_
        intro ig19 ag19 qg19 rg19 kg19 hg19
        have hGg19 := kG_call hGg15 kg19 (by decide +kernel)
        obtain ⟨hg19, og19⟩ := hg19
        have tI20 : kIs (ag19 74) (rSwp (rSwp ((fun j => (a 74).getD j 0)) l4_6.toInt.toNat) l4_6.toInt.toNat) ((i 3138).toInt) := (kIs_swp (p := l4_6) (p1 := (l4_6 + 1)) (m := 20) (kIs_c tI12 (kg15.fa 74 rfl) (Int.le_refl _)) (hGg15.I.2.1 74) (tok8 p6_0) (tok67 s7 ktok1) (tok63 c10 efi6_3138 efig2_3138) (tok101 fi_3138.2) og19)
        have q21 : ag19 74 = ((ag15 74).set l4_6.toNatClampNeg ((ag15 74).getD (l4_6 + 1).toNatClampNeg 0)).set (l4_6 + 1).toNatClampNeg ((ag15 74).getD l4_6.toNatClampNeg 0) := og19
        have efig11_3142 : (ig11 3142).toInt = (i6 3142).toInt := kg11.ti 3142 rfl
        have efig15_3142 : (ig15 3142).toInt = (ig11 3142).toInt := kg15.ti 3142 rfl
        have efig19_3142 : (ig19 3142).toInt = (ig15 3142).toInt := kg19.ti 3142 rfl
        refine ft_goS mi_k68 3 61 [.int (ig19 3142), .int vg15] (by rfl) ?_
        refine ft_ifS mi_k68 (decide (vg15 ≤ (ig19 3142))) 73 64 [] (by rfl) (fun c => ?_) (fun c => ?_)
        ·
          have c22 : vg15.toInt ≤ (ig19 3142).toInt := kd_le c; clear c
          first | refine ft_goL mi_k68 2 16 [(4, .int (l4_6 + 1)), (5, .int vg15), (3, .int l3_6), (0, .ref 49), (1, .ref 1), (2, .int x2)] [] (by rfl) ?_
          refine ko_perm [(4, .int (l4_6 + 1)), (3, .int l3_6), (0, .ref 49), (1, .ref 1), (2, .int x2)] (List.forall_mem_cons.mpr ⟨(List.Mem.head _), (List.forall_mem_cons.mpr ⟨(List.Mem.tail _ (List.Mem.tail _ (List.Mem.head _))), (List.forall_mem_cons.mpr ⟨(List.Mem.tail _ (List.Mem.tail _ (List.Mem.tail _ (List.Mem.head _)))), (List.forall_mem_cons.mpr ⟨(List.Mem.tail _ (List.Mem.tail _ (List.Mem.tail _ (List.Mem.tail _ (List.Mem.head _))))), (List.forall_mem_cons.mpr ⟨(List.Mem.tail _ (List.Mem.tail _ (List.Mem.tail _ (List.Mem.tail _ (List.Mem.tail _ (List.Mem.head _)))))), (fun _ h => absurd h List.not_mem_nil)⟩)⟩)⟩)⟩)⟩) ?_
          have fig19_3138 : ((0 : Int) ≤ (ig19 3138).toInt) ∧ ((ig19 3138).toInt ≤ 20) := hGg19.I.1 3138
          have fig15_3138 : ((0 : Int) ≤ (ig15 3138).toInt) ∧ ((ig15 3138).toInt ≤ 20) := hGg15.I.1 3138
          have efig15_3138 : (ig15 3138).toInt = (ig11 3138).toInt := kg15.ti 3138 rfl
          have efig19_3138 : (ig19 3138).toInt = (ig15 3138).toInt := kg19.ti 3138 rfl
          exact ih6 _ _ _ _ _ _ hGg19 (tok9 p6_0 s7 ktok1) (tok104 c10 efi6_3138 efig2_3138) (tok105 efi6_3138 efig11_3138 efig15_3138 efig19_3138 efig2_3138) (kT2m (gBst_no O6_0 pv18 (tok106 c22 efig11_3142 efig15_3142 efig19_3142) (tok8 p6_0) (tok67 s7 ktok1)) (kj_v (tok107 efig11_3142 efig15_3142 efig19_3142)) tok77) (kIs_R tI20 (rSwp_2 _).symm) (kj_meas (tok108 efig11_3138 efig15_3138 efig19_3138 s7 ktok1) (tok109 c10 s7 ktok1) hm6)
        ·
          have c23 : (ig19 3142).toInt < vg15.toInt := kd_leF c; clear c
          have hJ24 := kG_i hGg19 3142 rfl (v := vg15) (kd_bd _)
          first | refine fo_go mi_k68 fz68_64_7_16 [(4, .int (l4_6 + 1)), (3, .int l4_6), (5, .int vg15), (0, .ref 49), (1, .ref 1), (2, .int x2)] [] (ku ig19 3142 vg15) ag19 qg19 rg19 (by rfl) ?_ | refine ft_go mi_k68 7 16 [(4, .int (l4_6 + 1)), (3, .int l4_6), (5, .int vg15), (0, .ref 49), (1, .ref 1), (2, .int x2)] [] (ku ig19 3142 vg15) ag19 qg19 rg19 (by rfl) ?_ | refine ft_goL mi_k68 7 16 [(4, .int (l4_6 + 1)), (3, .int l4_6), (5, .int vg15), (0, .ref 49), (1, .ref 1), (2, .int x2)] [] (by rfl) ?_
          refine ko_perm [(4, .int (l4_6 + 1)), (3, .int l4_6), (0, .ref 49), (1, .ref 1), (2, .int x2)] (List.forall_mem_cons.mpr ⟨(List.Mem.head _), (List.forall_mem_cons.mpr ⟨(List.Mem.tail _ (List.Mem.head _)), (List.forall_mem_cons.mpr ⟨(List.Mem.tail _ (List.Mem.tail _ (List.Mem.tail _ (List.Mem.head _)))), (List.forall_mem_cons.mpr ⟨(List.Mem.tail _ (List.Mem.tail _ (List.Mem.tail _ (List.Mem.tail _ (List.Mem.head _))))), (List.forall_mem_cons.mpr ⟨(List.Mem.tail _ (List.Mem.tail _ (List.Mem.tail _ (List.Mem.tail _ (List.Mem.tail _ (List.Mem.head _)))))), (fun _ h => absurd h List.not_mem_nil)⟩)⟩)⟩)⟩)⟩) ?_
          have fig19_3138 : ((0 : Int) ≤ (ig19 3138).toInt) ∧ ((ig19 3138).toInt ≤ 20) := hJ24.I.1 3138
          have fig15_3138 : ((0 : Int) ≤ (ig15 3138).toInt) ∧ ((ig15 3138).toInt ≤ 20) := hGg15.I.1 3138
          have efig15_3138 : (ig15 3138).toInt = (ig11 3138).toInt := kg15.ti 3138 rfl
          have efig19_3138 : (ig19 3138).toInt = (ig15 3138).toInt := kg19.ti 3138 rfl
          exact ih6 _ _ _ _ _ _ hJ24 (tok9 p6_0 s7 ktok1) (tok104 c10 efi6_3138 efig2_3138) (tok105 efi6_3138 efig11_3138 efig15_3138 efig19_3138 efig2_3138) (kT2m (gBst_up (w1 := l4_6) O6_0 pv18 (tok110 c23 efig11_3142 efig15_3142 efig19_3142) (tok8 p6_0) (tok67 s7 ktok1) tok77) (kj_v tok77) rfl) (kIs_R tI20 (rSwp_2 _).symm) (kj_meas (tok108 efig11_3138 efig15_3138 efig19_3138 s7 ktok1) (tok109 c10 s7 ktok1) hm6)
  have fig2_3138 : ((0 : Int) ≤ (ig2 3138).toInt) ∧ ((ig2 3138).toInt ≤ 20) := hJ5.I.1 3138
  have efig2_3138 : (ig2 3138).toInt = (i 3138).toInt := kg2.ti 3138 rfl
  exact lp6 _ _ _ _ _ _ _ (kG_self _ hJ5.I hJ5.R) (tok16 ktok0) (tok111 ktok0) (tok70 efig2_3138) (kT2m (gBst_0 ktok0) ((show vg2 = vg2 from rfl).trans pv4) ktokm2) (kIs_c (kIs_self (L := a 74)) (kg2.fa 74 rfl) (Int.le_refl _)) (Nat.lt_succ_self _)
noncomputable def yw93_0 : kW := ([645, 3138, 3142, 3200, 3206, 3207, 3208, 3209, 3214, 3215, 3216, 3586, 3781, 6405], [13, 51, 52, 53, 54, 55, 57, 58, 62, 63, 65, 66, 67, 68, 69, 70, 71, 72, 73, 74, 103], [], [1])
set_option maxRecDepth 100000 in
theorem ke93_0 {i : Nat → Int32} {a : Nat → List Int32} {q : Nat → List Int64} {r : Nat → Nat} (hI : kI i a q) (hr : kr r) (x1 : Int32) (x2 : Int32) (x3 : Int32) (hN : kNoW i a r) : km 13 93 [.ref 0, .int x1, .int x2, .int x3] (ks i a q r) (kVI yw93_0 i a q r (fun v i1 a1 q1 r1 => (True) ∧ cTop (((0 : Int) ≤ x2.toInt) ∧ (x2.toInt < (i 64).toInt) ∧ ((0 : Int) ≤ x3.toInt) ∧ (x3.toInt ≤ 1)) i q x1 v (fun n L => fLt (gKn i a) (a 118) x2 x3 v n L))) := by
  have hG := kG_self yw93_0 hI hr
  refine km_ofI (q := (mi_h93, mi_c93)) rfl (by decide) (Nat.le_of_ble_eq_true rfl) ?_
  intro P hP
  refine ft_goL mi_k93 2 2 [(0, .ref 0), (1, .int x1), (2, .int x2), (3, .int x3)] [.int x2, .ref 0] (by rfl) ?_
  refine ko_callPI mi_k93.1 (pc := 2) (ls := [(0, .ref 0), (1, .int x1), (2, .int x2), (3, .int x3)]) (st := [.int x2, .ref 0]) (h := ks i a q r) (i := (.invokevirtual 141, 3, 123, 0, 9, 0, 162)) (mi_k93.2 _ _ (by rfl)) (ft_invS mi_pq123 (by rfl)) (cy := mi_c123) mi_pq123 rfl (kc123_0 hG.I hG.R x2) (by decide) ?_
  intro vg1 hg1
  rcases hg1 with ⟨eg1, hg1⟩ | ⟨eg1, hg1⟩
  ·
    subst eg1
    have z2 : ((0 : Int) ≤ x2.toInt) ∧ (x2.toInt < (i 64).toInt) := hg1
    refine ft_goS mi_k93 4 11 [.int 1, .int 0, .int x3] (by rfl) ?_
    refine ko_callPI mi_k93.1 (pc := 11) (ls := [(0, .ref 0), (1, .int x1), (2, .int x2), (3, .int x3)]) (st := [.int 1, .int 0, .int x3]) (h := ks i a q r) (i := (.invokestatic 74, 3, 120, 0, 9, 0, 152)) (mi_k93.2 _ _ (by rfl)) (ft_invS mi_pq120 (by rfl)) (cy := mi_c120) mi_pq120 rfl (kc120 hG.I hG.R x3 0 1) (by decide) ?_
    intro vg3 hg3
    rcases hg3 with ⟨eg3, hg3⟩ | ⟨eg3, hg3⟩
    ·
      subst eg3
      have z4 : ((0 : Int32).toInt ≤ x3.toInt) ∧ (x3.toInt ≤ (1 : Int32).toInt) := hg3
      refine ft_goS mi_k93 3 21 [.int x1, .ref 0] (by rfl) ?_
      refine ko_callI mi_k93.1 (pc := 21) (ls := [(0, .ref 0), (1, .int x1), (2, .int x2), (3, .int x3)]) (st := [.int x1, .ref 0]) (h := ks i a q r) (i := (.invokevirtual 144, 3, 129, 0, 9, 0, 208)) (mi_k93.2 _ _ (by rfl)) (ft_invS mi_pq129 (by rfl)) (cy := mi_c129) mi_pq129 rfl (kg129_0 hG.I hG.R x1) (by decide) ?_
      intro vg5 ig5 ag5 qg5 rg5 kg5 hg5
      have hGg5 := kG_call hG kg5 (by decide +kernel)
      obtain ⟨hg5, og5⟩ := hg5
      refine ft_goL mi_k93 2 28 [(4, .int vg5), (0, .ref 0), (1, .int x1), (2, .int x2), (3, .int x3)] [.int vg5] (by rfl) ?_
      refine ft_ifS mi_k93 (decide (0 ≤ vg5)) 34 31 [] (by rfl) (fun c => ?_) (fun c => ?_)
      ·
        have c7 : (0 : Int32).toInt ≤ vg5.toInt := kd_le c; clear c
        refine fo_goS mi_k93 fz93_34_5_43 [.int x2, .ref 1, .ref 49] rfl ?_
        have efig5_64 : (ig5 64).toInt = (i 64).toInt := kg5.ti 64 rfl
        refine ko_callI mi_k93.1 (pc := 43) (ls := [(4, .int vg5), (0, .ref 0), (1, .int x1), (2, .int x2), (3, .int x3)]) (st := [.int x2, .ref 1, .ref 49]) (h := ks ig5 ag5 qg5 rg5) (i := (.invokevirtual 185, 3, 68, 0, 9, 0, 245)) (mi_k93.2 _ _ (by rfl)) (ft_invS mi_pq68 (by rfl)) (cy := mi_c68) mi_pq68 rfl (ke68_49_1 hGg5.I hGg5.R x2 (tok184 efig5_64 z2.1 z2.2) (kNoW_fr hGg5 (by decide +kernel) hr hN) (cRow1_row (cPl_row og5 (tok186 c7 ktok0)) (hGg5.fi 64 rfl))) (by decide) ?_
        intro vg8 ig8 ag8 qg8 rg8 kg8 hg8
        have hGg8 := kG_call hGg5 kg8 (by decide +kernel)
        obtain ⟨hg8, og8⟩ := hg8
        have oB9 := og8
        rw [(gKn_fr hGg5 (by decide +kernel) : gKn ig5 ag5 = gKn i a), ((kg5.fa 118 rfl) : ag5 118 = a 118)] at oB9
        refine ft_goL mi_k93 2 49 [(5, .int vg8), (4, .int vg5), (0, .ref 0), (1, .int x1), (2, .int x2), (3, .int x3)] [.int x3] (by rfl) ?_
        refine ft_ifS mi_k93 (x3 != 0) 57 52 [] (by rfl) (fun c => ?_) (fun c => ?_)
        ·
          have c10 : x3.toInt ≠ (0 : Int32).toInt := kd_ne c; clear c
          first | refine ft_goS mi_k93 3 64 [.int (ig8 3142)] (by rfl) ?_
          exact ft_ret mi_k93 (by rfl) (hP (ig8 3142) _ _ _ _ hGg8 ⟨trivial, (Or.inr ⟨(tok187 z2.1 z2.2 z4.1 z4.2 ktok0 ktok1), cShf_go (cPl_row og5 (tok186 c7 ktok0)) ⟨fun h => absurd h (tok189 c10 z4.1 ktok0), fun _ => congrArg Prod.fst oB9⟩⟩)⟩)
        ·
          have c11 : x3.toInt = (0 : Int32).toInt := kd_neF c; clear c
          first | refine ft_goS mi_k93 2 64 [.int vg8] (by rfl) ?_
          exact ft_ret mi_k93 (by rfl) (hP vg8 _ _ _ _ hGg8 ⟨trivial, (Or.inr ⟨(tok187 z2.1 z2.2 z4.1 z4.2 ktok0 ktok1), cShf_go (cPl_row og5 (tok186 c7 ktok0)) ⟨fun _ => congrArg Prod.snd oB9, fun h => absurd h (tok192 c11 z4.1 ktok0)⟩⟩)⟩)
      ·
        have c12 : vg5.toInt < (0 : Int32).toInt := kd_leF c; clear c
        refine ft_goS mi_k93 1 33 [.int vg5] (by rfl) ?_
        exact ft_ret mi_k93 (by rfl) (hP vg5 _ _ _ _ hGg5 ⟨trivial, (Or.inr ⟨(tok187 z2.1 z2.2 z4.1 z4.2 ktok0 ktok1), cShf_bar og5 (tok194 c12 ktok0)⟩)⟩)
    ·
      subst eg3
      have z13 : ¬ (((0 : Int32).toInt ≤ x3.toInt) ∧ (x3.toInt ≤ (1 : Int32).toInt)) := hg3
      first | refine ft_goS mi_k93 2 18 [.int (-1)] (by rfl) ?_
      exact ft_ret mi_k93 (by rfl) (hP (-1) _ _ _ _ hG ⟨trivial, (Or.inl ⟨(tok195 z13 ktok0 ktok1), rfl⟩)⟩)
  ·
    subst eg1
    have z14 : ¬ (((0 : Int) ≤ x2.toInt) ∧ (x2.toInt < (i 64).toInt)) := hg1
    first | refine ft_goS mi_k93 2 18 [.int (-1)] (by rfl) ?_
    exact ft_ret mi_k93 (by rfl) (hP (-1) _ _ _ _ hG ⟨trivial, (Or.inl ⟨(tok196 z14), rfl⟩)⟩)
end
section
theorem ktoe0 : (0 : Int32).toInt = 0 := by decide
theorem ktoe1 : (1 : Int32).toInt = 1 := by decide
theorem ktoem1 : ((-1) : Int32).toInt = (-1) := by decide
theorem ktoe20 : (20 : Int32).toInt = 20 := by decide
theorem ktoem2 : ((-2) : Int32).toInt = (-2) := by decide
theorem toe9 {a0 : Int} (h0 : (0 : Int) ≤ a0) : (0 : Int) ≤ a0 := oz3 h0
theorem toe18 {a0 : Int} (h0 : (0 : Int) ≤ a0) (h1 : a0 ≤ 5) : ((0 : Int) ≤ a0) ∧ (a0 ≤ 5) := oz35 h0 h1
theorem toe19 {a0 : Int} (h0 : a0 = 0) : (0 : Int) ≤ a0 := oz46 h0
theorem toe31 {a0 : Int}  : a0 = a0 := oz34
theorem toe36 {a0 a1 : Int} (h0 : (0 : Int) ≤ a0) (h1 : a1 = 1) : (-2147483648 : Int) ≤ a0 + a1 := oz12 h0 h1
theorem toe37 {a0 a1 : Int} (h0 : a0 ≤ 21) (h1 : a1 = 1) : a0 + a1 ≤ 2147483647 := oz215 h0 h1
theorem toe38 {a0 a1 a2 : Int} (h0 : (0 : Int) ≤ a0) (h1 : a1 = a0 + a2) (h2 : a2 = 1) : (0 : Int) ≤ a1 := oz14 h0 h1 h2
theorem toe45 {a0 a1 : Int} (h0 : a0 = a1) : a0 = a1 := oz719 h0
theorem toe47 {a0 a1 a2 : Int} (h0 : a0 = a1 + a2) (h1 : a2 = 1) : a0 = a1 + 1 := oz169 h0 h1
theorem toe54 {a0 a1 : Int} (h0 : (0 : Int) ≤ a0) (h1 : a1 = 0) : a1 ≤ a0 := ob67 h0 h1
theorem toe57 {a0 a1 : Int} (h0 : a0 ≤ a1) : a0 ≤ a1 := oz173 h0
theorem toe66 {a0 a1 a2 a3 a4 a5 : Int} (h0 : (0 : Int) ≤ a0) (h1 : a0 ≤ 5) (h2 : (0 : Int) ≤ a1) (h3 : a1 < a2) (h4 : a3 ≤ a4) (h5 : a4 ≤ a5) (h6 : a3 = 0) (h7 : a5 = 1) : (((0 : Int) ≤ a1) ∧ (a1 < a2) ∧ ((0 : Int) ≤ a4) ∧ (a4 ≤ 1)) ∧ ((0 : Int) ≤ a0) ∧ (a0 ≤ 5) := by omega
theorem toe67 {a0 a1 : Int} (h0 : a0 ≤ a1) (h1 : a0 = 0) : ¬ (a1 < 0) := oy47 h0 h1
theorem toe68 {a0 a1 : Int} (h0 : a0 < a1) (h1 : a1 ≤ (a0 + 1)) : a1 = a0 + 1 := by omega
theorem toe69 {a0 : Int} (h0 : a0 ≤ 19) : ¬ (a0 = 20) := by omega
theorem toe70 {a0 a1 : Int} (h0 : a0 ≠ a1) (h1 : a1 ≤ a0) (h2 : a1 = 0) : ¬ (a0 = 0) := toy121 h0 h1 h2
theorem toe73 {a0 a1 : Int} (h0 : a0 = a1) (h1 : a1 ≤ a0) (h2 : a1 = 0) : ¬ (a0 ≠ 0) := tok192 h0 h1 h2
theorem toe74 {a0 a1 : Int} (h0 : a0 ≤ a1) (h1 : a1 ≤ 20) : a0 < 21 := oz406 h0 h1
theorem toe75 {a0 : Int} (h0 : a0 ≤ 7) : a0 ≤ 7 := oz407 h0
theorem toe76 {a0 a1 a2 a3 : Int} (h0 : a0 = a1) (h1 : a1 ≤ 20) (h2 : a2 = a0 + a3) (h3 : a3 = 1) : a2 ≤ 21 := oz408 h0 h1 h2 h3
theorem toe77 {a0 a1 a2 a3 : Int} (h0 : a0 = a1) (h1 : a2 = a0 + a3) (h2 : a3 = 1) : a2 = (a1 + 1) := oz409 h0 h1 h2
theorem toe78 {a0 a1 : Int} (h0 : a0 ≤ a1) (h1 : a1 ≤ a0) : a0 = a1 := og5 h0 h1
theorem toe79 {a0 a1 : Int} (h0 : a0 ≤ a1) (h1 : a1 ≤ 20) : a0 < ((21 : Nat) : Int) := by omega
theorem toe80 {a0 a1 a2 : Int} (h0 : a0 < a1) (h1 : (0 : Int) ≤ a0) (h2 : a2 = 1) : (-2147483648 : Int) ≤ a1 - a2 := oz410 h0 h1 h2
theorem toe81 {a0 a1 a2 : Int} (h0 : a0 ≤ 21) (h1 : a1 ≤ a0) (h2 : a2 = 1) : a1 - a2 ≤ 2147483647 := by omega
theorem toe82 {a0 a1 a2 a3 : Int} (h0 : a0 < a1) (h1 : (0 : Int) ≤ a0) (h2 : a2 = a1 - a3) (h3 : a3 = 1) : (0 : Int) ≤ a2 := oz412 h0 h1 h2 h3
theorem toe83 {a0 a1 a2 a3 : Int} (h0 : a0 ≤ 21) (h1 : a1 ≤ a0) (h2 : a2 = a1 - a3) (h3 : a3 = 1) : a2 < 21 := by omega
theorem toe84 {a0 a1 : Int} (h0 : a0 < a1) (h1 : (0 : Int) ≤ a0) : (0 : Int) ≤ a1 := oz414 h0 h1
theorem toe85 {a0 a1 : Int} (h0 : a0 ≤ 20) (h1 : a1 ≤ a0) : a1 < 21 := by omega
theorem toe86 {a0 a1 a2 : Int} (h0 : a0 < a1) (h1 : (0 : Int) ≤ a0) (h2 : a2 = (-1)) : (-2147483648 : Int) ≤ a1 + a2 := oz416 h0 h1 h2
theorem toe87 {a0 a1 a2 : Int} (h0 : a0 ≤ 21) (h1 : a1 ≤ a0) (h2 : a2 = (-1)) : a1 + a2 ≤ 2147483647 := by omega
theorem toe88 {a0 a1 a2 a3 : Int} (h0 : a0 ≤ a1) (h1 : a2 = a0 + a3) (h2 : a3 = (-1)) : a2 ≤ a1 := oz418 h0 h1 h2
theorem toe89 {a0 a1 a2 a3 : Int} (h0 : a0 < a1) (h1 : a2 = a1 + a3) (h2 : a3 = (-1)) : a0 ≤ a2 := oz419 h0 h1 h2
theorem toe90 {a0 a1 : Int} (h0 : a0 < a1) (h1 : (0 : Int) ≤ a0) : (1 : Int) ≤ a1 := by omega
theorem toe91 {a0 a1 : Int} (h0 : a0 ≤ 20) (h1 : a1 ≤ a0) : a1 < ((21 : Nat) : Int) := by omega
theorem toe92 {a0 a1 a2 : Int} (h0 : a0 = a1 + a2) (h1 : a2 = (-1)) : a0 = a1 - 1 := oy90 h0 h1
theorem toe93 {a0 a1 a2 : Int} (h0 : a0 = a1 - a2) (h1 : a2 = 1) : a0 = a1 - 1 := og39 h0 h1
theorem toe94 {a0 a1 a2 a3 : Int} (h0 : a0 = a1 + a2) (h1 : a2 = (-1)) : (a0 - a3) < (a1 - a3) := oz420 h0 h1
theorem toe95 {a0 a1 : Int} (h0 : a0 < a1) : (1 : Int) ≤ (a1 - a0) := oz45 h0
theorem toe96 {a0 : Int}  : a0 ≤ a0 := oz122
theorem toe99 {a0 a1 : Int} (h0 : a0 ≤ 8) (h1 : (0 : Int) ≤ a1) (h2 : a1 < a0) : ((0 : Int) ≤ a1) ∧ (a1 ≤ 7) := oz423 h0 h1 h2
theorem toe130 {a0 a1 a2 : Int} (h0 : a0 = a1) (h1 : a2 = (a0 + 1)) : a2 = a1 + 1 := by omega
theorem toe131 {a0 a1 : Int} (h0 : (1 : Int) ≤ a0) (h1 : a1 = 1) : (-2147483648 : Int) ≤ a0 - a1 := oz341 h0 h1
theorem toe132 {a0 a1 : Int} (h0 : a0 ≤ 21) (h1 : a1 = 1) : a0 - a1 ≤ 2147483647 := oz424 h0 h1
theorem toe133 {a0 a1 a2 : Int} (h0 : (1 : Int) ≤ a0) (h1 : a1 = a0 - a2) (h2 : a2 = 1) : (0 : Int) ≤ a1 := oz425 h0 h1 h2
theorem toe134 {a0 a1 a2 : Int} (h0 : a0 ≤ 21) (h1 : a1 = a0 - a2) (h2 : a2 = 1) : a1 ≤ 21 := oz426 h0 h1 h2
theorem toe135 {a0 a1 a2 a3 : Int} (h0 : a0 = a1) (h1 : a1 = a2 - a3) (h2 : a3 = 1) : a0 = (a2 - 1) := oz427 h0 h1 h2
theorem toe136 {a0 a1 a2 a3 a4 : Int} (h0 : a0 ≤ a1) (h1 : a0 = a2) (h2 : a2 = a3 - a4) (h3 : a4 = 1) : a3 - 1 ≤ a1 := by omega
theorem toe137 {a0 a1 a2 : Int} (h0 : (0 : Int) ≤ a0) (h1 : a0 ≤ a1) (h2 : a2 = 1) : (-2147483648 : Int) ≤ a1 + a2 := oz276 h0 h1 h2
theorem toe138 {a0 a1 a2 : Int} (h0 : a0 < a1) (h1 : a1 ≤ 21) (h2 : a2 = 1) : a0 + a2 ≤ 2147483647 := oz381 h0 h1 h2
theorem toe139 {a0 a1 a2 a3 : Int} (h0 : (0 : Int) ≤ a0) (h1 : a0 ≤ a1) (h2 : a2 = a1 + a3) (h3 : a3 = 1) : (0 : Int) ≤ a2 := by omega
theorem toe140 {a0 a1 a2 a3 a4 : Int} (h0 : a0 < a1) (h1 : a2 ≤ 21) (h2 : a1 = (a2 - 1)) (h3 : a3 = a0 + a4) (h4 : a4 = 1) : a3 < 21 := by omega
theorem toe141 {a0 a1 : Int} (h0 : (0 : Int) ≤ a0) (h1 : a0 ≤ a1) : (0 : Int) ≤ a1 := oz268 h0 h1
theorem toe142 {a0 a1 : Int} (h0 : a0 < a1) (h1 : a1 ≤ 21) : a0 < 21 := oz241 h0 h1
theorem toe143 {a0 a1 a2 a3 : Int} (h0 : a0 ≤ a1) (h1 : a2 = a1 + a3) (h2 : a3 = 1) : a0 ≤ a2 := oz278 h0 h1 h2
theorem toe144 {a0 a1 : Int} (h0 : a0 < a1) (h1 : a1 ≤ 21) : a0 < ((21 : Nat) : Int) := by omega
theorem toe145 {a0 a1 a2 a3 a4 : Int} (h0 : a0 < a1) (h1 : a1 = a2) (h2 : a2 = a3 - a4) (h3 : a4 = 1) : a0 + 1 ≤ a3 - 1 := by omega
theorem toe146 {a0 a1 a2 a3 : Int} (h0 : a0 = a1 + a2) (h1 : a2 = 1) : (a3 - a0) < (a3 - a1) := oz44 h0 h1
theorem toe147 {a0 a1 a2 : Int} (h0 : a0 = a1 - a2) (h1 : a2 = 1) : a0 = (a1 - 1) := oc18 h0 h1
theorem toe148 {a0 a1 a2 : Int} (h0 : a0 = a1) (h1 : (0 : Int) ≤ a2) (h2 : a1 = (a2 + 1)) : (1 : Int) ≤ a0 := oz429 h0 h1 h2
theorem toe150 {a0 a1 a2 : Int} (h0 : a0 ≤ a1) (h1 : a1 ≤ 21) (h2 : a2 = 1) : a0 + a2 ≤ 2147483647 := oz430 h0 h1 h2
theorem toe152 {a0 : Int} (h0 : a0 ≤ 19) : a0 ≤ 19 := oz432 h0
theorem toe153 {a0 a1 a2 a3 : Int} (h0 : a0 ≤ a1) (h1 : a2 = a0 + a3) (h2 : a3 = 1) : a2 ≤ (a1 + 1) := by omega
theorem toe154 {a0 a1 : Int} (h0 : a0 < a1) : a0 < a1 := oz270 h0
theorem toe155 {a0 a1 a2 a3 : Int} (h0 : a0 = a1 + a2) (h1 : a2 = 1) : ((a3 + 1) - a0) < ((a3 + 1) - a1) := oz433 h0 h1
theorem toe156 {a0 a1 : Int} (h0 : a0 ≤ a1) : (1 : Int) ≤ ((a1 + 1) - a0) := oz434 h0
theorem toe157 {a0 a1 : Int} (h0 : a0 ≠ a1) (h1 : a0 ≤ 20) (h2 : a1 = 20) : a0 ≤ 19 := oz435 h0 h1 h2
theorem toe158 {a0 a1 : Int} (h0 : (0 : Int) ≤ a0) (h1 : a1 = 0) : a1 ≤ (a0 + 1) := by omega
theorem toe159 {a0 a1 : Int} (h0 : a0 = a1) (h1 : a1 = 20) : ¬ (a0 < 20) := by omega
theorem toe160 {a0 a1 : Int} (h0 : a0 < a1) (h1 : a1 = 0) : a0 < 0 := oz1670 h0 h1
theorem toe161 {a0 a1 a2 a3 a4 a5 : Int} (h0 : ¬ ((a0 ≤ a1) ∧ (a1 ≤ a2))) (h1 : a0 = 0) (h2 : a2 = 1) : ¬ ((((0 : Int) ≤ a3) ∧ (a3 < a4) ∧ ((0 : Int) ≤ a1) ∧ (a1 ≤ 1)) ∧ ((0 : Int) ≤ a5) ∧ (a5 ≤ 5)) := by omega
theorem toe162 {a0 a1 a2 a3 : Int} (h0 : ¬ (((0 : Int) ≤ a0) ∧ (a0 < a1))) : ¬ ((((0 : Int) ≤ a0) ∧ (a0 < a1) ∧ ((0 : Int) ≤ a2) ∧ (a2 ≤ 1)) ∧ ((0 : Int) ≤ a3) ∧ (a3 ≤ 5)) := by omega
theorem toe163 {a0 a1 a2 a3 : Int} (h0 : ¬ (((0 : Int) ≤ a0) ∧ (a0 ≤ 5))) : ¬ ((((0 : Int) ≤ a1) ∧ (a1 < a2) ∧ ((0 : Int) ≤ a3) ∧ (a3 ≤ 1)) ∧ ((0 : Int) ≤ a0) ∧ (a0 ≤ 5)) := by omega
theorem toe164 {a0 a1 a2 : Int} (h0 : a0 ≤ a1) (h1 : (0 : Int) ≤ a0) (h2 : a1 = a2) : ((0 : Int) ≤ a0) ∧ (a0 ≤ a2) := oz436 h0 h1 h2
theorem toe165 {a0 a1 : Int} (h0 : a0 = a1) (h1 : a0 ≤ 19) : a1 ≤ 20 := oz437 h0 h1
theorem toe166 {a0 a1 : Int} (h0 : a0 = a1) : a1 = a0 := by omega
theorem toe167 {a0 a1 a2 : Int} (h0 : a0 = a1) (h1 : a2 = (a1 + 1)) : a2 = a0 + 1 := by omega
theorem toe168 {a0 a1 a2 a3 : Int} (h0 : a0 = a1) (h1 : a2 = a3) (h2 : a1 = (a3 + 1)) : a0 - 1 = a2 := by omega
theorem toe169 {a0 a1 a2 a3 a4 : Int} (h0 : a0 = a1) (h1 : a2 = a3) (h2 : a1 = (a3 + 1)) (h3 : a4 = (a0 - 1)) : a2 = a4 := oz438 h0 h1 h2 h3
theorem toe170 {a0 a1 a2 a3 a4 a5 : Int} (h0 : a0 < a1) (h1 : a1 = 0) : ¬ ((((0 : Int) ≤ a0) ∧ ((0 : Int) ≤ a2) ∧ (a2 < a3) ∧ ((0 : Int) ≤ a4) ∧ (a4 ≤ 1)) ∧ ((0 : Int) ≤ a5) ∧ (a5 ≤ 5)) := by omega
theorem toe171 {a0 a1 a2 a3 a4 a5 a6 : Int} (h0 : a0 ≤ a1) (h1 : (0 : Int) ≤ a2) (h2 : a2 ≤ 5) (h3 : (0 : Int) ≤ a3) (h4 : a3 < a4) (h5 : a0 ≤ a5) (h6 : a5 ≤ a6) (h7 : a0 = 0) (h8 : a6 = 1) : (((0 : Int) ≤ a1) ∧ ((0 : Int) ≤ a3) ∧ (a3 < a4) ∧ ((0 : Int) ≤ a5) ∧ (a5 ≤ 1)) ∧ ((0 : Int) ≤ a2) ∧ (a2 ≤ 5) := by omega
theorem toe172 {a0 a1 : Int} (h0 : a0 ≤ a1) : ¬ (a1 < a0) := toy131 h0
theorem toe173 {a0 a1 a2 a3 : Int} (h0 : a0 ≤ a1) (h1 : a0 = a2) (h2 : a2 = a3) (h3 : a1 ≤ a3) : a1 = a3 := ox18 h0 h1 h2 h3
theorem toe176 {a0 : Int} (h0 : a0 ≤ 19) : a0 ≤ 20 := oz440 h0
theorem toe177 {a0 a1 a2 a3 : Int} (h0 : a0 < a1) (h1 : a1 = a2) (h2 : a2 = a3) (h3 : a3 ≤ 8) (h4 : (0 : Int) ≤ a0) : ((0 : Int) ≤ a0) ∧ (a0 ≤ 7) := by omega
theorem toe178 {a0 a1 : Int} (h0 : a0 ≤ a1) (h1 : a0 = 0) : (0 : Int) ≤ a1 := oz389 h0 h1
theorem toe179 {a0 a1 a2 a3 a4 : Int} (h0 : a0 < a1) (h1 : a1 = a2) (h2 : a2 = a3) (h3 : a3 ≤ 8) (h4 : a4 = 1) : a0 + a4 ≤ 2147483647 := tok94 h0 h1 h2 h3 h4
theorem toe180 {a0 a1 a2 a3 : Int} (h0 : a0 = a1) (h1 : a2 ≤ 19) (h2 : a1 = (a2 + 1)) (h3 : a3 = (a0 - 1)) : a3 ≤ 19 := oz443 h0 h1 h2 h3
theorem toe182 {a0 a1 a2 a3 a4 a5 : Int} (h0 : a0 < a1) (h1 : a1 = a2) (h2 : a2 = a3) (h3 : a4 = a0 + a5) (h4 : a5 = 1) : a4 ≤ a3 := ox21 h0 h1 h2 h3 h4
theorem toe184 {a0 a1 a2 a3 : Int} (h0 : a0 < a1) (h1 : a1 = a2) (h2 : a2 = a3) (h3 : a3 ≤ 8) : a0 ≤ 1000 := tok95 h0 h1 h2 h3
theorem toe185 {a0 a1 a2 a3 a4 a5 a6 : Int} (h0 : a0 = a1) (h1 : a2 = a0) (h2 : a3 = a2) (h3 : a4 = a5 + a6) (h4 : a6 = 1) : (a3 - a4) < (a1 - a5) := oz445 h0 h1 h2 h3 h4
theorem toe186 {a0 a1 : Int} (h0 : a0 < a1) : ¬ (a1 ≤ a0) := ou140 h0
theorem toe187 {a0 a1 a2 a3 a4 a5 a6 : Int} (h0 : ¬ ((a0 ≤ a1) ∧ (a1 ≤ a2))) (h1 : a0 = 0) (h2 : a2 = 1) : ¬ ((((0 : Int) ≤ a3) ∧ ((0 : Int) ≤ a4) ∧ (a4 < a5) ∧ ((0 : Int) ≤ a1) ∧ (a1 ≤ 1)) ∧ ((0 : Int) ≤ a6) ∧ (a6 ≤ 5)) := by omega
theorem toe188 {a0 a1 a2 a3 a4 : Int} (h0 : ¬ (((0 : Int) ≤ a0) ∧ (a0 < a1))) : ¬ ((((0 : Int) ≤ a2) ∧ ((0 : Int) ≤ a0) ∧ (a0 < a1) ∧ ((0 : Int) ≤ a3) ∧ (a3 ≤ 1)) ∧ ((0 : Int) ≤ a4) ∧ (a4 ≤ 5)) := by omega
theorem toe189 {a0 a1 a2 a3 a4 : Int} (h0 : ¬ (((0 : Int) ≤ a0) ∧ (a0 ≤ 5))) : ¬ ((((0 : Int) ≤ a1) ∧ ((0 : Int) ≤ a2) ∧ (a2 < a3) ∧ ((0 : Int) ≤ a4) ∧ (a4 ≤ 1)) ∧ ((0 : Int) ≤ a0) ∧ (a0 ≤ 5)) := by omega
theorem toe190 {a0 a1 : Int} (h0 : a0 ≤ 19) (h1 : a0 = a1) : ¬ (a1 = 20) := by omega
theorem toe191 {a0 a1 a2 : Int} (h0 : a0 ≤ a1) (h1 : a1 ≤ a2) (h2 : a0 = 0) : ((0 : Int) ≤ a1) ∧ (a1 ≤ a2) := oz446 h0 h1 h2
theorem toe192 {a0 a1 a2 a3 : Int} (h0 : a0 = a1) (h1 : a2 = a3) (h2 : a1 = (a2 + 1)) : a0 - 1 = a3 := by omega
theorem toe193 {a0 a1 a2 a3 a4 : Int} (h0 : a0 = a1) (h1 : a2 ≤ a3) (h2 : a1 = (a3 + 1)) (h3 : a4 = (a0 - 1)) : a2 ≤ a4 := oz447 h0 h1 h2 h3
theorem toe194 {a0 a1 a2 a3 a4 : Int} (h0 : a0 = a1) (h1 : a2 = a3) (h2 : a1 = (a2 + 1)) (h3 : a4 = (a0 - 1)) : a4 = a3 := by omega
theorem toe195 {a0 a1 a2 : Int} (h0 : (a0 = 0) ∨ ((a0 + 1) ≤ a1)) (h1 : a1 ≤ 20) (h2 : a2 = 1) : a0 + a2 ≤ 2147483647 := by omega
theorem toe196 {a0 a1 a2 a3 a4 a5 : Int} (h0 : a0 ≤ a1) (h1 : a0 = a2) (h2 : a2 = a3) (h3 : (0 : Int) ≤ a4) (h4 : (a4 = 0) ∨ ((a4 + 1) ≤ a0)) (h5 : a1 = a4 + a5) (h6 : a5 = 1) : a3 - 1 = a4 ∨ (a3 ≤ 0 ∧ a4 = 0) := by omega
theorem toe197 {a0 : Int} (h0 : a0 ≤ 19) : a0 < 21 := oz449 h0
theorem toe198 {a0 a1 : Int} (h0 : a0 ≤ 19) (h1 : a1 = 1) : a0 + a1 ≤ 2147483647 := oz450 h0 h1
theorem toe199 {a0 a1 a2 : Int} (h0 : a0 ≤ 19) (h1 : a1 = a0 + a2) (h2 : a2 = 1) : a1 < 21 := oz451 h0 h1 h2
theorem toe200 {a0 a1 a2 a3 : Int} (h0 : a0 < a1) (h1 : (0 : Int) ≤ a2) (h2 : a1 ≤ 20) (h3 : a0 = a2 + a3) (h4 : a3 = 1) : ((0 : Int) ≤ a2) ∧ (a2 ≤ 19) := by omega
theorem toe201 {a0 a1 a2 a3 : Int} (h0 : a0 < a1) (h1 : a1 = a2) (h2 : a2 = a3) : a0 < a3 := ox20 h0 h1 h2
theorem toe202 {a0 : Int} (h0 : a0 ≤ 21) : a0 ≤ ((21 : Nat) : Int) := by omega
theorem toe203 {a0 a1 a2 a3 : Int} (h0 : a0 = a1) (h1 : a1 = a2) (h2 : a3 = a0) : a3 = a2 := by omega
theorem toe204 {a0 a1 a2 a3 a4 : Int} (h0 : a0 < a1) (h1 : a2 = a1) (h2 : a3 = a2) (h3 : a4 = a3) : (a0 = 0) ∨ ((a0 + 1) ≤ a4) := by omega
theorem toe205 {a0 a1 a2 a3 : Int} (h0 : a0 = a1) (h1 : a2 = a0) (h2 : a3 = a2) (h3 : a1 ≤ 20) : a3 ≤ 20 := oz454 h0 h1 h2 h3
theorem toe206 {a0 a1 a2 a3 : Int} (h0 : a0 < a1) (h1 : a0 = a2 + a3) (h2 : a3 = 1) : (1 : Int) ≤ (a1 - a2) := oz455 h0 h1 h2
theorem toe207 {a0 a1 : Int} (h0 : a0 = 0) : (a0 = 0) ∨ ((a0 + 1) ≤ a1) := tok111 h0
theorem toe208 {a0 a1 : Int} (h0 : a0 = a1) (h1 : a1 ≤ 20) : a0 ≤ 20 := oz457 h0 h1
noncomputable def yw178_116 : kW := ([7469], [142], [], [])
noncomputable def yw178_116_L5 : kW := ([], [142], [], [])
set_option maxRecDepth 100000 in
theorem ke178_116 {i : Nat → Int32} {a : Nat → List Int32} {q : Nat → List Int64} {r : Nat → Nat} (hI : kI i a q) (hr : kr r) (x1 : Int32) (x2 : Int32) (hp0 : ((0 : Int) ≤ x1.toInt) ∧ (x1.toInt ≤ (i 7469).toInt)) (hp1 : (i 7469).toInt ≤ 20) (hp2 : ((0 : Int) ≤ x2.toInt) ∧ (x2.toInt ≤ 7)) : km 1 178 [.ref 116, .int x1, .int x2] (ks i a q r) (kVN yw178_116 i a q r (fun i1 a1 q1 r1 => ((i1 7469).toInt = ((i 7469).toInt + 1)) ∧ kIs (a1 142) (rIns (lF (a 142)) x2 x1.toInt.toNat) ((i 7469).toInt + 1))) := by
  have hG := kG_self yw178_116 hI hr
  refine km_ofN (q := (mi_h178, mi_c178)) rfl (by decide) (Nat.le_of_ble_eq_true rfl) ?_
  intro P hP
  have fi_7469 : ((0 : Int) ≤ (i 7469).toInt) ∧ ((i 7469).toInt ≤ 21) := hG.I.1 7469
  first | refine ft_goL mi_k178 3 5 [(3, .int (i 7469)), (0, .ref 116), (1, .int x1), (2, .int x2)] [] (by rfl) ?_
  have lp1 : ∀ (nz : Nat) (i1 : Nat → Int32) (a1 : Nat → List Int32) (q1 : Nat → List Int64) (r1 : Nat → Nat) (l3_1 : Int32), kG yw178_116_L5 i a q r i1 a1 q1 r1 → l3_1.toInt ≤ (i 7469).toInt → x1.toInt ≤ l3_1.toInt → (i1 7469).toInt = (i 7469).toInt → kPu (a 142) (a1 142) l3_1.toInt (i 7469).toInt → ((l3_1.toInt - x1.toInt)).toNat < nz → ko 1 (mi_h178, mi_c178) P (5, [(3, .int l3_1), (0, .ref 116), (1, .int x1), (2, .int x2)], [], (0, 0), ks i1 a1 q1 r1) := by
    intro nz
    induction nz with
    | zero =>
      intro _ _ _ _ _ _ _ _ _ _ hm
      exact absurd hm (Nat.not_lt_zero _)
    | succ nz ih1 =>
      intro i1 a1 q1 r1 l3_1 hL1 p1_0 p1_1 p1_2 O1_0 hm1
      have fi1_7469 : ((0 : Int) ≤ (i1 7469).toInt) ∧ ((i1 7469).toInt ≤ 21) := hL1.I.1 7469
      have efi1_7469 : (i1 7469).toInt = (i 7469).toInt := hL1.ti 7469 rfl
      refine ft_goL mi_k178 2 7 [(3, .int l3_1), (0, .ref 116), (1, .int x1), (2, .int x2)] [.int x1, .int l3_1] (by rfl) ?_
      refine ft_ifS mi_k178 (decide (l3_1 ≤ x1)) 30 10 [] (by rfl) (fun c => ?_) (fun c => ?_)
      ·
        have c2 : l3_1.toInt ≤ x1.toInt := kd_le c; clear c
        have hG3 := kG_call hG hL1 (by decide +kernel)
        refine ft_goS mi_k178 4 36 [.int x2, .int x1, .ref 142] (by rfl) ?_
        refine ko_iast3 mi_k178.1 (n := 21) (c := 21) (ax := (0, 0, 0, 0, 0)) (mi_k178.2 _ _ (by rfl)) (by rfl) (ksG142 _ _ _ _) (ksA142 _ _ _ _) (hG3.I.2.1 142) rfl (toe9 hp0.1) (toe74 hp0.2 hp1) ?_
        intro a4 ea4 fa4
        have hJ4 := kG_a3 hG3 142 rfl ea4 fa4 ⟨(toe9 hp2.1), (toe75 hp2.2)⟩
        have s5 : ((i1 7469) + 1).toInt = (i1 7469).toInt + (1 : Int32).toInt := kd_add (toe36 fi1_7469.1 ktoe1) (toe37 fi1_7469.2 ktoe1)
        have hJ6 := kG_i hJ4 7469 rfl (v := ((i1 7469) + 1)) ⟨(toe38 fi1_7469.1 s5 ktoe1), (toe76 efi1_7469 hp1 s5 ktoe1)⟩
        first | refine fo_goI mi_k178 fz178_37_6_47 [] (ku i1 7469 ((i1 7469) + 1)) (by rfl) ?_ | refine ft_go mi_k178 6 47 [(3, .int l3_1), (0, .ref 116), (1, .int x1), (2, .int x2)] [] (ku i1 7469 ((i1 7469) + 1)) a4 q1 r1 (by rfl) ?_
        exact ft_ret mi_k178 (by rfl) (hP  _ _ _ _ hJ6 ⟨(toe77 efi1_7469 s5 ktoe1), (kPu_end (m := 21) O1_0 (hL1.I.2.1 142) (toe78 c2 p1_1) (toe9 hp0.1) (toe79 hp0.2 hp1) ea4)⟩)
      ·
        have c7 : x1.toInt < l3_1.toInt := kd_leF c; clear c
        have s8 : (l3_1 - 1).toInt = l3_1.toInt - (1 : Int32).toInt := kd_sub (toe80 c7 hp0.1 ktoe1) (toe81 fi_7469.2 p1_0 ktoe1)
        refine fo_goS mi_k178 fz178_10_8_22 [.int (l3_1 - 1), .ref 142, .int l3_1, .ref 142] rfl ?_
        refine ko_iald3 mi_k178.1 (n := 21) (c := 21) (ax := (0, 0, 0, 0, 0)) (mi_k178.2 _ _ (by rfl)) (by rfl) (ksG142 _ _ _ _) (hL1.I.2.1 142) rfl (toe82 c7 hp0.1 s8 ktoe1) (toe83 fi_7469.2 p1_0 s8 ktoe1) ?_
        have r9 : ((0 : Int) ≤ ((a1 142).getD (l3_1 - 1).toNatClampNeg 0).toInt) ∧ (((a1 142).getD (l3_1 - 1).toNatClampNeg 0).toInt ≤ 7) := hL1.I.2.2.1 142 ((l3_1 - 1).toNatClampNeg)
        refine ko_iast3 mi_k178.1 (n := 21) (c := 21) (ax := (0, 0, 0, 0, 0)) (mi_k178.2 _ _ (by rfl)) (by rfl) (ksG142 _ _ _ _) (ksA142 _ _ _ _) (hL1.I.2.1 142) rfl (toe84 c7 hp0.1) (toe85 hp1 p1_0) ?_
        intro a10 ea10 fa10
        have hJ10 := kG_a3 hL1 142 rfl ea10 fa10 ⟨(toe9 r9.1), (toe75 r9.2)⟩
        have s11 : (l3_1 + (-1)).toInt = l3_1.toInt + ((-1) : Int32).toInt := kd_add (toe86 c7 hp0.1 ktoem1) (toe87 fi_7469.2 p1_0 ktoem1)
        first | refine ft_goL mi_k178 2 5 [(3, .int (l3_1 + (-1))), (0, .ref 116), (1, .int x1), (2, .int x2)] [] (by rfl) ?_
        exact ih1 _ _ _ _ _ hJ10 (toe88 p1_0 s11 ktoem1) (toe89 c7 s11 ktoem1) (toe45 efi1_7469) (kPu_step (y := (l3_1 - 1)) (m := 21) O1_0 (hL1.I.2.1 142) (toe90 c7 hp0.1) (toe91 hp1 p1_0) (toe92 s11 ktoem1) (toe93 s8 ktoe1) ea10 (toe57 p1_0)) (kj_meas (toe94 s11 ktoem1) (toe95 c7) hm1)
  exact lp1 _ _ _ _ _ _ (kG_self _ hG.I hG.R) toe96 (toe57 hp0.2) toe31 (kPu_0 rfl (Int.le_refl _)) (Nat.lt_succ_self _)
noncomputable def yw179_116 : kW := ([7469], [142], [], [])
noncomputable def yw179_116_L12 : kW := ([], [142], [], [])
set_option maxRecDepth 100000 in
theorem ke179_116 {i : Nat → Int32} {a : Nat → List Int32} {q : Nat → List Int64} {r : Nat → Nat} (hI : kI i a q) (hr : kr r) (x1 : Int32) (hp0 : (0 : Int) ≤ x1.toInt) (hp1 : (1 : Int) ≤ (i 7469).toInt) : km 1 179 [.ref 116, .int x1] (ks i a q r) (kVN yw179_116 i a q r (fun i1 a1 q1 r1 => ((i1 7469).toInt = ((i 7469).toInt - 1)) ∧ kIs (a1 142) (rDel (lF (a 142)) x1.toInt.toNat) ((i 7469).toInt - 1))) := by
  have hG := kG_self yw179_116 hI hr
  refine km_ofN (q := (mi_h179, mi_c179)) rfl (by decide) (Nat.le_of_ble_eq_true rfl) ?_
  intro P hP
  have fi_7469 : ((0 : Int) ≤ (i 7469).toInt) ∧ ((i 7469).toInt ≤ 21) := hG.I.1 7469
  have s1 : ((i 7469) - 1).toInt = (i 7469).toInt - (1 : Int32).toInt := kd_sub (toe131 hp1 ktoe1) (toe132 fi_7469.2 ktoe1)
  have hJ2 := kG_i hG 7469 rfl (v := ((i 7469) - 1)) ⟨(toe133 hp1 s1 ktoe1), (toe134 fi_7469.2 s1 ktoe1)⟩
  first | refine fo_go mi_k179 fz179_0_8_12 [(2, .int x1), (0, .ref 116), (1, .int x1)] [] (ku i 7469 ((i 7469) - 1)) a q r (by rfl) ?_ | refine ft_goL mi_k179 8 12 [(2, .int x1), (0, .ref 116), (1, .int x1)] [] (by rfl) ?_ | refine ft_go mi_k179 8 12 [(2, .int x1), (0, .ref 116), (1, .int x1)] [] (ku i 7469 ((i 7469) - 1)) a q r (by rfl) ?_
  have lp3 : ∀ (nz : Nat) (i3 : Nat → Int32) (a3 : Nat → List Int32) (q3 : Nat → List Int64) (r3 : Nat → Nat) (l2_3 : Int32), kG yw179_116_L12 (ku i 7469 ((i 7469) - 1)) a q r i3 a3 q3 r3 → x1.toInt ≤ l2_3.toInt → (i3 7469).toInt = ((i 7469).toInt - 1) → kTa (a 142) (a3 142) x1.toInt l2_3.toInt ((i 7469).toInt - 1) → (((i3 7469).toInt - l2_3.toInt)).toNat < nz → ko 1 (mi_h179, mi_c179) P (12, [(2, .int l2_3), (0, .ref 116), (1, .int x1)], [], (0, 0), ks i3 a3 q3 r3) := by
    intro nz
    induction nz with
    | zero =>
      intro _ _ _ _ _ _ _ _ _ hm
      exact absurd hm (Nat.not_lt_zero _)
    | succ nz ih3 =>
      intro i3 a3 q3 r3 l2_3 hL3 p3_0 p3_1 O3_0 hm3
      have fi3_7469 : ((0 : Int) ≤ (i3 7469).toInt) ∧ ((i3 7469).toInt ≤ 21) := hL3.I.1 7469
      have efi3_7469 : (i3 7469).toInt = ((i 7469) - 1).toInt := hL3.ti 7469 rfl
      refine ft_goL mi_k179 3 17 [(2, .int l2_3), (0, .ref 116), (1, .int x1)] [.int (i3 7469), .int l2_3] (by rfl) ?_
      refine ft_ifS mi_k179 (decide ((i3 7469) ≤ l2_3)) 40 20 [] (by rfl) (fun c => ?_) (fun c => ?_)
      ·
        have c4 : (i3 7469).toInt ≤ l2_3.toInt := kd_le c; clear c
        have hG5 := kG_call hJ2 hL3 (by decide +kernel)
        exact ft_ret mi_k179 (by rfl) (hP  _ _ _ _ hG5 ⟨(toe135 efi3_7469 s1 ktoe1), (kTa_end O3_0 (toe9 hp0) (toe136 c4 efi3_7469 s1 ktoe1))⟩)
      ·
        have c6 : l2_3.toInt < (i3 7469).toInt := kd_leF c; clear c
        have s7 : (l2_3 + 1).toInt = l2_3.toInt + (1 : Int32).toInt := kd_add (toe137 hp0 p3_0 ktoe1) (toe138 c6 fi3_7469.2 ktoe1)
        refine fo_goS mi_k179 fz179_20_8_32 [.int (l2_3 + 1), .ref 142, .int l2_3, .ref 142] rfl ?_
        refine ko_iald3 mi_k179.1 (n := 21) (c := 21) (ax := (0, 0, 0, 0, 0)) (mi_k179.2 _ _ (by rfl)) (by rfl) (ksG142 _ _ _ _) (hL3.I.2.1 142) rfl (toe139 hp0 p3_0 s7 ktoe1) (toe140 c6 fi_7469.2 p3_1 s7 ktoe1) ?_
        have r8 : ((0 : Int) ≤ ((a3 142).getD (l2_3 + 1).toNatClampNeg 0).toInt) ∧ (((a3 142).getD (l2_3 + 1).toNatClampNeg 0).toInt ≤ 7) := hL3.I.2.2.1 142 ((l2_3 + 1).toNatClampNeg)
        refine ko_iast3 mi_k179.1 (n := 21) (c := 21) (ax := (0, 0, 0, 0, 0)) (mi_k179.2 _ _ (by rfl)) (by rfl) (ksG142 _ _ _ _) (ksA142 _ _ _ _) (hL3.I.2.1 142) rfl (toe141 hp0 p3_0) (toe142 c6 fi3_7469.2) ?_
        intro a9 ea9 fa9
        have hJ9 := kG_a3 hL3 142 rfl ea9 fa9 ⟨(toe9 r8.1), (toe75 r8.2)⟩
        first | refine ft_goL mi_k179 2 12 [(2, .int (l2_3 + 1)), (0, .ref 116), (1, .int x1)] [] (by rfl) ?_
        exact ih3 _ _ _ _ _ hJ9 (toe143 p3_0 s7 ktoe1) (toe135 efi3_7469 s1 ktoe1) (kTa_step (y := (l2_3 + 1)) (m := 21) O3_0 (hL3.I.2.1 142) (toe141 hp0 p3_0) (toe57 p3_0) (toe144 c6 fi3_7469.2) (toe145 c6 efi3_7469 s1 ktoe1) (toe47 s7 ktoe1) (toe47 s7 ktoe1) ea9) (kj_meas (toe146 s7 ktoe1) (toe95 c6) hm3)
  exact lp3 _ _ _ _ _ _ (kG_self _ hJ2.I hJ2.R) toe96 (toe147 s1 ktoe1) (kTa_0 rfl (Int.le_refl _)) (Nat.lt_succ_self _)
noncomputable def yzw180_116 : kW := ([7464, 7465, 7466, 7467, 7469], [118, 128, 129, 139, 141, 142, 143, 144, 145], [], [])
noncomputable def yzw180_116_L73 : kW := ([7464, 7465, 7466, 7467, 7469], [118, 128, 129, 139, 141, 142, 143, 144, 145], [], [])
set_option maxRecDepth 100000 in
theorem kz180_116 {i : Nat → Int32} {a : Nat → List Int32} {q : Nat → List Int64} {r : Nat → Nat} (hI : kI i a q) (hr : kr r) (x1 : Int32) (x2 : Int32) (x3 : Int32) (hE_code : kCode i a) : km 15 180 [.ref 116, .int x1, .int x2, .int x3] (ks i a q r) (kVI yzw180_116 i a q r (fun v i1 a1 q1 r1 => (True) ∧ (a1 118 = a 118 ∧ rTop (((0 : Int) ≤ x2.toInt) ∧ (x2.toInt < (i 7424).toInt) ∧ ((0 : Int) ≤ x3.toInt) ∧ (x3.toInt ≤ 1)) i a q x1 v (fun n L => fBp (gKn i a) (a 118) x2 x3 v n L)))) := by
  have hG := kG_self yzw180_116 hI hr
  refine km_ofI (q := (mi_h180, mi_c180)) rfl (by decide) (Nat.le_of_ble_eq_true rfl) ?_
  intro P hP
  refine ft_goL mi_k180 1 1 [(0, .ref 116), (1, .int x1), (2, .int x2), (3, .int x3)] [.int x1] (by rfl) ?_
  refine ko_callPI mi_k180.1 (pc := 1) (ls := [(0, .ref 116), (1, .int x1), (2, .int x2), (3, .int x3)]) (st := [.int x1]) (h := ks i a q r) (i := (.invokestatic 127, 3, 133, 0, 9, 0, 382)) (mi_k180.2 _ _ (by rfl)) (ft_invS mi_pq133 (by rfl)) (cy := mi_c133) mi_pq133 rfl (kc133 hG.I hG.R x1) (by decide) ?_
  intro vg1 hg1
  rcases hg1 with ⟨eg1, hg1⟩ | ⟨eg1, hg1⟩
  ·
    subst eg1
    have z2 : ((0 : Int) ≤ x1.toInt) ∧ (x1.toInt ≤ 5) := hg1
    refine ft_goS mi_k180 3 9 [.int x2, .ref 116] (by rfl) ?_
    refine ko_callPI mi_k180.1 (pc := 9) (ls := [(0, .ref 116), (1, .int x1), (2, .int x2), (3, .int x3)]) (st := [.int x2, .ref 116]) (h := ks i a q r) (i := (.invokevirtual 137, 3, 132, 0, 9, 0, 387)) (mi_k180.2 _ _ (by rfl)) (ft_invS mi_pq132 (by rfl)) (cy := mi_c132) mi_pq132 rfl (kc132_116 hG.I hG.R x2) (by decide) ?_
    intro vg3 hg3
    rcases hg3 with ⟨eg3, hg3⟩ | ⟨eg3, hg3⟩
    ·
      subst eg3
      have fi_7424 : ((0 : Int) ≤ (i 7424).toInt) ∧ ((i 7424).toInt ≤ 8) := hG.I.1 7424
      have z4 : ((0 : Int) ≤ x2.toInt) ∧ (x2.toInt < (i 7424).toInt) := hg3
      refine ft_goS mi_k180 4 18 [.int 1, .int 0, .int x3] (by rfl) ?_
      refine ko_callPI mi_k180.1 (pc := 18) (ls := [(0, .ref 116), (1, .int x1), (2, .int x2), (3, .int x3)]) (st := [.int 1, .int 0, .int x3]) (h := ks i a q r) (i := (.invokestatic 119, 3, 131, 0, 9, 0, 379)) (mi_k180.2 _ _ (by rfl)) (ft_invS mi_pq131 (by rfl)) (cy := mi_c131) mi_pq131 rfl (kc131 hG.I hG.R x3 0 1) (by decide) ?_
      intro vg5 hg5
      rcases hg5 with ⟨eg5, hg5⟩ | ⟨eg5, hg5⟩
      ·
        subst eg5
        have z6 : ((0 : Int32).toInt ≤ x3.toInt) ∧ (x3.toInt ≤ (1 : Int32).toInt) := hg5
        refine ft_goS mi_k180 3 28 [.int x1, .ref 116] (by rfl) ?_
        refine ko_callPI mi_k180.1 (pc := 28) (ls := [(0, .ref 116), (1, .int x1), (2, .int x2), (3, .int x3)]) (st := [.int x1, .ref 116]) (h := ks i a q r) (i := (.invokevirtual 276, 3, 173, 0, 9, 0, 410)) (mi_k180.2 _ _ (by rfl)) (ft_invS mi_pq173 (by rfl)) (cy := mi_c173) mi_pq173 rfl (kg173_116 hG.I hG.R x1 (toe18 z2.1 z2.2)) (by decide) ?_
        intro vg7 hg7
        obtain ⟨hg7, og7⟩ := hg7
        have z8 : vg7.toInt ≤ 0 := hg7
        refine ft_goL mi_k180 2 35 [(4, .int vg7), (0, .ref 116), (1, .int x1), (2, .int x2), (3, .int x3)] [.int vg7] (by rfl) ?_
        refine ft_ifS mi_k180 (decide (0 ≤ vg7)) 41 38 [] (by rfl) (fun c => ?_) (fun c => ?_)
        ·
          have c9 : (0 : Int32).toInt ≤ vg7.toInt := kd_le c; clear c
          refine ft_goS mi_k180 2 43 [.int x1, .ref 116] (by rfl) ?_
          refine ko_callN mi_k180.1 (pc := 43) (ls := [(4, .int vg7), (0, .ref 116), (1, .int x1), (2, .int x2), (3, .int x3)]) (st := [.int x1, .ref 116]) (h := ks i a q r) (i := (.invokevirtual 279, 3, 174, 0, 9, 0, 411)) (mi_k180.2 _ _ (by rfl)) (ft_invS mi_pq174 (by rfl)) (cy := mi_c174) mi_pq174 rfl (kg174_116 hG.I hG.R x1 (toe18 z2.1 z2.2)) (by decide) ?_
          intro ig10 ag10 qg10 rg10 kg10 hg10
          have hGg10 := kG_call hG kg10 (by decide +kernel)
          obtain ⟨hg10, og10⟩ := hg10
          have fig10_7469 : ((0 : Int) ≤ (ig10 7469).toInt) ∧ ((ig10 7469).toInt ≤ 21) := hGg10.I.1 7469
          have z11 : (ig10 7469).toInt ≤ 20 := hg10
          have tJ12 : kIs (ag10 142) (lF (ag10 142)) ((ig10 7469).toInt) := fun _ _ => rfl
          refine ft_goS mi_k180 3 52 [.int 20, .int (ig10 7469)] (by rfl) ?_
          refine ft_ifS mi_k180 ((ig10 7469) != 20) 58 55 [] (by rfl) (fun c => ?_) (fun c => ?_)
          ·
            have c13 : (ig10 7469).toInt ≠ (20 : Int32).toInt := kd_ne c; clear c
            first | refine fo_goL mi_k180 fz180_58_9_73 [(8, .int 0), (7, .int (ig10 7469)), (6, .int (-1)), (5, .int 0), (4, .int vg7), (0, .ref 116), (1, .int x1), (2, .int x2), (3, .int x3)] [] (by rfl) ?_ | refine ft_goL mi_k180 9 73 [(8, .int 0), (7, .int (ig10 7469)), (6, .int (-1)), (5, .int 0), (4, .int vg7), (0, .ref 116), (1, .int x1), (2, .int x2), (3, .int x3)] [] (by rfl) ?_
            have lp14 : ∀ (nz : Nat) (i14 : Nat → Int32) (a14 : Nat → List Int32) (q14 : Nat → List Int64) (r14 : Nat → Nat) (l8_14 : Int32) (l6_14 : Int32) (l5_14 : Int32), kG yzw180_116_L73 ig10 ag10 qg10 rg10 i14 a14 q14 r14 → (0 : Int) ≤ l8_14.toInt → (ig10 7469).toInt = (i14 7469).toInt → (ig10 7469).toInt ≤ 19 → l8_14.toInt ≤ ((ig10 7469).toInt + 1) → (l6_14, l5_14.toInt) = gBst (fun p => gPur (gKn i a) (a 118) (rIns (lF (ag10 142)) x2 p) ((ig10 7469).toInt + 1).toNat x2) (-1) 0 l8_14.toInt.toNat → kIs (a14 142) (lF (ag10 142)) (ig10 7469).toInt → a14 118 = a 118 → ((((ig10 7469).toInt + 1) - l8_14.toInt)).toNat < nz → ko 15 (mi_h180, mi_c180) P (73, [(8, .int l8_14), (7, .int (ig10 7469)), (6, .int l6_14), (5, .int l5_14), (4, .int vg7), (0, .ref 116), (1, .int x1), (2, .int x2), (3, .int x3)], [], (0, 0), ks i14 a14 q14 r14) := by
              intro nz
              induction nz with
              | zero =>
                intro _ _ _ _ _ _ _ _ _ _ _ _ _ _ _ hm
                exact absurd hm (Nat.not_lt_zero _)
              | succ nz ih14 =>
                intro i14 a14 q14 r14 l8_14 l6_14 l5_14 hL14 p14_0 p14_1 p14_2 p14_3 O14_0 O14_1 O14_2 hm14
                have fi14_7469 : ((0 : Int) ≤ (i14 7469).toInt) ∧ ((i14 7469).toInt ≤ 21) := hL14.I.1 7469
                refine ft_goL mi_k180 2 77 [(8, .int l8_14), (7, .int (ig10 7469)), (6, .int l6_14), (5, .int l5_14), (4, .int vg7), (0, .ref 116), (1, .int x1), (2, .int x2), (3, .int x3)] [.int (ig10 7469), .int l8_14] (by rfl) ?_
                refine ft_ifS mi_k180 (decide ((ig10 7469) < l8_14)) 124 80 [] (by rfl) (fun c => ?_) (fun c => ?_)
                ·
                  have c15 : (ig10 7469).toInt < l8_14.toInt := kd_lt c; clear c
                  have hG16 := kG_call hGg10 hL14 (by decide +kernel)
                  refine ft_goS mi_k180 1 125 [.int x3] (by rfl) ?_
                  refine ft_ifS mi_k180 (x3 != 0) 133 128 [] (by rfl) (fun c => ?_) (fun c => ?_)
                  ·
                    have c17 : x3.toInt ≠ (0 : Int32).toInt := kd_ne c; clear c
                    first | refine ft_goS mi_k180 1 135 [.int l6_14] (by rfl) ?_
                    exact ft_ret mi_k180 (by rfl) (hP l6_14 _ _ _ _ hG16 ⟨trivial, ⟨(show a14 118 = a 118 from (by first | rfl | (simp only [O14_2, sMn, sMx]; done) | (simp only [O14_2, sMn, sMx]; rfl))), (rTop_go (rok (toe66 z2.1 z2.2 z4.1 z4.2 z6.1 z6.2 ktoe0 ktoe1)) og7 (toe67 c9 ktoe0) og10 ⟨fun h => absurd h (toe69 p14_2), fun _ => ⟨fun h => absurd h (toe70 c17 z6.1 ktoe0), fun _ => congrArg Prod.fst (gBst_len O14_0 (kj_np1 (toe68 c15 p14_3) (toe9 fig10_7469.1)))⟩⟩)⟩⟩)
                  ·
                    have c18 : x3.toInt = (0 : Int32).toInt := kd_neF c; clear c
                    first | refine ft_goS mi_k180 2 135 [.int l5_14] (by rfl) ?_
                    exact ft_ret mi_k180 (by rfl) (hP l5_14 _ _ _ _ hG16 ⟨trivial, ⟨(show a14 118 = a 118 from (by first | rfl | (simp only [O14_2, sMn, sMx]; done) | (simp only [O14_2, sMn, sMx]; rfl))), (rTop_go (rok (toe66 z2.1 z2.2 z4.1 z4.2 z6.1 z6.2 ktoe0 ktoe1)) og7 (toe67 c9 ktoe0) og10 ⟨fun h => absurd h (toe69 p14_2), fun _ => ⟨fun _ => congrArg Prod.snd (gBst_len O14_0 (kj_np1 (toe68 c15 p14_3) (toe9 fig10_7469.1))), fun h => absurd h (toe73 c18 z6.1 ktoe0)⟩⟩)⟩⟩)
                ·
                  have c19 : l8_14.toInt ≤ (ig10 7469).toInt := kd_ltF c; clear c
                  refine ft_goS mi_k180 3 84 [.int x2, .int l8_14, .ref 116] (by rfl) ?_
                  refine ko_callN mi_k180.1 (pc := 84) (ls := [(8, .int l8_14), (7, .int (ig10 7469)), (6, .int l6_14), (5, .int l5_14), (4, .int vg7), (0, .ref 116), (1, .int x1), (2, .int x2), (3, .int x3)]) (st := [.int x2, .int l8_14, .ref 116]) (h := ks i14 a14 q14 r14) (i := (.invokevirtual 284, 3, 178, 0, 9, 0, 428)) (mi_k180.2 _ _ (by rfl)) (ft_invS mi_pq178 (by rfl)) (cy := mi_c178) mi_pq178 rfl (ke178_116 hL14.I hL14.R l8_14 x2 (toe164 c19 p14_0 p14_1) (toe165 p14_1 p14_2) (toe99 fi_7424.2 z4.1 z4.2)) (by decide) ?_
                  intro ig20 ag20 qg20 rg20 kg20 hg20
                  have hGg20 := kG_call hL14 kg20 (by decide +kernel)
                  obtain ⟨hg20, og20⟩ := hg20
                  have fig20_7469 : ((0 : Int) ≤ (ig20 7469).toInt) ∧ ((ig20 7469).toInt ≤ 21) := hGg20.I.1 7469
                  have z21 : (ig20 7469).toInt = ((i14 7469).toInt + 1) := hg20
                  have oJ22 := og20
                  rw [((toe166 p14_1) : (i14 7469).toInt = (ig10 7469).toInt)] at oJ22
                  have tJ23 : kIs (ag20 142) (rIns (lF (ag10 142)) x2 l8_14.toInt.toNat) ((ig10 7469).toInt + 1) := (kIs_lF oJ22 O14_1 (kj_natle (toe9 p14_0) (toe57 c19)))
                  refine ft_goS mi_k180 2 89 [.int x2, .ref 116] (by rfl) ?_
                  have hG24 := kG_call hGg10 hGg20 (by decide +kernel)
                  refine ko_callI mi_k180.1 (pc := 89) (ls := [(8, .int l8_14), (7, .int (ig10 7469)), (6, .int l6_14), (5, .int l5_14), (4, .int vg7), (0, .ref 116), (1, .int x1), (2, .int x2), (3, .int x3)]) (st := [.int x2, .ref 116]) (h := ks ig20 ag20 qg20 rg20) (i := (.invokevirtual 288, 3, 172, 0, 9, 0, 429)) (mi_k180.2 _ _ (by rfl)) (ft_invS mi_pq172 (by rfl)) (cy := mi_c172) mi_pq172 rfl (kg172_116 hGg20.I hGg20.R x2 (toe99 fi_7424.2 z4.1 z4.2) (kCode_of (i1 := ig20) hE_code (hG24.fi 7432 rfl) (hG24.fa 120 rfl) (hG24.fa 121 rfl) (hG24.fa 122 rfl) (hG24.fa 123 rfl))) (by decide) ?_
                  intro vg25 ig25 ag25 qg25 rg25 kg25 hg25
                  have hGg25 := kG_call hGg20 kg25 (by decide +kernel)
                  obtain ⟨hg25, og25⟩ := hg25
                  have oP26 := og25.2.1
                  have hG27 := kG_call hGg10 hGg20 (by decide +kernel)
                  rw [(gKn_fr hG27 (by decide +kernel) : gKn ig20 ag20 = gKn i a)] at oP26
                  have pv28 : vg25 = gPur (gKn i a) (a 118) (rIns (lF (ag10 142)) x2 l8_14.toInt.toNat) ((ig10 7469).toInt + 1).toNat x2 := by
                    have e := gPur_of (R := rIns (lF (ag10 142)) x2 l8_14.toInt.toNat) oP26 (N := a 118) (show ag20 118 = a 118 from (by first | rfl | (simp only [kg20.fa 118 rfl, O14_2, sMn, sMx]; done) | (simp only [kg20.fa 118 rfl, O14_2, sMn, sMx]; rfl))) rfl (kIs_c tJ23 rfl (Int.le_of_eq (toe167 p14_1 z21))) (toe9 fig20_7469.1)
                    rw [((toe167 p14_1 z21) : (ig20 7469).toInt = (ig10 7469).toInt + 1)] at e
                    exact e
                  have q29 : ag25 118 = ag20 118 := og25.1
                  refine ft_goL mi_k180 3 97 [(9, .int vg25), (8, .int l8_14), (7, .int (ig10 7469)), (6, .int l6_14), (5, .int l5_14), (4, .int vg7), (0, .ref 116), (1, .int x1), (2, .int x2), (3, .int x3)] [.int l8_14, .ref 116] (by rfl) ?_
                  have fig25_7469 : ((0 : Int) ≤ (ig25 7469).toInt) ∧ ((ig25 7469).toInt ≤ 21) := hGg25.I.1 7469
                  have efig25_7469 : (ig25 7469).toInt = (ig20 7469).toInt := kg25.ti 7469 rfl
                  refine ko_callN mi_k180.1 (pc := 97) (ls := [(9, .int vg25), (8, .int l8_14), (7, .int (ig10 7469)), (6, .int l6_14), (5, .int l5_14), (4, .int vg7), (0, .ref 116), (1, .int x1), (2, .int x2), (3, .int x3)]) (st := [.int l8_14, .ref 116]) (h := ks ig25 ag25 qg25 rg25) (i := (.invokevirtual 291, 3, 179, 0, 9, 0, 430)) (mi_k180.2 _ _ (by rfl)) (ft_invS mi_pq179 (by rfl)) (cy := mi_c179) mi_pq179 rfl (ke179_116 hGg25.I hGg25.R l8_14 (toe9 p14_0) (toe148 efig25_7469 fi14_7469.1 z21)) (by decide) ?_
                  intro ig30 ag30 qg30 rg30 kg30 hg30
                  have hGg30 := kG_call hGg25 kg30 (by decide +kernel)
                  obtain ⟨hg30, og30⟩ := hg30
                  have fig30_7469 : ((0 : Int) ≤ (ig30 7469).toInt) ∧ ((ig30 7469).toInt ≤ 21) := hGg30.I.1 7469
                  have z31 : (ig30 7469).toInt = ((ig25 7469).toInt - 1) := hg30
                  have oJ32 := og30
                  rw [((toe168 efig25_7469 p14_1 z21) : (ig25 7469).toInt - 1 = (ig10 7469).toInt)] at oJ32
                  have tJ33 : kIs (ag30 142) (lF (ag10 142)) ((ig10 7469).toInt) := (kIs_back (kIs_c tJ23 (kg25.fa 142 rfl) (Int.le_refl _)) oJ32)
                  refine ft_goS mi_k180 2 104 [.int l6_14, .int vg25] (by rfl) ?_
                  refine ft_ifS mi_k180 (decide (l6_14 < vg25)) 110 107 [] (by rfl) (fun c => ?_) (fun c => ?_)
                  ·
                    have c34 : l6_14.toInt < vg25.toInt := kd_lt c; clear c
                    have s35 : (l8_14 + 1).toInt = l8_14.toInt + (1 : Int32).toInt := kd_add (toe36 p14_0 ktoe1) (toe150 c19 fig10_7469.2 ktoe1)
                    first | refine fo_goL mi_k180 fz180_62_6_73 [(8, .int (l8_14 + 1)), (5, .int l8_14), (6, .int vg25), (9, .int vg25), (7, .int (ig10 7469)), (4, .int vg7), (0, .ref 116), (1, .int x1), (2, .int x2), (3, .int x3)] [] (by rfl) ?_ | refine fo_goL mi_k180 fz180_110_6_73 [(8, .int (l8_14 + 1)), (5, .int l8_14), (6, .int vg25), (9, .int vg25), (7, .int (ig10 7469)), (4, .int vg7), (0, .ref 116), (1, .int x1), (2, .int x2), (3, .int x3)] [] (by rfl) ?_ | refine ft_goL mi_k180 6 73 [(8, .int (l8_14 + 1)), (5, .int l8_14), (6, .int vg25), (9, .int vg25), (7, .int (ig10 7469)), (4, .int vg7), (0, .ref 116), (1, .int x1), (2, .int x2), (3, .int x3)] [] (by rfl) ?_
                    refine ko_perm [(8, .int (l8_14 + 1)), (7, .int (ig10 7469)), (6, .int vg25), (5, .int l8_14), (4, .int vg7), (0, .ref 116), (1, .int x1), (2, .int x2), (3, .int x3)] (List.forall_mem_cons.mpr ⟨(List.Mem.head _), (List.forall_mem_cons.mpr ⟨(List.Mem.tail _ (List.Mem.tail _ (List.Mem.tail _ (List.Mem.tail _ (List.Mem.head _))))), (List.forall_mem_cons.mpr ⟨(List.Mem.tail _ (List.Mem.tail _ (List.Mem.head _))), (List.forall_mem_cons.mpr ⟨(List.Mem.tail _ (List.Mem.head _)), (List.forall_mem_cons.mpr ⟨(List.Mem.tail _ (List.Mem.tail _ (List.Mem.tail _ (List.Mem.tail _ (List.Mem.tail _ (List.Mem.head _)))))), (List.forall_mem_cons.mpr ⟨(List.Mem.tail _ (List.Mem.tail _ (List.Mem.tail _ (List.Mem.tail _ (List.Mem.tail _ (List.Mem.tail _ (List.Mem.head _))))))), (List.forall_mem_cons.mpr ⟨(List.Mem.tail _ (List.Mem.tail _ (List.Mem.tail _ (List.Mem.tail _ (List.Mem.tail _ (List.Mem.tail _ (List.Mem.tail _ (List.Mem.head _)))))))), (List.forall_mem_cons.mpr ⟨(List.Mem.tail _ (List.Mem.tail _ (List.Mem.tail _ (List.Mem.tail _ (List.Mem.tail _ (List.Mem.tail _ (List.Mem.tail _ (List.Mem.tail _ (List.Mem.head _))))))))), (List.forall_mem_cons.mpr ⟨(List.Mem.tail _ (List.Mem.tail _ (List.Mem.tail _ (List.Mem.tail _ (List.Mem.tail _ (List.Mem.tail _ (List.Mem.tail _ (List.Mem.tail _ (List.Mem.tail _ (List.Mem.head _)))))))))), (fun _ h => absurd h List.not_mem_nil)⟩)⟩)⟩)⟩)⟩)⟩)⟩)⟩)⟩) ?_
                    exact ih14 _ _ _ _ _ _ _ hGg30 (toe38 p14_0 s35 ktoe1) (toe169 efig25_7469 p14_1 z21 z31) (toe152 p14_2) (toe153 c19 s35 ktoe1) (kT2m (gBst_up (w1 := l8_14) O14_0 pv28 (toe154 c34) (toe9 p14_0) (toe47 s35 ktoe1) toe31) (kj_v toe31) rfl) tJ33 (by first | rfl | (simp only [kg30.fa 118 rfl, q29, kg20.fa 118 rfl, O14_2, sMn, sMx]; done) | (simp only [kg30.fa 118 rfl, q29, kg20.fa 118 rfl, O14_2, sMn, sMx]; rfl)) (kj_meas (toe155 s35 ktoe1) (toe156 c19) hm14)
                  ·
                    have c36 : vg25.toInt ≤ l6_14.toInt := kd_ltF c; clear c
                    have s37 : (l8_14 + 1).toInt = l8_14.toInt + (1 : Int32).toInt := kd_add (toe36 p14_0 ktoe1) (toe150 c19 fig10_7469.2 ktoe1)
                    first | refine ft_goL mi_k180 3 73 [(8, .int (l8_14 + 1)), (9, .int vg25), (7, .int (ig10 7469)), (6, .int l6_14), (5, .int l5_14), (4, .int vg7), (0, .ref 116), (1, .int x1), (2, .int x2), (3, .int x3)] [] (by rfl) ?_
                    refine ko_perm [(8, .int (l8_14 + 1)), (7, .int (ig10 7469)), (6, .int l6_14), (5, .int l5_14), (4, .int vg7), (0, .ref 116), (1, .int x1), (2, .int x2), (3, .int x3)] (List.forall_mem_cons.mpr ⟨(List.Mem.head _), (List.forall_mem_cons.mpr ⟨(List.Mem.tail _ (List.Mem.tail _ (List.Mem.head _))), (List.forall_mem_cons.mpr ⟨(List.Mem.tail _ (List.Mem.tail _ (List.Mem.tail _ (List.Mem.head _)))), (List.forall_mem_cons.mpr ⟨(List.Mem.tail _ (List.Mem.tail _ (List.Mem.tail _ (List.Mem.tail _ (List.Mem.head _))))), (List.forall_mem_cons.mpr ⟨(List.Mem.tail _ (List.Mem.tail _ (List.Mem.tail _ (List.Mem.tail _ (List.Mem.tail _ (List.Mem.head _)))))), (List.forall_mem_cons.mpr ⟨(List.Mem.tail _ (List.Mem.tail _ (List.Mem.tail _ (List.Mem.tail _ (List.Mem.tail _ (List.Mem.tail _ (List.Mem.head _))))))), (List.forall_mem_cons.mpr ⟨(List.Mem.tail _ (List.Mem.tail _ (List.Mem.tail _ (List.Mem.tail _ (List.Mem.tail _ (List.Mem.tail _ (List.Mem.tail _ (List.Mem.head _)))))))), (List.forall_mem_cons.mpr ⟨(List.Mem.tail _ (List.Mem.tail _ (List.Mem.tail _ (List.Mem.tail _ (List.Mem.tail _ (List.Mem.tail _ (List.Mem.tail _ (List.Mem.tail _ (List.Mem.head _))))))))), (List.forall_mem_cons.mpr ⟨(List.Mem.tail _ (List.Mem.tail _ (List.Mem.tail _ (List.Mem.tail _ (List.Mem.tail _ (List.Mem.tail _ (List.Mem.tail _ (List.Mem.tail _ (List.Mem.tail _ (List.Mem.head _)))))))))), (fun _ h => absurd h List.not_mem_nil)⟩)⟩)⟩)⟩)⟩)⟩)⟩)⟩)⟩) ?_
                    exact ih14 _ _ _ _ _ _ _ hGg30 (toe38 p14_0 s37 ktoe1) (toe169 efig25_7469 p14_1 z21 z31) (toe152 p14_2) (toe153 c19 s37 ktoe1) (kT2m (gBst_no O14_0 pv28 (toe57 c36) (toe9 p14_0) (toe47 s37 ktoe1)) (kj_v toe31) toe31) tJ33 (by first | rfl | (simp only [kg30.fa 118 rfl, q29, kg20.fa 118 rfl, O14_2, sMn, sMx]; done) | (simp only [kg30.fa 118 rfl, q29, kg20.fa 118 rfl, O14_2, sMn, sMx]; rfl)) (kj_meas (toe155 s37 ktoe1) (toe156 c19) hm14)
            exact lp14 _ _ _ _ _ _ _ _ (kG_self _ hGg10.I hGg10.R) (toe19 ktoe0) toe31 (toe157 c13 z11 ktoe20) (toe158 fig10_7469.1 ktoe0) (kT2m (gBst_0 ktoe0) rfl ktoe0) tJ12 (by first | rfl | (simp only [kg10.fa 118 rfl, sMn, sMx]; done) | (simp only [kg10.fa 118 rfl, sMn, sMx]; rfl)) (Nat.lt_succ_self _)
          ·
            have c38 : (ig10 7469).toInt = (20 : Int32).toInt := kd_neF c; clear c
            refine ft_goS mi_k180 1 57 [.int (-5)] (by rfl) ?_
            exact ft_ret mi_k180 (by rfl) (hP (-5) _ _ _ _ hGg10 ⟨trivial, ⟨(show ag10 118 = a 118 from (by first | rfl | (simp only [kg10.fa 118 rfl, sMn, sMx]; done) | (simp only [kg10.fa 118 rfl, sMn, sMx]; rfl))), (rTop_go (rok (toe66 z2.1 z2.2 z4.1 z4.2 z6.1 z6.2 ktoe0 ktoe1)) og7 (toe67 c9 ktoe0) og10 ⟨fun _ => rfl, fun h => absurd h (toe159 c38 ktoe20)⟩)⟩⟩)
        ·
          have c39 : vg7.toInt < (0 : Int32).toInt := kd_leF c; clear c
          refine ft_goS mi_k180 1 40 [.int vg7] (by rfl) ?_
          exact ft_ret mi_k180 (by rfl) (hP vg7 _ _ _ _ hG ⟨trivial, ⟨(show a 118 = a 118 from rfl), (rTop_bar (rok (toe66 z2.1 z2.2 z4.1 z4.2 z6.1 z6.2 ktoe0 ktoe1)) og7 (toe160 c39 ktoe0))⟩⟩)
      ·
        subst eg5
        have z40 : ¬ (((0 : Int32).toInt ≤ x3.toInt) ∧ (x3.toInt ≤ (1 : Int32).toInt)) := hg5
        first | refine fo_goS mi_k180 fz180_4_2_25 [.int (-1)] (by rfl) ?_ | refine fo_goS mi_k180 fz180_12_2_25 [.int (-1)] (by rfl) ?_ | refine fo_goS mi_k180 fz180_21_2_25 [.int (-1)] (by rfl) ?_
        exact ft_ret mi_k180 (by rfl) (hP (-1) _ _ _ _ hG ⟨trivial, ⟨(show a 118 = a 118 from rfl), (Or.inl ⟨(toe161 z40 ktoe0 ktoe1), rfl⟩)⟩⟩)
    ·
      subst eg3
      have fi_7424 : ((0 : Int) ≤ (i 7424).toInt) ∧ ((i 7424).toInt ≤ 8) := hG.I.1 7424
      have z41 : ¬ (((0 : Int) ≤ x2.toInt) ∧ (x2.toInt < (i 7424).toInt)) := hg3
      first | refine fo_goS mi_k180 fz180_4_2_25 [.int (-1)] (by rfl) ?_ | refine fo_goS mi_k180 fz180_12_2_25 [.int (-1)] (by rfl) ?_ | refine fo_goS mi_k180 fz180_21_2_25 [.int (-1)] (by rfl) ?_
      exact ft_ret mi_k180 (by rfl) (hP (-1) _ _ _ _ hG ⟨trivial, ⟨(show a 118 = a 118 from rfl), (Or.inl ⟨(toe162 z41), rfl⟩)⟩⟩)
  ·
    subst eg1
    have z42 : ¬ (((0 : Int) ≤ x1.toInt) ∧ (x1.toInt ≤ 5)) := hg1
    first | refine fo_goS mi_k180 fz180_4_2_25 [.int (-1)] (by rfl) ?_ | refine fo_goS mi_k180 fz180_12_2_25 [.int (-1)] (by rfl) ?_ | refine fo_goS mi_k180 fz180_21_2_25 [.int (-1)] (by rfl) ?_
    have fi_7424 : ((0 : Int) ≤ (i 7424).toInt) ∧ ((i 7424).toInt ≤ 8) := hG.I.1 7424
    exact ft_ret mi_k180 (by rfl) (hP (-1) _ _ _ _ hG ⟨trivial, ⟨(show a 118 = a 118 from rfl), (Or.inl ⟨(toe163 z42), rfl⟩)⟩⟩)
noncomputable def yzw181_116 : kW := ([7464, 7465, 7466, 7467, 7469], [118, 128, 129, 139, 141, 142, 143, 144, 145], [], [])
noncomputable def yzw181_116_L82 : kW := ([7464, 7465, 7466, 7467, 7469], [118, 128, 129, 139, 141, 142, 143, 144, 145], [], [])
set_option maxRecDepth 100000 in
theorem kz181_116 {i : Nat → Int32} {a : Nat → List Int32} {q : Nat → List Int64} {r : Nat → Nat} (hI : kI i a q) (hr : kr r) (x1 : Int32) (x2 : Int32) (x3 : Int32) (x4 : Int32) (hE_code : kCode i a) : km 15 181 [.ref 116, .int x1, .int x2, .int x3, .int x4] (ks i a q r) (kVI yzw181_116 i a q r (fun v i1 a1 q1 r1 => (True) ∧ (a1 118 = a 118 ∧ rTop (((0 : Int) ≤ x2.toInt) ∧ ((0 : Int) ≤ x3.toInt) ∧ (x3.toInt < (i 7424).toInt) ∧ ((0 : Int) ≤ x4.toInt) ∧ (x4.toInt ≤ 1)) i a q x1 v (fun n L => fHi (gKn i a) (a 118) (i 7424) x2 x3 x4 v n L)))) := by
  have hG := kG_self yzw181_116 hI hr
  refine km_ofI (q := (mi_h181, mi_c181)) rfl (by decide) (Nat.le_of_ble_eq_true rfl) ?_
  intro P hP
  refine ft_goL mi_k181 1 1 [(0, .ref 116), (1, .int x1), (2, .int x2), (3, .int x3), (4, .int x4)] [.int x1] (by rfl) ?_
  refine ko_callPI mi_k181.1 (pc := 1) (ls := [(0, .ref 116), (1, .int x1), (2, .int x2), (3, .int x3), (4, .int x4)]) (st := [.int x1]) (h := ks i a q r) (i := (.invokestatic 127, 3, 133, 0, 9, 0, 382)) (mi_k181.2 _ _ (by rfl)) (ft_invS mi_pq133 (by rfl)) (cy := mi_c133) mi_pq133 rfl (kc133 hG.I hG.R x1) (by decide) ?_
  intro vg1 hg1
  rcases hg1 with ⟨eg1, hg1⟩ | ⟨eg1, hg1⟩
  ·
    subst eg1
    have z2 : ((0 : Int) ≤ x1.toInt) ∧ (x1.toInt ≤ 5) := hg1
    refine ft_goS mi_k181 2 8 [.int x2] (by rfl) ?_
    refine ft_ifS mi_k181 (decide (x2 < 0)) 29 11 [] (by rfl) (fun c => ?_) (fun c => ?_)
    ·
      have c3 : x2.toInt < (0 : Int32).toInt := kd_lt c; clear c
      refine ft_goS mi_k181 1 30 [.int (-1)] (by rfl) ?_
      have fi_7424 : ((0 : Int) ≤ (i 7424).toInt) ∧ ((i 7424).toInt ≤ 8) := hG.I.1 7424
      exact ft_ret mi_k181 (by rfl) (hP (-1) _ _ _ _ hG ⟨trivial, ⟨(show a 118 = a 118 from rfl), (Or.inl ⟨(toe170 c3 ktoe0), rfl⟩)⟩⟩)
    ·
      have c4 : (0 : Int32).toInt ≤ x2.toInt := kd_ltF c; clear c
      refine ft_goS mi_k181 2 13 [.int x3, .ref 116] (by rfl) ?_
      refine ko_callPI mi_k181.1 (pc := 13) (ls := [(0, .ref 116), (1, .int x1), (2, .int x2), (3, .int x3), (4, .int x4)]) (st := [.int x3, .ref 116]) (h := ks i a q r) (i := (.invokevirtual 137, 3, 132, 0, 9, 0, 387)) (mi_k181.2 _ _ (by rfl)) (ft_invS mi_pq132 (by rfl)) (cy := mi_c132) mi_pq132 rfl (kc132_116 hG.I hG.R x3) (by decide) ?_
      intro vg5 hg5
      rcases hg5 with ⟨eg5, hg5⟩ | ⟨eg5, hg5⟩
      ·
        subst eg5
        have fi_7424 : ((0 : Int) ≤ (i 7424).toInt) ∧ ((i 7424).toInt ≤ 8) := hG.I.1 7424
        have z6 : ((0 : Int) ≤ x3.toInt) ∧ (x3.toInt < (i 7424).toInt) := hg5
        refine ft_goS mi_k181 4 23 [.int 1, .int 0, .int x4] (by rfl) ?_
        refine ko_callPI mi_k181.1 (pc := 23) (ls := [(0, .ref 116), (1, .int x1), (2, .int x2), (3, .int x3), (4, .int x4)]) (st := [.int 1, .int 0, .int x4]) (h := ks i a q r) (i := (.invokestatic 119, 3, 131, 0, 9, 0, 379)) (mi_k181.2 _ _ (by rfl)) (ft_invS mi_pq131 (by rfl)) (cy := mi_c131) mi_pq131 rfl (kc131 hG.I hG.R x4 0 1) (by decide) ?_
        intro vg7 hg7
        rcases hg7 with ⟨eg7, hg7⟩ | ⟨eg7, hg7⟩
        ·
          subst eg7
          have z8 : ((0 : Int32).toInt ≤ x4.toInt) ∧ (x4.toInt ≤ (1 : Int32).toInt) := hg7
          refine ft_goS mi_k181 3 33 [.int x1, .ref 116] (by rfl) ?_
          refine ko_callPI mi_k181.1 (pc := 33) (ls := [(0, .ref 116), (1, .int x1), (2, .int x2), (3, .int x3), (4, .int x4)]) (st := [.int x1, .ref 116]) (h := ks i a q r) (i := (.invokevirtual 276, 3, 173, 0, 9, 0, 410)) (mi_k181.2 _ _ (by rfl)) (ft_invS mi_pq173 (by rfl)) (cy := mi_c173) mi_pq173 rfl (kg173_116 hG.I hG.R x1 (toe18 z2.1 z2.2)) (by decide) ?_
          intro vg9 hg9
          obtain ⟨hg9, og9⟩ := hg9
          have z10 : vg9.toInt ≤ 0 := hg9
          refine ft_goL mi_k181 2 40 [(5, .int vg9), (0, .ref 116), (1, .int x1), (2, .int x2), (3, .int x3), (4, .int x4)] [.int vg9] (by rfl) ?_
          refine ft_ifS mi_k181 (decide (0 ≤ vg9)) 46 43 [] (by rfl) (fun c => ?_) (fun c => ?_)
          ·
            have c11 : (0 : Int32).toInt ≤ vg9.toInt := kd_le c; clear c
            refine ft_goS mi_k181 2 48 [.int x1, .ref 116] (by rfl) ?_
            refine ko_callN mi_k181.1 (pc := 48) (ls := [(5, .int vg9), (0, .ref 116), (1, .int x1), (2, .int x2), (3, .int x3), (4, .int x4)]) (st := [.int x1, .ref 116]) (h := ks i a q r) (i := (.invokevirtual 279, 3, 174, 0, 9, 0, 411)) (mi_k181.2 _ _ (by rfl)) (ft_invS mi_pq174 (by rfl)) (cy := mi_c174) mi_pq174 rfl (kg174_116 hG.I hG.R x1 (toe18 z2.1 z2.2)) (by decide) ?_
            intro ig12 ag12 qg12 rg12 kg12 hg12
            have hGg12 := kG_call hG kg12 (by decide +kernel)
            obtain ⟨hg12, og12⟩ := hg12
            have fig12_7469 : ((0 : Int) ≤ (ig12 7469).toInt) ∧ ((ig12 7469).toInt ≤ 21) := hGg12.I.1 7469
            have z13 : (ig12 7469).toInt ≤ 20 := hg12
            have tJ14 : kIs (ag12 142) (lF (ag12 142)) ((ig12 7469).toInt) := fun _ _ => rfl
            refine ft_goS mi_k181 3 56 [.int (ig12 7469), .int x2] (by rfl) ?_
            refine ft_ifS mi_k181 (decide (x2 ≤ (ig12 7469))) 61 59 [] (by rfl) (fun c => ?_) (fun c => ?_)
            ·
              have c15 : x2.toInt ≤ (ig12 7469).toInt := kd_le c; clear c
              refine ft_goS mi_k181 3 67 [.int 20, .int (ig12 7469)] (by rfl) ?_
              refine ft_ifS mi_k181 ((ig12 7469) != 20) 73 70 [] (by rfl) (fun c => ?_) (fun c => ?_)
              ·
                have c16 : (ig12 7469).toInt ≠ (20 : Int32).toInt := kd_ne c; clear c
                first | refine fo_goL mi_k181 fz181_73_6_82 [(8, .int 0), (7, .int (-1)), (6, .int 0), (5, .int vg9), (0, .ref 116), (1, .int x1), (2, .int x2), (3, .int x3), (4, .int x4)] [] (by rfl) ?_ | refine fo_goL mi_k181 fz181_120_6_82 [(8, .int 0), (7, .int (-1)), (6, .int 0), (5, .int vg9), (0, .ref 116), (1, .int x1), (2, .int x2), (3, .int x3), (4, .int x4)] [] (by rfl) ?_ | refine ft_goL mi_k181 6 82 [(8, .int 0), (7, .int (-1)), (6, .int 0), (5, .int vg9), (0, .ref 116), (1, .int x1), (2, .int x2), (3, .int x3), (4, .int x4)] [] (by rfl) ?_
                have lp17 : ∀ (nz : Nat) (i17 : Nat → Int32) (a17 : Nat → List Int32) (q17 : Nat → List Int64) (r17 : Nat → Nat) (l8_17 : Int32) (l7_17 : Int32) (l6_17 : Int32), kG yzw181_116_L82 ig12 ag12 qg12 rg12 i17 a17 q17 r17 → (0 : Int) ≤ l8_17.toInt → (i17 7469).toInt ≤ 19 → x2.toInt ≤ (i17 7469).toInt → l8_17.toInt ≤ (i 7424).toInt → (i17 7469).toInt = (ig12 7469).toInt → (l7_17, l6_17.toInt) = gBst (fun p => gPur (gKn i a) (a 118) (rIns (lF (ag12 142)) (kOf p) x2.toInt.toNat) ((ig12 7469).toInt + 1).toNat x3) (-1) 0 l8_17.toInt.toNat → kIs (a17 142) (lF (ag12 142)) (ig12 7469).toInt → a17 118 = a 118 → (((i17 7424).toInt - l8_17.toInt)).toNat < nz → ko 15 (mi_h181, mi_c181) P (82, [(8, .int l8_17), (7, .int l7_17), (6, .int l6_17), (5, .int vg9), (0, .ref 116), (1, .int x1), (2, .int x2), (3, .int x3), (4, .int x4)], [], (0, 0), ks i17 a17 q17 r17) := by
                  intro nz
                  induction nz with
                  | zero =>
                    intro _ _ _ _ _ _ _ _ _ _ _ _ _ _ _ _ hm
                    exact absurd hm (Nat.not_lt_zero _)
                  | succ nz ih17 =>
                    intro i17 a17 q17 r17 l8_17 l7_17 l6_17 hL17 p17_0 p17_1 p17_2 p17_3 p17_4 O17_0 O17_1 O17_2 hm17
                    have fi17_7469 : ((0 : Int) ≤ (i17 7469).toInt) ∧ ((i17 7469).toInt ≤ 21) := hL17.I.1 7469
                    have fi17_7424 : ((0 : Int) ≤ (i17 7424).toInt) ∧ ((i17 7424).toInt ≤ 8) := hL17.I.1 7424
                    have fig12_7424 : ((0 : Int) ≤ (ig12 7424).toInt) ∧ ((ig12 7424).toInt ≤ 8) := hGg12.I.1 7424
                    have efig12_7424 : (ig12 7424).toInt = (i 7424).toInt := kg12.ti 7424 rfl
                    have efi17_7424 : (i17 7424).toInt = (ig12 7424).toInt := hL17.ti 7424 rfl
                    refine ft_goL mi_k181 3 88 [(8, .int l8_17), (7, .int l7_17), (6, .int l6_17), (5, .int vg9), (0, .ref 116), (1, .int x1), (2, .int x2), (3, .int x3), (4, .int x4)] [.int (i17 7424), .int l8_17] (by rfl) ?_
                    refine ft_ifS mi_k181 (decide ((i17 7424) ≤ l8_17)) 134 91 [] (by rfl) (fun c => ?_) (fun c => ?_)
                    ·
                      have c18 : (i17 7424).toInt ≤ l8_17.toInt := kd_le c; clear c
                      have hG19 := kG_call hGg12 hL17 (by decide +kernel)
                      refine ft_goS mi_k181 1 136 [.int x4] (by rfl) ?_
                      refine ft_ifS mi_k181 (x4 != 0) 144 139 [] (by rfl) (fun c => ?_) (fun c => ?_)
                      ·
                        have c20 : x4.toInt ≠ (0 : Int32).toInt := kd_ne c; clear c
                        first | refine ft_goS mi_k181 1 146 [.int l7_17] (by rfl) ?_
                        exact ft_ret mi_k181 (by rfl) (hP l7_17 _ _ _ _ hG19 ⟨trivial, ⟨(show a17 118 = a 118 from (by first | rfl | (simp only [O17_2, sMn, sMx]; done) | (simp only [O17_2, sMn, sMx]; rfl))), (rTop_go (rok (toe171 c4 z2.1 z2.2 z6.1 z6.2 z8.1 z8.2 ktoe0 ktoe1)) og9 (toe67 c11 ktoe0) og12 ⟨fun h => absurd h (toe172 c15), fun _ => ⟨fun h => absurd h (toe190 p17_1 p17_4), fun _ => ⟨fun h => absurd h (toe70 c20 z8.1 ktoe0), fun _ => congrArg Prod.fst (gBst_len O17_0 (kj_np (toe173 c18 efi17_7424 efig12_7424 p17_3) (toe9 fi_7424.1)))⟩⟩⟩)⟩⟩)
                      ·
                        have c21 : x4.toInt = (0 : Int32).toInt := kd_neF c; clear c
                        first | refine ft_goS mi_k181 2 146 [.int l6_17] (by rfl) ?_
                        exact ft_ret mi_k181 (by rfl) (hP l6_17 _ _ _ _ hG19 ⟨trivial, ⟨(show a17 118 = a 118 from (by first | rfl | (simp only [O17_2, sMn, sMx]; done) | (simp only [O17_2, sMn, sMx]; rfl))), (rTop_go (rok (toe171 c4 z2.1 z2.2 z6.1 z6.2 z8.1 z8.2 ktoe0 ktoe1)) og9 (toe67 c11 ktoe0) og12 ⟨fun h => absurd h (toe172 c15), fun _ => ⟨fun h => absurd h (toe190 p17_1 p17_4), fun _ => ⟨fun _ => congrArg Prod.snd (gBst_len O17_0 (kj_np (toe173 c18 efi17_7424 efig12_7424 p17_3) (toe9 fi_7424.1))), fun h => absurd h (toe73 c21 z8.1 ktoe0)⟩⟩⟩)⟩⟩)
                    ·
                      have c22 : l8_17.toInt < (i17 7424).toInt := kd_leF c; clear c
                      refine ft_goS mi_k181 3 95 [.int l8_17, .int x2, .ref 116] (by rfl) ?_
                      refine ko_callN mi_k181.1 (pc := 95) (ls := [(8, .int l8_17), (7, .int l7_17), (6, .int l6_17), (5, .int vg9), (0, .ref 116), (1, .int x1), (2, .int x2), (3, .int x3), (4, .int x4)]) (st := [.int l8_17, .int x2, .ref 116]) (h := ks i17 a17 q17 r17) (i := (.invokevirtual 284, 3, 178, 0, 9, 0, 428)) (mi_k181.2 _ _ (by rfl)) (ft_invS mi_pq178 (by rfl)) (cy := mi_c178) mi_pq178 rfl (ke178_116 hL17.I hL17.R x2 l8_17 (toe191 c4 p17_2 ktoe0) (toe176 p17_1) (toe177 c22 efi17_7424 efig12_7424 fi_7424.2 p17_0)) (by decide) ?_
                      intro ig23 ag23 qg23 rg23 kg23 hg23
                      have hGg23 := kG_call hL17 kg23 (by decide +kernel)
                      obtain ⟨hg23, og23⟩ := hg23
                      have fig23_7469 : ((0 : Int) ≤ (ig23 7469).toInt) ∧ ((ig23 7469).toInt ≤ 21) := hGg23.I.1 7469
                      have z24 : (ig23 7469).toInt = ((i17 7469).toInt + 1) := hg23
                      have oJ25 := og23
                      rw [((toe45 p17_4) : (i17 7469).toInt = (ig12 7469).toInt)] at oJ25
                      have tJ26 : kIs (ag23 142) (rIns (lF (ag12 142)) l8_17 x2.toInt.toNat) ((ig12 7469).toInt + 1) := (kIs_lF oJ25 O17_1 (kj_natle (toe178 c4 ktoe0) (toe57 c15)))
                      refine ft_goS mi_k181 2 100 [.int x3, .ref 116] (by rfl) ?_
                      have hG27 := kG_call hGg12 hGg23 (by decide +kernel)
                      refine ko_callI mi_k181.1 (pc := 100) (ls := [(8, .int l8_17), (7, .int l7_17), (6, .int l6_17), (5, .int vg9), (0, .ref 116), (1, .int x1), (2, .int x2), (3, .int x3), (4, .int x4)]) (st := [.int x3, .ref 116]) (h := ks ig23 ag23 qg23 rg23) (i := (.invokevirtual 288, 3, 172, 0, 9, 0, 429)) (mi_k181.2 _ _ (by rfl)) (ft_invS mi_pq172 (by rfl)) (cy := mi_c172) mi_pq172 rfl (kg172_116 hGg23.I hGg23.R x3 (toe99 fi_7424.2 z6.1 z6.2) (kCode_of (i1 := ig23) hE_code (hG27.fi 7432 rfl) (hG27.fa 120 rfl) (hG27.fa 121 rfl) (hG27.fa 122 rfl) (hG27.fa 123 rfl))) (by decide) ?_
                      intro vg28 ig28 ag28 qg28 rg28 kg28 hg28
                      have hGg28 := kG_call hGg23 kg28 (by decide +kernel)
                      obtain ⟨hg28, og28⟩ := hg28
                      have oP29 := og28.2.1
                      have hG30 := kG_call hGg12 hGg23 (by decide +kernel)
                      rw [(gKn_fr hG30 (by decide +kernel) : gKn ig23 ag23 = gKn i a)] at oP29
                      have pv31 : vg28 = gPur (gKn i a) (a 118) (rIns (lF (ag12 142)) l8_17 x2.toInt.toNat) ((ig12 7469).toInt + 1).toNat x3 := by
                        have e := gPur_of (R := rIns (lF (ag12 142)) l8_17 x2.toInt.toNat) oP29 (N := a 118) (show ag23 118 = a 118 from (by first | rfl | (simp only [kg23.fa 118 rfl, O17_2, sMn, sMx]; done) | (simp only [kg23.fa 118 rfl, O17_2, sMn, sMx]; rfl))) rfl (kIs_c tJ26 rfl (Int.le_of_eq (toe130 p17_4 z24))) (toe9 fig23_7469.1)
                        rw [((toe130 p17_4 z24) : (ig23 7469).toInt = (ig12 7469).toInt + 1)] at e
                        exact e
                      have q32 : ag28 118 = ag23 118 := og28.1
                      refine ft_goL mi_k181 3 107 [(9, .int vg28), (8, .int l8_17), (7, .int l7_17), (6, .int l6_17), (5, .int vg9), (0, .ref 116), (1, .int x1), (2, .int x2), (3, .int x3), (4, .int x4)] [.int x2, .ref 116] (by rfl) ?_
                      have fig28_7469 : ((0 : Int) ≤ (ig28 7469).toInt) ∧ ((ig28 7469).toInt ≤ 21) := hGg28.I.1 7469
                      have efig28_7469 : (ig28 7469).toInt = (ig23 7469).toInt := kg28.ti 7469 rfl
                      refine ko_callN mi_k181.1 (pc := 107) (ls := [(9, .int vg28), (8, .int l8_17), (7, .int l7_17), (6, .int l6_17), (5, .int vg9), (0, .ref 116), (1, .int x1), (2, .int x2), (3, .int x3), (4, .int x4)]) (st := [.int x2, .ref 116]) (h := ks ig28 ag28 qg28 rg28) (i := (.invokevirtual 291, 3, 179, 0, 9, 0, 430)) (mi_k181.2 _ _ (by rfl)) (ft_invS mi_pq179 (by rfl)) (cy := mi_c179) mi_pq179 rfl (ke179_116 hGg28.I hGg28.R x2 (toe178 c4 ktoe0) (toe148 efig28_7469 fi17_7469.1 z24)) (by decide) ?_
                      intro ig33 ag33 qg33 rg33 kg33 hg33
                      have hGg33 := kG_call hGg28 kg33 (by decide +kernel)
                      obtain ⟨hg33, og33⟩ := hg33
                      have fig33_7469 : ((0 : Int) ≤ (ig33 7469).toInt) ∧ ((ig33 7469).toInt ≤ 21) := hGg33.I.1 7469
                      have z34 : (ig33 7469).toInt = ((ig28 7469).toInt - 1) := hg33
                      have oJ35 := og33
                      rw [((toe192 efig28_7469 p17_4 z24) : (ig28 7469).toInt - 1 = (ig12 7469).toInt)] at oJ35
                      have tJ36 : kIs (ag33 142) (lF (ag12 142)) ((ig12 7469).toInt) := (kIs_back (kIs_c tJ26 (kg28.fa 142 rfl) (Int.le_refl _)) oJ35)
                      refine ft_goS mi_k181 2 114 [.int l7_17, .int vg28] (by rfl) ?_
                      refine ft_ifS mi_k181 (decide (l7_17 < vg28)) 120 117 [] (by rfl) (fun c => ?_) (fun c => ?_)
                      ·
                        have c37 : l7_17.toInt < vg28.toInt := kd_lt c; clear c
                        have s38 : (l8_17 + 1).toInt = l8_17.toInt + (1 : Int32).toInt := kd_add (toe36 p17_0 ktoe1) (toe179 c22 efi17_7424 efig12_7424 fi_7424.2 ktoe1)
                        first | refine fo_goL mi_k181 fz181_73_6_82 [(8, .int (l8_17 + 1)), (6, .int l8_17), (7, .int vg28), (9, .int vg28), (5, .int vg9), (0, .ref 116), (1, .int x1), (2, .int x2), (3, .int x3), (4, .int x4)] [] (by rfl) ?_ | refine fo_goL mi_k181 fz181_120_6_82 [(8, .int (l8_17 + 1)), (6, .int l8_17), (7, .int vg28), (9, .int vg28), (5, .int vg9), (0, .ref 116), (1, .int x1), (2, .int x2), (3, .int x3), (4, .int x4)] [] (by rfl) ?_ | refine ft_goL mi_k181 6 82 [(8, .int (l8_17 + 1)), (6, .int l8_17), (7, .int vg28), (9, .int vg28), (5, .int vg9), (0, .ref 116), (1, .int x1), (2, .int x2), (3, .int x3), (4, .int x4)] [] (by rfl) ?_
                        refine ko_perm [(8, .int (l8_17 + 1)), (7, .int vg28), (6, .int l8_17), (5, .int vg9), (0, .ref 116), (1, .int x1), (2, .int x2), (3, .int x3), (4, .int x4)] (List.forall_mem_cons.mpr ⟨(List.Mem.head _), (List.forall_mem_cons.mpr ⟨(List.Mem.tail _ (List.Mem.tail _ (List.Mem.head _))), (List.forall_mem_cons.mpr ⟨(List.Mem.tail _ (List.Mem.head _)), (List.forall_mem_cons.mpr ⟨(List.Mem.tail _ (List.Mem.tail _ (List.Mem.tail _ (List.Mem.tail _ (List.Mem.head _))))), (List.forall_mem_cons.mpr ⟨(List.Mem.tail _ (List.Mem.tail _ (List.Mem.tail _ (List.Mem.tail _ (List.Mem.tail _ (List.Mem.head _)))))), (List.forall_mem_cons.mpr ⟨(List.Mem.tail _ (List.Mem.tail _ (List.Mem.tail _ (List.Mem.tail _ (List.Mem.tail _ (List.Mem.tail _ (List.Mem.head _))))))), (List.forall_mem_cons.mpr ⟨(List.Mem.tail _ (List.Mem.tail _ (List.Mem.tail _ (List.Mem.tail _ (List.Mem.tail _ (List.Mem.tail _ (List.Mem.tail _ (List.Mem.head _)))))))), (List.forall_mem_cons.mpr ⟨(List.Mem.tail _ (List.Mem.tail _ (List.Mem.tail _ (List.Mem.tail _ (List.Mem.tail _ (List.Mem.tail _ (List.Mem.tail _ (List.Mem.tail _ (List.Mem.head _))))))))), (List.forall_mem_cons.mpr ⟨(List.Mem.tail _ (List.Mem.tail _ (List.Mem.tail _ (List.Mem.tail _ (List.Mem.tail _ (List.Mem.tail _ (List.Mem.tail _ (List.Mem.tail _ (List.Mem.tail _ (List.Mem.head _)))))))))), (fun _ h => absurd h List.not_mem_nil)⟩)⟩)⟩)⟩)⟩)⟩)⟩)⟩)⟩) ?_
                        have fig33_7424 : ((0 : Int) ≤ (ig33 7424).toInt) ∧ ((ig33 7424).toInt ≤ 8) := hGg33.I.1 7424
                        have fig28_7424 : ((0 : Int) ≤ (ig28 7424).toInt) ∧ ((ig28 7424).toInt ≤ 8) := hGg28.I.1 7424
                        have fig23_7424 : ((0 : Int) ≤ (ig23 7424).toInt) ∧ ((ig23 7424).toInt ≤ 8) := hGg23.I.1 7424
                        have efig23_7424 : (ig23 7424).toInt = (i17 7424).toInt := kg23.ti 7424 rfl
                        have efig28_7424 : (ig28 7424).toInt = (ig23 7424).toInt := kg28.ti 7424 rfl
                        have efig33_7424 : (ig33 7424).toInt = (ig28 7424).toInt := kg33.ti 7424 rfl
                        exact ih17 _ _ _ _ _ _ _ hGg33 (toe38 p17_0 s38 ktoe1) (toe180 efig28_7469 p17_1 z24 z34) (toe193 efig28_7469 p17_2 z24 z34) (toe182 c22 efi17_7424 efig12_7424 s38 ktoe1) (toe194 efig28_7469 p17_4 z24 z34) (kT2m (gBst_up (w1 := l8_17) O17_0 (bh_fv pv31 (toe9 p17_0) (toe184 c22 efi17_7424 efig12_7424 fi_7424.2)) (toe154 c37) (toe9 p17_0) (toe47 s38 ktoe1) toe31) (kj_v toe31) rfl) tJ36 (by first | rfl | (simp only [kg33.fa 118 rfl, q32, kg23.fa 118 rfl, O17_2, sMn, sMx]; done) | (simp only [kg33.fa 118 rfl, q32, kg23.fa 118 rfl, O17_2, sMn, sMx]; rfl)) (kj_meas (toe185 efig23_7424 efig28_7424 efig33_7424 s38 ktoe1) (toe95 c22) hm17)
                      ·
                        have c39 : vg28.toInt ≤ l7_17.toInt := kd_ltF c; clear c
                        have s40 : (l8_17 + 1).toInt = l8_17.toInt + (1 : Int32).toInt := kd_add (toe36 p17_0 ktoe1) (toe179 c22 efi17_7424 efig12_7424 fi_7424.2 ktoe1)
                        first | refine ft_goL mi_k181 3 82 [(8, .int (l8_17 + 1)), (9, .int vg28), (7, .int l7_17), (6, .int l6_17), (5, .int vg9), (0, .ref 116), (1, .int x1), (2, .int x2), (3, .int x3), (4, .int x4)] [] (by rfl) ?_
                        refine ko_perm [(8, .int (l8_17 + 1)), (7, .int l7_17), (6, .int l6_17), (5, .int vg9), (0, .ref 116), (1, .int x1), (2, .int x2), (3, .int x3), (4, .int x4)] (List.forall_mem_cons.mpr ⟨(List.Mem.head _), (List.forall_mem_cons.mpr ⟨(List.Mem.tail _ (List.Mem.tail _ (List.Mem.head _))), (List.forall_mem_cons.mpr ⟨(List.Mem.tail _ (List.Mem.tail _ (List.Mem.tail _ (List.Mem.head _)))), (List.forall_mem_cons.mpr ⟨(List.Mem.tail _ (List.Mem.tail _ (List.Mem.tail _ (List.Mem.tail _ (List.Mem.head _))))), (List.forall_mem_cons.mpr ⟨(List.Mem.tail _ (List.Mem.tail _ (List.Mem.tail _ (List.Mem.tail _ (List.Mem.tail _ (List.Mem.head _)))))), (List.forall_mem_cons.mpr ⟨(List.Mem.tail _ (List.Mem.tail _ (List.Mem.tail _ (List.Mem.tail _ (List.Mem.tail _ (List.Mem.tail _ (List.Mem.head _))))))), (List.forall_mem_cons.mpr ⟨(List.Mem.tail _ (List.Mem.tail _ (List.Mem.tail _ (List.Mem.tail _ (List.Mem.tail _ (List.Mem.tail _ (List.Mem.tail _ (List.Mem.head _)))))))), (List.forall_mem_cons.mpr ⟨(List.Mem.tail _ (List.Mem.tail _ (List.Mem.tail _ (List.Mem.tail _ (List.Mem.tail _ (List.Mem.tail _ (List.Mem.tail _ (List.Mem.tail _ (List.Mem.head _))))))))), (List.forall_mem_cons.mpr ⟨(List.Mem.tail _ (List.Mem.tail _ (List.Mem.tail _ (List.Mem.tail _ (List.Mem.tail _ (List.Mem.tail _ (List.Mem.tail _ (List.Mem.tail _ (List.Mem.tail _ (List.Mem.head _)))))))))), (fun _ h => absurd h List.not_mem_nil)⟩)⟩)⟩)⟩)⟩)⟩)⟩)⟩)⟩) ?_
                        have fig33_7424 : ((0 : Int) ≤ (ig33 7424).toInt) ∧ ((ig33 7424).toInt ≤ 8) := hGg33.I.1 7424
                        have fig28_7424 : ((0 : Int) ≤ (ig28 7424).toInt) ∧ ((ig28 7424).toInt ≤ 8) := hGg28.I.1 7424
                        have fig23_7424 : ((0 : Int) ≤ (ig23 7424).toInt) ∧ ((ig23 7424).toInt ≤ 8) := hGg23.I.1 7424
                        have efig23_7424 : (ig23 7424).toInt = (i17 7424).toInt := kg23.ti 7424 rfl
                        have efig28_7424 : (ig28 7424).toInt = (ig23 7424).toInt := kg28.ti 7424 rfl
                        have efig33_7424 : (ig33 7424).toInt = (ig28 7424).toInt := kg33.ti 7424 rfl
                        exact ih17 _ _ _ _ _ _ _ hGg33 (toe38 p17_0 s40 ktoe1) (toe180 efig28_7469 p17_1 z24 z34) (toe193 efig28_7469 p17_2 z24 z34) (toe182 c22 efi17_7424 efig12_7424 s40 ktoe1) (toe194 efig28_7469 p17_4 z24 z34) (kT2m (gBst_no O17_0 (bh_fv pv31 (toe9 p17_0) (toe184 c22 efi17_7424 efig12_7424 fi_7424.2)) (toe57 c39) (toe9 p17_0) (toe47 s40 ktoe1)) (kj_v toe31) toe31) tJ36 (by first | rfl | (simp only [kg33.fa 118 rfl, q32, kg23.fa 118 rfl, O17_2, sMn, sMx]; done) | (simp only [kg33.fa 118 rfl, q32, kg23.fa 118 rfl, O17_2, sMn, sMx]; rfl)) (kj_meas (toe185 efig23_7424 efig28_7424 efig33_7424 s40 ktoe1) (toe95 c22) hm17)
                exact lp17 _ _ _ _ _ _ _ _ (kG_self _ hGg12.I hGg12.R) (toe19 ktoe0) (toe157 c16 z13 ktoe20) (toe57 c15) (toe54 fi_7424.1 ktoe0) toe31 (kT2m (gBst_0 ktoe0) rfl ktoe0) tJ14 (by first | rfl | (simp only [kg12.fa 118 rfl, sMn, sMx]; done) | (simp only [kg12.fa 118 rfl, sMn, sMx]; rfl)) (Nat.lt_succ_self _)
              ·
                have c41 : (ig12 7469).toInt = (20 : Int32).toInt := kd_neF c; clear c
                refine ft_goS mi_k181 1 72 [.int (-5)] (by rfl) ?_
                exact ft_ret mi_k181 (by rfl) (hP (-5) _ _ _ _ hGg12 ⟨trivial, ⟨(show ag12 118 = a 118 from (by first | rfl | (simp only [kg12.fa 118 rfl, sMn, sMx]; done) | (simp only [kg12.fa 118 rfl, sMn, sMx]; rfl))), (rTop_go (rok (toe171 c4 z2.1 z2.2 z6.1 z6.2 z8.1 z8.2 ktoe0 ktoe1)) og9 (toe67 c11 ktoe0) og12 ⟨fun h => absurd h (toe172 c15), fun _ => ⟨fun _ => rfl, fun h => absurd h (toe159 c41 ktoe20)⟩⟩)⟩⟩)
            ·
              have c42 : (ig12 7469).toInt < x2.toInt := kd_leF c; clear c
              refine ft_goS mi_k181 1 60 [.int (-1)] (by rfl) ?_
              exact ft_ret mi_k181 (by rfl) (hP (-1) _ _ _ _ hGg12 ⟨trivial, ⟨(show ag12 118 = a 118 from (by first | rfl | (simp only [kg12.fa 118 rfl, sMn, sMx]; done) | (simp only [kg12.fa 118 rfl, sMn, sMx]; rfl))), (rTop_go (rok (toe171 c4 z2.1 z2.2 z6.1 z6.2 z8.1 z8.2 ktoe0 ktoe1)) og9 (toe67 c11 ktoe0) og12 ⟨fun _ => rfl, fun h => absurd h (toe186 c42)⟩)⟩⟩)
          ·
            have c43 : vg9.toInt < (0 : Int32).toInt := kd_leF c; clear c
            refine ft_goS mi_k181 1 45 [.int vg9] (by rfl) ?_
            exact ft_ret mi_k181 (by rfl) (hP vg9 _ _ _ _ hG ⟨trivial, ⟨(show a 118 = a 118 from rfl), (rTop_bar (rok (toe171 c4 z2.1 z2.2 z6.1 z6.2 z8.1 z8.2 ktoe0 ktoe1)) og9 (toe160 c43 ktoe0))⟩⟩)
        ·
          subst eg7
          have z44 : ¬ (((0 : Int32).toInt ≤ x4.toInt) ∧ (x4.toInt ≤ (1 : Int32).toInt)) := hg7
          first | refine fo_goS mi_k181 fz181_4_2_30 [.int (-1)] (by rfl) ?_ | refine fo_goS mi_k181 fz181_8_2_30 [.int (-1)] (by rfl) ?_ | refine fo_goS mi_k181 fz181_16_2_30 [.int (-1)] (by rfl) ?_ | refine fo_goS mi_k181 fz181_26_2_30 [.int (-1)] (by rfl) ?_
          exact ft_ret mi_k181 (by rfl) (hP (-1) _ _ _ _ hG ⟨trivial, ⟨(show a 118 = a 118 from rfl), (Or.inl ⟨(toe187 z44 ktoe0 ktoe1), rfl⟩)⟩⟩)
      ·
        subst eg5
        have fi_7424 : ((0 : Int) ≤ (i 7424).toInt) ∧ ((i 7424).toInt ≤ 8) := hG.I.1 7424
        have z45 : ¬ (((0 : Int) ≤ x3.toInt) ∧ (x3.toInt < (i 7424).toInt)) := hg5
        first | refine fo_goS mi_k181 fz181_4_2_30 [.int (-1)] (by rfl) ?_ | refine fo_goS mi_k181 fz181_8_2_30 [.int (-1)] (by rfl) ?_ | refine fo_goS mi_k181 fz181_16_2_30 [.int (-1)] (by rfl) ?_ | refine fo_goS mi_k181 fz181_26_2_30 [.int (-1)] (by rfl) ?_
        exact ft_ret mi_k181 (by rfl) (hP (-1) _ _ _ _ hG ⟨trivial, ⟨(show a 118 = a 118 from rfl), (Or.inl ⟨(toe188 z45), rfl⟩)⟩⟩)
  ·
    subst eg1
    have z46 : ¬ (((0 : Int) ≤ x1.toInt) ∧ (x1.toInt ≤ 5)) := hg1
    first | refine fo_goS mi_k181 fz181_4_2_30 [.int (-1)] (by rfl) ?_ | refine fo_goS mi_k181 fz181_8_2_30 [.int (-1)] (by rfl) ?_ | refine fo_goS mi_k181 fz181_16_2_30 [.int (-1)] (by rfl) ?_ | refine fo_goS mi_k181 fz181_26_2_30 [.int (-1)] (by rfl) ?_
    have fi_7424 : ((0 : Int) ≤ (i 7424).toInt) ∧ ((i 7424).toInt ≤ 8) := hG.I.1 7424
    exact ft_ret mi_k181 (by rfl) (hP (-1) _ _ _ _ hG ⟨trivial, ⟨(show a 118 = a 118 from rfl), (Or.inl ⟨(toe189 z46), rfl⟩)⟩⟩)
noncomputable def yw182_116 : kW := ([], [142], [], [])
set_option maxRecDepth 100000 in
theorem ke182_116 {i : Nat → Int32} {a : Nat → List Int32} {q : Nat → List Int64} {r : Nat → Nat} (hI : kI i a q) (hr : kr r) (x1 : Int32) (hp0 : ((0 : Int) ≤ x1.toInt) ∧ (x1.toInt ≤ 19)) : km 1 182 [.ref 116, .int x1] (ks i a q r) (kVN yw182_116 i a q r (fun i1 a1 q1 r1 => (True) ∧ a1 142 = ((a 142).set x1.toNatClampNeg ((a 142).getD (x1 + 1).toNatClampNeg 0)).set (x1 + 1).toNatClampNeg ((a 142).getD x1.toNatClampNeg 0))) := by
  have hG := kG_self yw182_116 hI hr
  refine km_ofN (q := (mi_h182, mi_c182)) rfl (by decide) (Nat.le_of_ble_eq_true rfl) ?_
  intro P hP
  refine ft_goL mi_k182 3 5 [(0, .ref 116), (1, .int x1)] [.int x1, .ref 142] (by rfl) ?_
  refine ko_iald3 mi_k182.1 (n := 21) (c := 21) (ax := (0, 0, 0, 0, 0)) (mi_k182.2 _ _ (by rfl)) (by rfl) (ksG142 _ _ _ _) (hG.I.2.1 142) rfl (toe9 hp0.1) (toe197 hp0.2) ?_
  have r1 : ((0 : Int) ≤ ((a 142).getD x1.toNatClampNeg 0).toInt) ∧ (((a 142).getD x1.toNatClampNeg 0).toInt ≤ 7) := hG.I.2.2.1 142 (x1.toNatClampNeg)
  have s2 : (x1 + 1).toInt = x1.toInt + (1 : Int32).toInt := kd_add (toe36 hp0.1 ktoe1) (toe198 hp0.2 ktoe1)
  refine fo_goL mi_k182 fz182_6_9_19 [(2, .int ((a 142).getD x1.toNatClampNeg 0)), (0, .ref 116), (1, .int x1)] [.int (x1 + 1), .ref 142, .int x1, .ref 142] rfl ?_
  refine ko_iald3 mi_k182.1 (n := 21) (c := 21) (ax := (0, 0, 0, 0, 0)) (mi_k182.2 _ _ (by rfl)) (by rfl) (ksG142 _ _ _ _) (hG.I.2.1 142) rfl (toe38 hp0.1 s2 ktoe1) (toe199 hp0.2 s2 ktoe1) ?_
  have r3 : ((0 : Int) ≤ ((a 142).getD (x1 + 1).toNatClampNeg 0).toInt) ∧ (((a 142).getD (x1 + 1).toNatClampNeg 0).toInt ≤ 7) := hG.I.2.2.1 142 ((x1 + 1).toNatClampNeg)
  refine ko_iast3 mi_k182.1 (n := 21) (c := 21) (ax := (0, 0, 0, 0, 0)) (mi_k182.2 _ _ (by rfl)) (by rfl) (ksG142 _ _ _ _) (ksA142 _ _ _ _) (hG.I.2.1 142) rfl (toe9 hp0.1) (toe197 hp0.2) ?_
  intro a4 ea4 fa4
  have hJ4 := kG_a3 hG 142 rfl ea4 fa4 ⟨(toe9 r3.1), (toe75 r3.2)⟩
  refine fo_goS mi_k182 fz182_21_6_29 [.int ((a 142).getD x1.toNatClampNeg 0), .int (x1 + 1), .ref 142] rfl ?_
  refine ko_iast3 mi_k182.1 (n := 21) (c := 21) (ax := (0, 0, 0, 0, 0)) (mi_k182.2 _ _ (by rfl)) (by rfl) (ksG142 _ _ _ _) (ksA142 _ _ _ _) (hJ4.I.2.1 142) rfl (toe38 hp0.1 s2 ktoe1) (toe199 hp0.2 s2 ktoe1) ?_
  intro a5 ea5 fa5
  have hJ5 := kG_a3 hJ4 142 rfl ea5 fa5 ⟨(toe9 r1.1), (toe75 r1.2)⟩
  exact ft_ret mi_k182 (by rfl) (hP  _ _ _ _ hJ5 ⟨trivial, (show a5 142 = ((a 142).set x1.toNatClampNeg ((a 142).getD (x1 + 1).toNatClampNeg 0)).set (x1 + 1).toNatClampNeg ((a 142).getD x1.toNatClampNeg 0) from (by first | rfl | (simp only [ea5, ea4, sMn, sMx]; done) | (simp only [ea5, ea4, sMn, sMx]; rfl)))⟩)
noncomputable def yzw183_116 : kW := ([7464, 7465, 7466, 7467, 7469], [118, 128, 129, 139, 141, 142, 143, 144, 145], [], [])
noncomputable def yzw183_116_L60 : kW := ([7464, 7465, 7466, 7467], [118, 128, 129, 139, 141, 142, 143, 144, 145], [], [])
set_option maxRecDepth 100000 in
theorem kz183_116 {i : Nat → Int32} {a : Nat → List Int32} {q : Nat → List Int64} {r : Nat → Nat} (hI : kI i a q) (hr : kr r) (x1 : Int32) (x2 : Int32) (x3 : Int32) (hE_code : kCode i a) : km 15 183 [.ref 116, .int x1, .int x2, .int x3] (ks i a q r) (kVI yzw183_116 i a q r (fun v i1 a1 q1 r1 => (True) ∧ (a1 118 = a 118 ∧ rTop (((0 : Int) ≤ x2.toInt) ∧ (x2.toInt < (i 7424).toInt) ∧ ((0 : Int) ≤ x3.toInt) ∧ (x3.toInt ≤ 1)) i a q x1 v (fun n L => fLt (gKn i a) (a 118) x2 x3 v n L)))) := by
  have hG := kG_self yzw183_116 hI hr
  refine km_ofI (q := (mi_h183, mi_c183)) rfl (by decide) (Nat.le_of_ble_eq_true rfl) ?_
  intro P hP
  refine ft_goL mi_k183 1 1 [(0, .ref 116), (1, .int x1), (2, .int x2), (3, .int x3)] [.int x1] (by rfl) ?_
  refine ko_callPI mi_k183.1 (pc := 1) (ls := [(0, .ref 116), (1, .int x1), (2, .int x2), (3, .int x3)]) (st := [.int x1]) (h := ks i a q r) (i := (.invokestatic 127, 3, 133, 0, 9, 0, 382)) (mi_k183.2 _ _ (by rfl)) (ft_invS mi_pq133 (by rfl)) (cy := mi_c133) mi_pq133 rfl (kc133 hG.I hG.R x1) (by decide) ?_
  intro vg1 hg1
  rcases hg1 with ⟨eg1, hg1⟩ | ⟨eg1, hg1⟩
  ·
    subst eg1
    have z2 : ((0 : Int) ≤ x1.toInt) ∧ (x1.toInt ≤ 5) := hg1
    refine ft_goS mi_k183 3 9 [.int x2, .ref 116] (by rfl) ?_
    refine ko_callPI mi_k183.1 (pc := 9) (ls := [(0, .ref 116), (1, .int x1), (2, .int x2), (3, .int x3)]) (st := [.int x2, .ref 116]) (h := ks i a q r) (i := (.invokevirtual 137, 3, 132, 0, 9, 0, 387)) (mi_k183.2 _ _ (by rfl)) (ft_invS mi_pq132 (by rfl)) (cy := mi_c132) mi_pq132 rfl (kc132_116 hG.I hG.R x2) (by decide) ?_
    intro vg3 hg3
    rcases hg3 with ⟨eg3, hg3⟩ | ⟨eg3, hg3⟩
    ·
      subst eg3
      have fi_7424 : ((0 : Int) ≤ (i 7424).toInt) ∧ ((i 7424).toInt ≤ 8) := hG.I.1 7424
      have z4 : ((0 : Int) ≤ x2.toInt) ∧ (x2.toInt < (i 7424).toInt) := hg3
      refine ft_goS mi_k183 4 18 [.int 1, .int 0, .int x3] (by rfl) ?_
      refine ko_callPI mi_k183.1 (pc := 18) (ls := [(0, .ref 116), (1, .int x1), (2, .int x2), (3, .int x3)]) (st := [.int 1, .int 0, .int x3]) (h := ks i a q r) (i := (.invokestatic 119, 3, 131, 0, 9, 0, 379)) (mi_k183.2 _ _ (by rfl)) (ft_invS mi_pq131 (by rfl)) (cy := mi_c131) mi_pq131 rfl (kc131 hG.I hG.R x3 0 1) (by decide) ?_
      intro vg5 hg5
      rcases hg5 with ⟨eg5, hg5⟩ | ⟨eg5, hg5⟩
      ·
        subst eg5
        have z6 : ((0 : Int32).toInt ≤ x3.toInt) ∧ (x3.toInt ≤ (1 : Int32).toInt) := hg5
        refine ft_goS mi_k183 3 28 [.int x1, .ref 116] (by rfl) ?_
        refine ko_callPI mi_k183.1 (pc := 28) (ls := [(0, .ref 116), (1, .int x1), (2, .int x2), (3, .int x3)]) (st := [.int x1, .ref 116]) (h := ks i a q r) (i := (.invokevirtual 276, 3, 173, 0, 9, 0, 410)) (mi_k183.2 _ _ (by rfl)) (ft_invS mi_pq173 (by rfl)) (cy := mi_c173) mi_pq173 rfl (kg173_116 hG.I hG.R x1 (toe18 z2.1 z2.2)) (by decide) ?_
        intro vg7 hg7
        obtain ⟨hg7, og7⟩ := hg7
        have z8 : vg7.toInt ≤ 0 := hg7
        refine ft_goL mi_k183 2 35 [(4, .int vg7), (0, .ref 116), (1, .int x1), (2, .int x2), (3, .int x3)] [.int vg7] (by rfl) ?_
        refine ft_ifS mi_k183 (decide (0 ≤ vg7)) 41 38 [] (by rfl) (fun c => ?_) (fun c => ?_)
        ·
          have c9 : (0 : Int32).toInt ≤ vg7.toInt := kd_le c; clear c
          refine ft_goS mi_k183 2 43 [.int x1, .ref 116] (by rfl) ?_
          refine ko_callN mi_k183.1 (pc := 43) (ls := [(4, .int vg7), (0, .ref 116), (1, .int x1), (2, .int x2), (3, .int x3)]) (st := [.int x1, .ref 116]) (h := ks i a q r) (i := (.invokevirtual 279, 3, 174, 0, 9, 0, 411)) (mi_k183.2 _ _ (by rfl)) (ft_invS mi_pq174 (by rfl)) (cy := mi_c174) mi_pq174 rfl (kg174_116 hG.I hG.R x1 (toe18 z2.1 z2.2)) (by decide) ?_
          intro ig10 ag10 qg10 rg10 kg10 hg10
          have hGg10 := kG_call hG kg10 (by decide +kernel)
          obtain ⟨hg10, og10⟩ := hg10
          have fig10_7469 : ((0 : Int) ≤ (ig10 7469).toInt) ∧ ((ig10 7469).toInt ≤ 21) := hGg10.I.1 7469
          have z11 : (ig10 7469).toInt ≤ 20 := hg10
          have tJ12 : kIs (ag10 142) (lF (ag10 142)) ((ig10 7469).toInt) := fun _ _ => rfl
          refine ft_goL mi_k183 4 52 [(5, .int (-2)), (4, .int vg7), (0, .ref 116), (1, .int x1), (2, .int x2), (3, .int x3)] [.int x2, .ref 116] (by rfl) ?_
          refine ko_callI mi_k183.1 (pc := 52) (ls := [(5, .int (-2)), (4, .int vg7), (0, .ref 116), (1, .int x1), (2, .int x2), (3, .int x3)]) (st := [.int x2, .ref 116]) (h := ks ig10 ag10 qg10 rg10) (i := (.invokevirtual 288, 3, 172, 0, 9, 0, 429)) (mi_k183.2 _ _ (by rfl)) (ft_invS mi_pq172 (by rfl)) (cy := mi_c172) mi_pq172 rfl (kg172_116 hGg10.I hGg10.R x2 (toe99 fi_7424.2 z4.1 z4.2) (kCode_of (i1 := ig10) hE_code (hGg10.fi 7432 rfl) (hGg10.fa 120 rfl) (hGg10.fa 121 rfl) (hGg10.fa 122 rfl) (hGg10.fa 123 rfl))) (by decide) ?_
          intro vg13 ig13 ag13 qg13 rg13 kg13 hg13
          have hGg13 := kG_call hGg10 kg13 (by decide +kernel)
          obtain ⟨hg13, og13⟩ := hg13
          have oP14 := og13.2.1
          rw [(gKn_fr hGg10 (by decide +kernel) : gKn ig10 ag10 = gKn i a)] at oP14
          have pv15 : vg13 = gPur (gKn i a) (a 118) (lF (ag10 142)) ((ig10 7469).toInt).toNat x2 := by
            have e := gPur_of (R := lF (ag10 142)) oP14 (N := a 118) (kg10.fa 118 rfl) rfl (kIs_c tJ12 rfl (Int.le_of_eq toe31)) (toe9 fig10_7469.1)
            rw [(toe31 : (ig10 7469).toInt = (ig10 7469).toInt)] at e
            exact e
          have q16 : ag13 118 = ag10 118 := og13.1
          first | refine fo_goL mi_k183 fz183_55_3_60 [(7, .int 0), (6, .int vg13), (5, .int (-2)), (4, .int vg7), (0, .ref 116), (1, .int x1), (2, .int x2), (3, .int x3)] [] (by rfl) ?_ | refine fo_goL mi_k183 fz183_97_3_60 [(7, .int 0), (6, .int vg13), (5, .int (-2)), (4, .int vg7), (0, .ref 116), (1, .int x1), (2, .int x2), (3, .int x3)] [] (by rfl) ?_ | refine fo_goL mi_k183 fz183_106_3_60 [(7, .int 0), (6, .int vg13), (5, .int (-2)), (4, .int vg7), (0, .ref 116), (1, .int x1), (2, .int x2), (3, .int x3)] [] (by rfl) ?_
          have lp17 : ∀ (nz : Nat) (i17 : Nat → Int32) (a17 : Nat → List Int32) (q17 : Nat → List Int64) (r17 : Nat → Nat) (l7_17 : Int32) (l6_17 : Int32) (l5_17 : Int32), kG yzw183_116_L60 ig13 ag13 qg13 rg13 i17 a17 q17 r17 → (0 : Int) ≤ l7_17.toInt → (l7_17.toInt = 0) ∨ ((l7_17.toInt + 1) ≤ (i17 7469).toInt) → (i17 7469).toInt ≤ 20 → (l6_17, l5_17.toInt) = gBst (fun p => gPur (gKn i a) (a 118) (rSwp (lF (ag10 142)) p) (ig10 7469).toInt.toNat x2) (gPur (gKn i a) (a 118) (lF (ag10 142)) (ig10 7469).toInt.toNat x2) (-2) l7_17.toInt.toNat → kIs (a17 142) (lF (ag10 142)) (ig10 7469).toInt → a17 118 = a 118 → (((i17 7469).toInt - l7_17.toInt)).toNat < nz → ko 15 (mi_h183, mi_c183) P (60, [(7, .int l7_17), (6, .int l6_17), (5, .int l5_17), (4, .int vg7), (0, .ref 116), (1, .int x1), (2, .int x2), (3, .int x3)], [], (0, 0), ks i17 a17 q17 r17) := by
            intro nz
            induction nz with
            | zero =>
              intro _ _ _ _ _ _ _ _ _ _ _ _ _ _ hm
              exact absurd hm (Nat.not_lt_zero _)
            | succ nz ih17 =>
              intro i17 a17 q17 r17 l7_17 l6_17 l5_17 hL17 p17_0 p17_1 p17_2 O17_0 O17_1 O17_2 hm17
              have fi17_7469 : ((0 : Int) ≤ (i17 7469).toInt) ∧ ((i17 7469).toInt ≤ 21) := hL17.I.1 7469
              have fig13_7469 : ((0 : Int) ≤ (ig13 7469).toInt) ∧ ((ig13 7469).toInt ≤ 21) := hGg13.I.1 7469
              have efig13_7469 : (ig13 7469).toInt = (ig10 7469).toInt := kg13.ti 7469 rfl
              have efi17_7469 : (i17 7469).toInt = (ig13 7469).toInt := hL17.ti 7469 rfl
              have s18 : (l7_17 + 1).toInt = l7_17.toInt + (1 : Int32).toInt := kd_add (toe36 p17_0 ktoe1) (toe195 p17_1 p17_2 ktoe1)
              refine fo_goL mi_k183 fz183_60_5_68 [(7, .int l7_17), (6, .int l6_17), (5, .int l5_17), (4, .int vg7), (0, .ref 116), (1, .int x1), (2, .int x2), (3, .int x3)] [.int (i17 7469), .int (l7_17 + 1)] rfl ?_
              refine ft_ifS mi_k183 (decide ((i17 7469) ≤ (l7_17 + 1))) 114 71 [] (by rfl) (fun c => ?_) (fun c => ?_)
              ·
                have c19 : (i17 7469).toInt ≤ (l7_17 + 1).toInt := kd_le c; clear c
                have hG20 := kG_call hGg13 hL17 (by decide +kernel)
                refine ft_goS mi_k183 1 115 [.int x3] (by rfl) ?_
                refine ft_ifS mi_k183 (x3 != 0) 123 118 [] (by rfl) (fun c => ?_) (fun c => ?_)
                ·
                  have c21 : x3.toInt ≠ (0 : Int32).toInt := kd_ne c; clear c
                  first | refine ft_goS mi_k183 1 125 [.int l6_17] (by rfl) ?_
                  exact ft_ret mi_k183 (by rfl) (hP l6_17 _ _ _ _ hG20 ⟨trivial, ⟨(show a17 118 = a 118 from (by first | rfl | (simp only [O17_2, sMn, sMx]; done) | (simp only [O17_2, sMn, sMx]; rfl))), (rTop_go (rok (toe66 z2.1 z2.2 z4.1 z4.2 z6.1 z6.2 ktoe0 ktoe1)) og7 (toe67 c9 ktoe0) og10 ⟨fun h => absurd h (toe70 c21 z6.1 ktoe0), fun _ => congrArg Prod.fst (gBst_len O17_0 (kj_nm1 (toe9 p17_0) (toe196 c19 efi17_7469 efig13_7469 p17_0 p17_1 s18 ktoe1)))⟩)⟩⟩)
                ·
                  have c22 : x3.toInt = (0 : Int32).toInt := kd_neF c; clear c
                  first | refine ft_goS mi_k183 2 125 [.int l5_17] (by rfl) ?_
                  exact ft_ret mi_k183 (by rfl) (hP l5_17 _ _ _ _ hG20 ⟨trivial, ⟨(show a17 118 = a 118 from (by first | rfl | (simp only [O17_2, sMn, sMx]; done) | (simp only [O17_2, sMn, sMx]; rfl))), (rTop_go (rok (toe66 z2.1 z2.2 z4.1 z4.2 z6.1 z6.2 ktoe0 ktoe1)) og7 (toe67 c9 ktoe0) og10 ⟨fun _ => congrArg Prod.snd (gBst_len O17_0 (kj_nm1 (toe9 p17_0) (toe196 c19 efi17_7469 efig13_7469 p17_0 p17_1 s18 ktoe1))), fun h => absurd h (toe73 c22 z6.1 ktoe0)⟩)⟩⟩)
              ·
                have c23 : (l7_17 + 1).toInt < (i17 7469).toInt := kd_leF c; clear c
                refine ft_goS mi_k183 2 74 [.int l7_17, .ref 116] (by rfl) ?_
                refine ko_callN mi_k183.1 (pc := 74) (ls := [(7, .int l7_17), (6, .int l6_17), (5, .int l5_17), (4, .int vg7), (0, .ref 116), (1, .int x1), (2, .int x2), (3, .int x3)]) (st := [.int l7_17, .ref 116]) (h := ks i17 a17 q17 r17) (i := (.invokevirtual 294, 3, 182, 0, 9, 0, 433)) (mi_k183.2 _ _ (by rfl)) (ft_invS mi_pq182 (by rfl)) (cy := mi_c182) mi_pq182 rfl (ke182_116 hL17.I hL17.R l7_17 (toe200 c23 p17_0 p17_2 s18 ktoe1)) (by decide) ?_
                intro ig24 ag24 qg24 rg24 kg24 hg24
                have hGg24 := kG_call hL17 kg24 (by decide +kernel)
                obtain ⟨hg24, og24⟩ := hg24
                have tJ25 : kIs (ag24 142) (rSwp (lF (ag10 142)) l7_17.toInt.toNat) ((ig10 7469).toInt) := (kIs_sw (p := l7_17) (p1 := (l7_17 + 1)) (m := 21) O17_1 (hL17.I.2.1 142) (toe9 p17_0) (toe47 s18 ktoe1) (toe201 c23 efi17_7469 efig13_7469) (toe202 fig10_7469.2) og24)
                have q26 : ag24 142 = ((a17 142).set l7_17.toNatClampNeg ((a17 142).getD (l7_17 + 1).toNatClampNeg 0)).set (l7_17 + 1).toNatClampNeg ((a17 142).getD l7_17.toNatClampNeg 0) := og24
                refine ft_goS mi_k183 2 79 [.int x2, .ref 116] (by rfl) ?_
                have hG27 := kG_call hGg13 hGg24 (by decide +kernel)
                refine ko_callI mi_k183.1 (pc := 79) (ls := [(7, .int l7_17), (6, .int l6_17), (5, .int l5_17), (4, .int vg7), (0, .ref 116), (1, .int x1), (2, .int x2), (3, .int x3)]) (st := [.int x2, .ref 116]) (h := ks ig24 ag24 qg24 rg24) (i := (.invokevirtual 288, 3, 172, 0, 9, 0, 429)) (mi_k183.2 _ _ (by rfl)) (ft_invS mi_pq172 (by rfl)) (cy := mi_c172) mi_pq172 rfl (kg172_116 hGg24.I hGg24.R x2 (toe99 fi_7424.2 z4.1 z4.2) (kCode_of (i1 := ig24) hE_code (hG27.fi 7432 rfl) (hG27.fa 120 rfl) (hG27.fa 121 rfl) (hG27.fa 122 rfl) (hG27.fa 123 rfl))) (by decide) ?_
                intro vg28 ig28 ag28 qg28 rg28 kg28 hg28
                have hGg28 := kG_call hGg24 kg28 (by decide +kernel)
                obtain ⟨hg28, og28⟩ := hg28
                have oP29 := og28.2.1
                have hG30 := kG_call hGg13 hGg24 (by decide +kernel)
                rw [(gKn_fr hG30 (by decide +kernel) : gKn ig24 ag24 = gKn i a)] at oP29
                have fig24_7469 : ((0 : Int) ≤ (ig24 7469).toInt) ∧ ((ig24 7469).toInt ≤ 21) := hGg24.I.1 7469
                have efig24_7469 : (ig24 7469).toInt = (i17 7469).toInt := kg24.ti 7469 rfl
                have pv31 : vg28 = gPur (gKn i a) (a 118) (rSwp (lF (ag10 142)) l7_17.toInt.toNat) ((ig10 7469).toInt).toNat x2 := by
                  have e := gPur_of (R := rSwp (lF (ag10 142)) l7_17.toInt.toNat) oP29 (N := a 118) (show ag24 118 = a 118 from (by first | rfl | (simp only [kg24.fa 118 rfl, O17_2, sMn, sMx]; done) | (simp only [kg24.fa 118 rfl, O17_2, sMn, sMx]; rfl))) rfl (kIs_c tJ25 rfl (Int.le_of_eq (toe203 efi17_7469 efig13_7469 efig24_7469))) (toe9 fig24_7469.1)
                  rw [((toe203 efi17_7469 efig13_7469 efig24_7469) : (ig24 7469).toInt = (ig10 7469).toInt)] at e
                  exact e
                have q32 : ag28 118 = ag24 118 := og28.1
                refine ft_goL mi_k183 3 87 [(8, .int vg28), (7, .int l7_17), (6, .int l6_17), (5, .int l5_17), (4, .int vg7), (0, .ref 116), (1, .int x1), (2, .int x2), (3, .int x3)] [.int l7_17, .ref 116] (by rfl) ?_
                refine ko_callN mi_k183.1 (pc := 87) (ls := [(8, .int vg28), (7, .int l7_17), (6, .int l6_17), (5, .int l5_17), (4, .int vg7), (0, .ref 116), (1, .int x1), (2, .int x2), (3, .int x3)]) (st := [.int l7_17, .ref 116]) (h := ks ig28 ag28 qg28 rg28) (i := (.invokevirtual 294, 3, 182, 0, 9, 0, 433)) (mi_k183.2 _ _ (by rfl)) (ft_invS mi_pq182 (by rfl)) (cy := mi_c182) mi_pq182 rfl (ke182_116 hGg28.I hGg28.R l7_17 (toe200 c23 p17_0 p17_2 s18 ktoe1)) (by decide) ?_
                intro ig33 ag33 qg33 rg33 kg33 hg33
                have hGg33 := kG_call hGg28 kg33 (by decide +kernel)
                obtain ⟨hg33, og33⟩ := hg33
                have tJ34 : kIs (ag33 142) (rSwp (rSwp (lF (ag10 142)) l7_17.toInt.toNat) l7_17.toInt.toNat) ((ig10 7469).toInt) := (kIs_sw (p := l7_17) (p1 := (l7_17 + 1)) (m := 21) (kIs_c tJ25 (kg28.fa 142 rfl) (Int.le_refl _)) (hGg28.I.2.1 142) (toe9 p17_0) (toe47 s18 ktoe1) (toe201 c23 efi17_7469 efig13_7469) (toe202 fig10_7469.2) og33)
                have q35 : ag33 142 = ((ag28 142).set l7_17.toNatClampNeg ((ag28 142).getD (l7_17 + 1).toNatClampNeg 0)).set (l7_17 + 1).toNatClampNeg ((ag28 142).getD l7_17.toNatClampNeg 0) := og33
                refine ft_goS mi_k183 2 94 [.int l6_17, .int vg28] (by rfl) ?_
                refine ft_ifS mi_k183 (decide (l6_17 < vg28)) 100 97 [] (by rfl) (fun c => ?_) (fun c => ?_)
                ·
                  have c36 : l6_17.toInt < vg28.toInt := kd_lt c; clear c
                  first | refine fo_goL mi_k183 fz183_100_6_60 [(7, .int (l7_17 + 1)), (5, .int l7_17), (6, .int vg28), (8, .int vg28), (4, .int vg7), (0, .ref 116), (1, .int x1), (2, .int x2), (3, .int x3)] [] (by rfl) ?_ | refine ft_goL mi_k183 6 60 [(7, .int (l7_17 + 1)), (5, .int l7_17), (6, .int vg28), (8, .int vg28), (4, .int vg7), (0, .ref 116), (1, .int x1), (2, .int x2), (3, .int x3)] [] (by rfl) ?_
                  refine ko_perm [(7, .int (l7_17 + 1)), (6, .int vg28), (5, .int l7_17), (4, .int vg7), (0, .ref 116), (1, .int x1), (2, .int x2), (3, .int x3)] (List.forall_mem_cons.mpr ⟨(List.Mem.head _), (List.forall_mem_cons.mpr ⟨(List.Mem.tail _ (List.Mem.tail _ (List.Mem.head _))), (List.forall_mem_cons.mpr ⟨(List.Mem.tail _ (List.Mem.head _)), (List.forall_mem_cons.mpr ⟨(List.Mem.tail _ (List.Mem.tail _ (List.Mem.tail _ (List.Mem.tail _ (List.Mem.head _))))), (List.forall_mem_cons.mpr ⟨(List.Mem.tail _ (List.Mem.tail _ (List.Mem.tail _ (List.Mem.tail _ (List.Mem.tail _ (List.Mem.head _)))))), (List.forall_mem_cons.mpr ⟨(List.Mem.tail _ (List.Mem.tail _ (List.Mem.tail _ (List.Mem.tail _ (List.Mem.tail _ (List.Mem.tail _ (List.Mem.head _))))))), (List.forall_mem_cons.mpr ⟨(List.Mem.tail _ (List.Mem.tail _ (List.Mem.tail _ (List.Mem.tail _ (List.Mem.tail _ (List.Mem.tail _ (List.Mem.tail _ (List.Mem.head _)))))))), (List.forall_mem_cons.mpr ⟨(List.Mem.tail _ (List.Mem.tail _ (List.Mem.tail _ (List.Mem.tail _ (List.Mem.tail _ (List.Mem.tail _ (List.Mem.tail _ (List.Mem.tail _ (List.Mem.head _))))))))), (fun _ h => absurd h List.not_mem_nil)⟩)⟩)⟩)⟩)⟩)⟩)⟩)⟩) ?_
                  have fig33_7469 : ((0 : Int) ≤ (ig33 7469).toInt) ∧ ((ig33 7469).toInt ≤ 21) := hGg33.I.1 7469
                  have fig28_7469 : ((0 : Int) ≤ (ig28 7469).toInt) ∧ ((ig28 7469).toInt ≤ 21) := hGg28.I.1 7469
                  have efig28_7469 : (ig28 7469).toInt = (ig24 7469).toInt := kg28.ti 7469 rfl
                  have efig33_7469 : (ig33 7469).toInt = (ig28 7469).toInt := kg33.ti 7469 rfl
                  exact ih17 _ _ _ _ _ _ _ hGg33 (toe38 p17_0 s18 ktoe1) (toe204 c23 efig24_7469 efig28_7469 efig33_7469) (toe205 efig24_7469 efig28_7469 efig33_7469 p17_2) (kT2m (gBst_up (w1 := l7_17) O17_0 pv31 (toe154 c36) (toe9 p17_0) (toe47 s18 ktoe1) toe31) (kj_v toe31) rfl) (kIs_R tJ34 (rSwp_2 _).symm) (by first | rfl | (simp only [kg33.fa 118 rfl, q32, kg24.fa 118 rfl, O17_2, sMn, sMx]; done) | (simp only [kg33.fa 118 rfl, q32, kg24.fa 118 rfl, O17_2, sMn, sMx]; rfl)) (kj_meas (toe185 efig24_7469 efig28_7469 efig33_7469 s18 ktoe1) (toe206 c23 s18 ktoe1) hm17)
                ·
                  have c37 : vg28.toInt ≤ l6_17.toInt := kd_ltF c; clear c
                  first | refine fo_goL mi_k183 fz183_55_3_60 [(7, .int (l7_17 + 1)), (8, .int vg28), (6, .int l6_17), (5, .int l5_17), (4, .int vg7), (0, .ref 116), (1, .int x1), (2, .int x2), (3, .int x3)] [] (by rfl) ?_ | refine fo_goL mi_k183 fz183_97_3_60 [(7, .int (l7_17 + 1)), (8, .int vg28), (6, .int l6_17), (5, .int l5_17), (4, .int vg7), (0, .ref 116), (1, .int x1), (2, .int x2), (3, .int x3)] [] (by rfl) ?_ | refine fo_goL mi_k183 fz183_106_3_60 [(7, .int (l7_17 + 1)), (8, .int vg28), (6, .int l6_17), (5, .int l5_17), (4, .int vg7), (0, .ref 116), (1, .int x1), (2, .int x2), (3, .int x3)] [] (by rfl) ?_
                  refine ko_perm [(7, .int (l7_17 + 1)), (6, .int l6_17), (5, .int l5_17), (4, .int vg7), (0, .ref 116), (1, .int x1), (2, .int x2), (3, .int x3)] (List.forall_mem_cons.mpr ⟨(List.Mem.head _), (List.forall_mem_cons.mpr ⟨(List.Mem.tail _ (List.Mem.tail _ (List.Mem.head _))), (List.forall_mem_cons.mpr ⟨(List.Mem.tail _ (List.Mem.tail _ (List.Mem.tail _ (List.Mem.head _)))), (List.forall_mem_cons.mpr ⟨(List.Mem.tail _ (List.Mem.tail _ (List.Mem.tail _ (List.Mem.tail _ (List.Mem.head _))))), (List.forall_mem_cons.mpr ⟨(List.Mem.tail _ (List.Mem.tail _ (List.Mem.tail _ (List.Mem.tail _ (List.Mem.tail _ (List.Mem.head _)))))), (List.forall_mem_cons.mpr ⟨(List.Mem.tail _ (List.Mem.tail _ (List.Mem.tail _ (List.Mem.tail _ (List.Mem.tail _ (List.Mem.tail _ (List.Mem.head _))))))), (List.forall_mem_cons.mpr ⟨(List.Mem.tail _ (List.Mem.tail _ (List.Mem.tail _ (List.Mem.tail _ (List.Mem.tail _ (List.Mem.tail _ (List.Mem.tail _ (List.Mem.head _)))))))), (List.forall_mem_cons.mpr ⟨(List.Mem.tail _ (List.Mem.tail _ (List.Mem.tail _ (List.Mem.tail _ (List.Mem.tail _ (List.Mem.tail _ (List.Mem.tail _ (List.Mem.tail _ (List.Mem.head _))))))))), (fun _ h => absurd h List.not_mem_nil)⟩)⟩)⟩)⟩)⟩)⟩)⟩)⟩) ?_
                  have fig33_7469 : ((0 : Int) ≤ (ig33 7469).toInt) ∧ ((ig33 7469).toInt ≤ 21) := hGg33.I.1 7469
                  have fig28_7469 : ((0 : Int) ≤ (ig28 7469).toInt) ∧ ((ig28 7469).toInt ≤ 21) := hGg28.I.1 7469
                  have efig28_7469 : (ig28 7469).toInt = (ig24 7469).toInt := kg28.ti 7469 rfl
                  have efig33_7469 : (ig33 7469).toInt = (ig28 7469).toInt := kg33.ti 7469 rfl
                  exact ih17 _ _ _ _ _ _ _ hGg33 (toe38 p17_0 s18 ktoe1) (toe204 c23 efig24_7469 efig28_7469 efig33_7469) (toe205 efig24_7469 efig28_7469 efig33_7469 p17_2) (kT2m (gBst_no O17_0 pv31 (toe57 c37) (toe9 p17_0) (toe47 s18 ktoe1)) (kj_v toe31) toe31) (kIs_R tJ34 (rSwp_2 _).symm) (by first | rfl | (simp only [kg33.fa 118 rfl, q32, kg24.fa 118 rfl, O17_2, sMn, sMx]; done) | (simp only [kg33.fa 118 rfl, q32, kg24.fa 118 rfl, O17_2, sMn, sMx]; rfl)) (kj_meas (toe185 efig24_7469 efig28_7469 efig33_7469 s18 ktoe1) (toe206 c23 s18 ktoe1) hm17)
          have fig13_7469 : ((0 : Int) ≤ (ig13 7469).toInt) ∧ ((ig13 7469).toInt ≤ 21) := hGg13.I.1 7469
          have efig13_7469 : (ig13 7469).toInt = (ig10 7469).toInt := kg13.ti 7469 rfl
          exact lp17 _ _ _ _ _ _ _ _ (kG_self _ hGg13.I hGg13.R) (toe19 ktoe0) (toe207 ktoe0) (toe208 efig13_7469 z11) (kT2m (gBst_0 ktoe0) pv15 ktoem2) (kIs_c tJ12 (kg13.fa 142 rfl) (Int.le_refl _)) (by first | rfl | (simp only [q16, kg10.fa 118 rfl, sMn, sMx]; done) | (simp only [q16, kg10.fa 118 rfl, sMn, sMx]; rfl)) (Nat.lt_succ_self _)
        ·
          have c38 : vg7.toInt < (0 : Int32).toInt := kd_leF c; clear c
          refine ft_goS mi_k183 1 40 [.int vg7] (by rfl) ?_
          exact ft_ret mi_k183 (by rfl) (hP vg7 _ _ _ _ hG ⟨trivial, ⟨(show a 118 = a 118 from rfl), (rTop_bar (rok (toe66 z2.1 z2.2 z4.1 z4.2 z6.1 z6.2 ktoe0 ktoe1)) og7 (toe160 c38 ktoe0))⟩⟩)
      ·
        subst eg5
        have z39 : ¬ (((0 : Int32).toInt ≤ x3.toInt) ∧ (x3.toInt ≤ (1 : Int32).toInt)) := hg5
        first | refine fo_goS mi_k183 fz183_4_2_25 [.int (-1)] (by rfl) ?_ | refine fo_goS mi_k183 fz183_12_2_25 [.int (-1)] (by rfl) ?_ | refine fo_goS mi_k183 fz183_21_2_25 [.int (-1)] (by rfl) ?_
        exact ft_ret mi_k183 (by rfl) (hP (-1) _ _ _ _ hG ⟨trivial, ⟨(show a 118 = a 118 from rfl), (Or.inl ⟨(toe161 z39 ktoe0 ktoe1), rfl⟩)⟩⟩)
    ·
      subst eg3
      have fi_7424 : ((0 : Int) ≤ (i 7424).toInt) ∧ ((i 7424).toInt ≤ 8) := hG.I.1 7424
      have z40 : ¬ (((0 : Int) ≤ x2.toInt) ∧ (x2.toInt < (i 7424).toInt)) := hg3
      first | refine fo_goS mi_k183 fz183_4_2_25 [.int (-1)] (by rfl) ?_ | refine fo_goS mi_k183 fz183_12_2_25 [.int (-1)] (by rfl) ?_ | refine fo_goS mi_k183 fz183_21_2_25 [.int (-1)] (by rfl) ?_
      exact ft_ret mi_k183 (by rfl) (hP (-1) _ _ _ _ hG ⟨trivial, ⟨(show a 118 = a 118 from rfl), (Or.inl ⟨(toe162 z40), rfl⟩)⟩⟩)
  ·
    subst eg1
    have z41 : ¬ (((0 : Int) ≤ x1.toInt) ∧ (x1.toInt ≤ 5)) := hg1
    first | refine fo_goS mi_k183 fz183_4_2_25 [.int (-1)] (by rfl) ?_ | refine fo_goS mi_k183 fz183_12_2_25 [.int (-1)] (by rfl) ?_ | refine fo_goS mi_k183 fz183_21_2_25 [.int (-1)] (by rfl) ?_
    have fi_7424 : ((0 : Int) ≤ (i 7424).toInt) ∧ ((i 7424).toInt ≤ 8) := hG.I.1 7424
    exact ft_ret mi_k183 (by rfl) (hP (-1) _ _ _ _ hG ⟨trivial, ⟨(show a 118 = a 118 from rfl), (Or.inl ⟨(toe163 z41), rfl⟩)⟩⟩)
end
section
/-! what the contracts say, by names -/
end
section
/-! what the contracts say, by names -/
end
section
/-! what the contracts say, by names -/
noncomputable def pt_ke93_0 (x1 : Int32) (x2 : Int32) (x3 : Int32) (v : Int32) (i : Nat → Int32) (a : Nat → List Int32) (q : Nat → List Int64) (r : Nat → Nat) (i1 : Nat → Int32) (a1 : Nat → List Int32) (q1 : Nat → List Int64) (r1 : Nat → Nat) : Prop := (True) ∧ cTop (((0 : Int) ≤ x2.toInt) ∧ (x2.toInt < (i 64).toInt) ∧ ((0 : Int) ≤ x3.toInt) ∧ (x3.toInt ≤ 1)) i q x1 v (fun n L => fLt (gKn i a) (a 118) x2 x3 v n L)
noncomputable def pt_kz183_116 (x1 : Int32) (x2 : Int32) (x3 : Int32) (v : Int32) (i : Nat → Int32) (a : Nat → List Int32) (q : Nat → List Int64) (r : Nat → Nat) (i1 : Nat → Int32) (a1 : Nat → List Int32) (q1 : Nat → List Int64) (r1 : Nat → Nat) : Prop := (True) ∧ (a1 118 = a 118 ∧ rTop (((0 : Int) ≤ x2.toInt) ∧ (x2.toInt < (i 7424).toInt) ∧ ((0 : Int) ≤ x3.toInt) ∧ (x3.toInt ≤ 1)) i a q x1 v (fun n L => fLt (gKn i a) (a 118) x2 x3 v n L))
end
section
/-! ROWS IN THOUGHT: class and reference answer alike -/
theorem rTop_fr {ok : Prop} {i i1 : Nat → Int32} {a a1 : Nat → List Int32} {q q1 : Nat → List Int64} {x1 v : Int32} {f : Int → List Int32 → Prop} (e1 : i1 7424 = i 7424) (e2 : a1 136 = a 136) (e3 : a1 137 = a 137) (e4 : q1 138 = q 138) (h : rTop ok i1 a1 q1 x1 v f) : rTop ok i a q x1 v f := by
  unfold rTop rRb rRow1 at h ⊢
  rw [e1, e2, e3, e4] at h
  exact h
section ST98
variable {i i1 i2 : Nat → Int32} {a a1 a2 : Nat → List Int32} {q q1 q2 : Nat → List Int64} {r r1 r2 : Nat → Nat} {u1 u2 x1 x2 x3 x4 : Int32}
end ST98
end
section
/-! ROWS IN THOUGHT: class and reference answer alike -/
section ST98
variable {i i1 i2 : Nat → Int32} {a a1 a2 : Nat → List Int32} {q q1 q2 : Nat → List Int64} {r r1 r2 : Nat → Nat} {u1 u2 x1 x2 x3 x4 : Int32}
end ST98
end
section
/-! ROWS IN THOUGHT: class and reference answer alike -/
section ST98
variable {i i1 i2 : Nat → Int32} {a a1 a2 : Nat → List Int32} {q q1 q2 : Nat → List Int64} {r r1 r2 : Nat → Nat} {u1 u2 x1 x2 x3 x4 : Int32}
theorem st_latch (K : kAll i a q r) (h : kMar i a r) (g1 : kG yw93_0 i a q r i1 a1 q1 r1) (P1 : pt_ke93_0 x1 x2 x3 u1 i a q r i1 a1 q1 r1) (P2 : pt_kz183_116 x1 x2 x3 u2 i1 a1 q1 r1 i2 a2 q2 r2) : u1 = u2 := by
  have P2 := rTop_fr (g1.fi 7424 rfl) (g1.fa 136 rfl) (g1.fa 137 rfl) (g1.fq 138 rfl) P2.2.2
  have e := gKn_fr g1 (by decide +kernel)
  have eR : gEq (gB i a) (gR i1 a1) := ⟨(g1.fa 118 rfl).symm, rfl⟩
  rw [(g1.fi 7424 rfl).trans h.1.symm] at P2
  refine top_same K.2.2.1 h.1 Iff.rfl (kI_ho K.1.1) (fun t ht => (kI_so K.1.1 t ht).1) (fun t ht => (kI_ln K.1.1 t ht).2) (fun n L L1 ok h0 h20 hL f g => ?_) P1.2 P2
  rw [e, g1.fa 118 rfl] at g
  exact fLt_same h0 hL f g
end ST98
end
