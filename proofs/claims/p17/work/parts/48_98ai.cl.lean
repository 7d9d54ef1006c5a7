theorem ktoy0 : (0 : Int32).toInt = 0 := by decide
theorem ktoy1 : (1 : Int32).toInt = 1 := by decide
theorem koym1 : ((-1) : Int32).toInt = (-1) := by decide
theorem ktoy20 : (20 : Int32).toInt = 20 := by decide
theorem koym12 : ((-12) : Int32).toInt = (-12) := by decide
theorem koym11 : ((-11) : Int32).toInt = (-11) := by decide
theorem toy9 {a0 a1 : Int} (h0 : (0 : Int) ≤ a0) (h1 : a0 ≤ 5) (h2 : a1 = 0) : (a1 < 0) ∨ ((a1 = 0) ∧ ((0 : Int) ≤ a0) ∧ (a0 ≤ 5)) := oz989 h0 h1 h2
theorem toy10 {a0 : Int} (h0 : a0 = 0) (h1 : (0 : Int) ≤ a0) : a0 = ((0 : Nat) : Int) := oc33 h0 h1
theorem toy11 {a0 : Int} (h0 : a0 ≤ 2) (h1 : a0 = 2) : a0 = 2 := by omega
theorem toy12 {a0 a1 : Int} (h0 : (0 : Int) ≤ a0) (h1 : a0 = a1) (h2 : a1 = 0) : a0 = 0 := by omega
theorem toy13 {a0 a1 : Int} (h0 : a0 = (-12)) : (a0 < 0) ∨ ((a0 = 0) ∧ ((0 : Int) ≤ a1) ∧ (a1 ≤ 5)) := oz990 h0
theorem toy14 {a0 a1 : Int} (h0 : a0 ≠ a1) (h1 : (0 : Int) ≤ a0) (h2 : a1 = 0) : a0 ≠ 0 := oz662 h0 h1 h2
theorem toy15 {a0 a1 a2 : Int} (h0 : a0 ≤ 2) (h1 : (0 : Int) ≤ a1) (h2 : ¬ ((a0 = 2) ∧ (a1 = a2))) (h3 : a2 = 0) : ¬ (a0 = 2 ∧ a1 = 0) := by omega
theorem toy16 {a0 : Int} (h0 : a0 = 0) (h1 : ¬ (a0 = 0)) (h2 : (0 : Int) ≤ a0) : False := oz991 h0 h1 h2
theorem toy17 {a0 a1 : Int} (h0 : a0 = (-11)) : (a0 < 0) ∨ ((a0 = 0) ∧ ((0 : Int) ≤ a1) ∧ (a1 ≤ 5)) := oz992 h0
theorem toy18 {a0 a1 : Int} (h0 : a0 = a1) (h1 : (0 : Int) ≤ a0) (h2 : a1 = 0) : a0 = 0 := od48 h0 h1 h2
theorem toy20 {a0 a1 : Int} (h0 : a0 = 1) (h1 : a0 ≤ 5) (h2 : a1 = 0) : (a1 < 0) ∨ ((a1 = 0) ∧ ((0 : Int) ≤ a0) ∧ (a0 ≤ 5)) := oz994 h0 h1 h2
theorem toy21 {a0 : Int} (h0 : a0 = 1) : a0 = ((1 : Nat) : Int) := oc44 h0
theorem toy22 {a0 : Int} (h0 : a0 = 1) (h1 : ¬ (a0 = 1)) : False := oz995 h0 h1
theorem toy24 {a0 a1 : Int} (h0 : a0 = 2) (h1 : a0 ≤ 5) (h2 : a1 = 0) : (a1 < 0) ∨ ((a1 = 0) ∧ ((0 : Int) ≤ a0) ∧ (a0 ≤ 5)) := oz997 h0 h1 h2
theorem toy25 {a0 : Int} (h0 : a0 = 2) : a0 = ((2 : Nat) : Int) := oc55 h0
theorem toy26 {a0 : Int} (h0 : a0 = 2) (h1 : ¬ (a0 = 2)) : False := oz998 h0 h1
theorem toy28 {a0 a1 : Int} (h0 : a0 = 3) (h1 : a0 ≤ 5) (h2 : a1 = 0) : (a1 < 0) ∨ ((a1 = 0) ∧ ((0 : Int) ≤ a0) ∧ (a0 ≤ 5)) := oz1000 h0 h1 h2
theorem toy29 {a0 : Int} (h0 : a0 = 3) : a0 = ((3 : Nat) : Int) := oc67 h0
theorem toy30 {a0 : Int} (h0 : a0 = 3) (h1 : ¬ (a0 = 3)) : False := oz1001 h0 h1
theorem toy32 {a0 a1 : Int} (h0 : a0 = 4) (h1 : a0 ≤ 5) (h2 : a1 = 0) : (a1 < 0) ∨ ((a1 = 0) ∧ ((0 : Int) ≤ a0) ∧ (a0 ≤ 5)) := oz1003 h0 h1 h2
theorem toy33 {a0 : Int} (h0 : a0 = 4) : a0 = ((4 : Nat) : Int) := oc79 h0
theorem toy34 {a0 : Int} (h0 : a0 = 4) (h1 : ¬ (a0 = 4)) : False := oz1004 h0 h1
theorem toy36 {a0 a1 : Int} (h0 : a0 = 5) (h1 : a0 ≤ 5) (h2 : a1 = 0) : (a1 < 0) ∨ ((a1 = 0) ∧ ((0 : Int) ≤ a0) ∧ (a0 ≤ 5)) := oz1006 h0 h1 h2
theorem toy37 {a0 : Int} (h0 : a0 = 5) (h1 : a0 ≤ 5) : a0 = ((5 : Nat) : Int) := by omega
theorem toy38 {a0 : Int} (h0 : a0 = 5) (h1 : ¬ (a0 = 5)) (h2 : a0 ≤ 5) : False := oz1007 h0 h1 h2
theorem toy39 {a0 : Int} (h0 : ¬ (a0 = 1)) (h1 : ¬ (a0 = 2)) (h2 : ¬ (a0 = 0)) (h3 : ¬ (a0 = 3)) (h4 : ¬ (a0 = 4)) (h5 : ¬ (a0 = 5)) (h6 : (0 : Int) ≤ a0) (h7 : a0 ≤ 5) : False := oz1008 h0 h1 h2 h3 h4 h5 h6 h7
theorem toy40 {a0 a1 : Int} (h0 : a0 = (-1)) : (a0 < 0) ∨ ((a0 = 0) ∧ ((0 : Int) ≤ a1) ∧ (a1 ≤ 5)) := oz1009 h0
theorem toy41 {a0 : Int} (h0 : ¬ (((0 : Int) ≤ a0) ∧ (a0 ≤ 5))) : ¬ ((0 : Int) ≤ a0 ∧ a0 ≤ 5) := by omega
theorem toy42 {a0 a1 : Int} (h0 : (a0 < 0) ∨ ((a0 = 0) ∧ ((0 : Int) ≤ a1) ∧ (a1 ≤ 5))) : a0 ≤ 0 := by omega
theorem toy43 {a0 a1 a2 : Int} (h0 : a0 ≠ a1) (h1 : (a0 < 0) ∨ ((a0 = 0) ∧ ((0 : Int) ≤ a2) ∧ (a2 ≤ 5))) (h2 : a1 = 0) : a0 < 0 := by omega
theorem toy45 {a0 : Int} (h0 : a0 = 0) : (0 : Int) ≤ a0 := oz46 h0
theorem toy46 {a0 : Int} (h0 : a0 = 0) : a0 ≤ 20 := oz220 h0
theorem toy48 {a0 : Int} (h0 : (0 : Int) ≤ a0) : (0 : Int) ≤ a0 := oz3 h0
theorem toy49 {a0 : Int} (h0 : a0 ≤ 20) : a0 ≤ 20 := oz221 h0
theorem toy50 {a0 a1 : Int} (h0 : a0 ≤ a1) : a0 ≤ a1 := oz173 h0
theorem toy51 {a0 a1 a2 : Int} (h0 : a0 ≤ a1) (h1 : a0 = a2) (h2 : a1 ≤ a2) : a1 = a2 := ox0 h0 h1 h2
theorem toy53 {a0 : Int} (h0 : a0 ≤ 20) : a0 < 60 := by omega
theorem toy54 {a0 a1 a2 : Int} (h0 : a0 < a1) (h1 : a1 = a2) : a0 ≤ a2 := by omega
theorem toy55 {a0 a1 a2 : Int} (h0 : a0 < a1) (h1 : a1 = 0) : ¬ ((0 : Int) ≤ a0 ∧ a0 < a2) := op151 h0 h1
theorem toy56 {a0 a1 : Int} (h0 : a0 < a1) (h1 : a1 = 20) : a0 < 20 := oz1013 h0 h1
theorem toy57 {a0 a1 : Int} (h0 : (0 : Int) ≤ a0) (h1 : a1 = 1) : (-2147483648 : Int) ≤ a0 + a1 := oz12 h0 h1
theorem toy58 {a0 a1 : Int} (h0 : a0 ≤ 20) (h1 : a1 = 1) : a0 + a1 ≤ 2147483647 := oz448 h0 h1
theorem toy59 {a0 a1 a2 : Int} (h0 : (0 : Int) ≤ a0) (h1 : a1 = a0 + a2) (h2 : a2 = 1) : (0 : Int) ≤ a1 := oz14 h0 h1 h2
theorem toy60 {a0 a1 a2 a3 : Int} (h0 : a0 < a1) (h1 : a2 = a0 + a3) (h2 : a1 = 20) (h3 : a3 = 1) : a2 ≤ 20 := oz224 h0 h1 h2 h3
theorem toy61 {a0 : Int}  : a0 = a0 := oz34
theorem toy62 {a0 a1 a2 a3 a4 : Int} (h0 : a0 < a1) (h1 : a1 = a2) (h2 : a3 = a0 + a4) (h3 : a4 = 1) : a3 ≤ a2 := ox9 h0 h1 h2 h3
theorem toy63 {a0 a1 : Int} (h0 : a0 < a1) (h1 : a1 = 20) : a0 < ((20 : Nat) : Int) := ox12 h0 h1
theorem toy64 {a0 a1 a2 : Int} (h0 : a0 = a1 + a2) (h1 : a2 = 1) : a0 = a1 + 1 := oz169 h0 h1
theorem toy65 {a0 a1 : Int} (h0 : a0 ≤ a1) (h1 : a0 = 0) : (0 : Int) ≤ a1 := oz389 h0 h1
theorem toy66 {a0 a1 : Int} (h0 : a0 < a1) : a0 < a1 := oz270 h0
theorem toy67 {a0 a1 a2 : Int} (h0 : a0 = a1 + a2) (h1 : a2 = 1) : (20 - a0) < (20 - a1) := oz218 h0 h1
theorem toy68 {a0 a1 : Int} (h0 : a0 < a1) (h1 : a1 = 20) : (1 : Int) ≤ (20 - a0) := oz225 h0 h1
theorem toy69 {a0 a1 : Int} (h0 : a0 ≤ a1) : ¬ ((0 : Int) ≤ a1 ∧ a1 < a0) := op152 h0
theorem toy70 {a0 : Int} (h0 : a0 = 0) : a0 = a0 := ov102 h0
theorem toy71 {a0 a1 : Int} (h0 : (0 : Int) ≤ a0) (h1 : a1 = 0) : a1 ≤ a0 := ob67 h0 h1
theorem toy72 {a0 a1 : Int} (h0 : a0 = a1) : a0 = a1 := oz719 h0
theorem toy73 {a0 a1 a2 : Int} (h0 : a0 ≤ a1) (h1 : a2 ≤ 20) (h2 : a2 = a1) (h3 : a0 = 20) : a2 = a1 := by omega
theorem toy74 {a0 a1 : Int} (h0 : a0 ≤ a1) (h1 : a0 = 20) : (0 : Int) ≤ a1 := by omega
theorem toy75 {a0 a1 : Int} (h0 : a0 ≤ a1) (h1 : a1 ≤ 20) (h2 : a0 = 20) : a1 = 20 := by omega
theorem toy76 {a0 a1 : Int} (h0 : a0 = a1) (h1 : a1 = 0) : a0 ≤ 0 := by omega
theorem toy77 {a0 : Int} (h0 : a0 = 0) : a0 = ((0 : Nat) : Int) := by omega
theorem toy78 {a0 a1 : Int} (h0 : a0 = a1) (h1 : a1 = 0) : a0 = 0 := og41 h0 h1
theorem toy79 {a0 : Int} (h0 : a0 = 5) : a0 = ((5 : Nat) : Int) := oc91 h0
theorem toy80 {a0 a1 a2 : Int} (h0 : a0 = a1) (h1 : ¬ (a2 = 3)) (h2 : ¬ (a2 = 4)) (h3 : ¬ (a2 = 5)) (h4 : ¬ (a2 = 0)) (h5 : ¬ (a2 = 1)) (h6 : ¬ (a2 = 2)) (h7 : (a0 < 0) ∨ ((a0 = 0) ∧ ((0 : Int) ≤ a2) ∧ (a2 ≤ 5))) (h8 : a1 = 0) : False := oz1016 h0 h1 h2 h3 h4 h5 h6 h7 h8
theorem toy121 {a0 a1 : Int} (h0 : a0 ≠ a1) (h1 : a1 ≤ a0) (h2 : a1 = 0) : ¬ (a0 = 0) := by omega
theorem toy122 {a0 a1 a2 : Int} (h0 : a0 ≠ a1) (h1 : a0 ≠ a2) (h2 : a1 ≤ a0) (h3 : a1 = 0) (h4 : a2 = 1) : ¬ (a0 = 1) := by omega
theorem toy127 {a0 a1 : Int} (h0 : a0 = a1) (h1 : a1 = 1) : ¬ (a0 = 2) := by omega
theorem toy129 {a0 a1 : Int} (h0 : a0 = a1) (h1 : a1 = 0) : ¬ (a0 = 1) := by omega
theorem toy130 {a0 a1 : Int} (h0 : a0 = a1) (h1 : a1 = 0) : ¬ (a0 = 2) := by omega
theorem toy131 {a0 a1 : Int} (h0 : a0 ≤ a1) : ¬ (a1 < a0) := by omega
set_option maxRecDepth 100000 in
theorem kg127_0 {i : Nat → Int32} {a : Nat → List Int32} {q : Nat → List Int64} {r : Nat → Nat} (hI : kI i a q) (hr : kr r) (x1 : Int32) : km 5 127 [.ref 0, .int x1] (ks i a q r) (kPI (ks i a q r) (fun v => ((v.toInt < 0) ∨ ((v.toInt = 0) ∧ ((0 : Int) ≤ x1.toInt) ∧ (x1.toInt ≤ 5))) ∧ cRb i x1 v)) := by
  have hG := kG_self kW0 hI hr
  refine km_ofPI (q := (mi_h127, mi_c127)) rfl (by decide) (Nat.le_of_ble_eq_true rfl) ?_
  intro P hP
  first | refine ft_go mi_k127 1 1 [(0, .ref 0), (1, .int x1)] [.int x1] i a q r (by rfl) ?_ | refine ko_steps mi_in127 1 _ (1, [(0, .ref 0), (1, .int x1)], [.int x1], (0, 0), ks i a q r) (by rfl) ?_
  refine ko_callPI mi_k127.1 (pc := 1) (ls := [(0, .ref 0), (1, .int x1)]) (st := [.int x1]) (h := ks i a q r) (i := (.invokestatic 70, 3, 121, 0, 9, 0, 157)) (mi_k127.2 _ _ (by rfl)) (ft_invS mi_pq121 (by rfl)) (cy := mi_c121) mi_pq121 rfl (kc121 hG.I hG.R x1) (by decide) ?_
  intro vg1 hg1
  rcases hg1 with ⟨eg1, hg1⟩ | ⟨eg1, hg1⟩
  ·
    subst eg1
    have z2 : ((0 : Int) ≤ x1.toInt) ∧ (x1.toInt ≤ 5) := hg1
    first | refine ft_go mi_k127 4 14 [(0, .ref 0), (1, .int x1)] [.int x1, .ref 97] i a q r (by rfl) ?_ | refine ko_steps mi_in127 4 _ (14, [(0, .ref 0), (1, .int x1)], [.int x1, .ref 97], (0, 0), ks i a q r) (by rfl) ?_
    by_cases w3 : x1.toInt = 0
    ·
      refine ko_eq (x1 := (14, [(0, .ref 0), (1, .int x1)], [.int 0, .ref 97], (0, 0), ks i a q r)) (by rw [(kj_eq w3 (by decide) : x1 = 0)]) ?_
      have fi_6656 : ((0 : Int) ≤ (i 6656).toInt) ∧ ((i 6656).toInt ≤ 2) := hG.I.1 6656
      first | refine ft_go mi_k127 2 18 [(0, .ref 0), (1, .int x1)] [.int (i 6656)] i a q r (by rfl) ?_ | refine ko_steps mi_in127 2 _ (18, [(0, .ref 0), (1, .int x1)], [.int (i 6656)], (0, 0), ks i a q r) (by rfl) ?_
      refine ft_if mi_k127 ((i 6656) != 0) 24 21 [(0, .ref 0), (1, .int x1)] [] (by rfl) (fun c => ?_) (fun c => ?_)
      ·
        have c4 : (i 6656).toInt ≠ (0 : Int32).toInt := kd_ne c; clear c
        first | refine ft_go mi_k127 3 29 [(0, .ref 0), (1, .int x1)] [.int x1, .ref 97] i a q r (by rfl) ?_ | refine ko_steps mi_in127 3 _ (29, [(0, .ref 0), (1, .int x1)], [.int x1, .ref 97], (0, 0), ks i a q r) (by rfl) ?_
        by_cases w5 : x1.toInt = 0
        ·
          refine ko_eq (x1 := (29, [(0, .ref 0), (1, .int x1)], [.int 0, .ref 97], (0, 0), ks i a q r)) (by rw [(kj_eq w5 (by decide) : x1 = 0)]) ?_
          first | refine ft_go mi_k127 2 31 [(0, .ref 0), (1, .int x1)] [.int 0, .ref 104] i a q r (by rfl) ?_ | refine ko_steps mi_in127 2 _ (31, [(0, .ref 0), (1, .int x1)], [.int 0, .ref 104], (0, 0), ks i a q r) (by rfl) ?_
          refine ko_callPI mi_k127.1 (pc := 31) (ls := [(0, .ref 0), (1, .int x1)]) (st := [.int 0, .ref 104]) (h := ks i a q r) (i := (.invokevirtual 81, 3, 36, 0, 9, 0, 158)) (mi_k127.2 _ _ (by rfl)) (ft_invS mi_pq36 (by rfl)) (cy := mi_c36) mi_pq36 rfl (kc36_104 hG.I hG.R 0) (by decide) ?_
          intro vg6 hg6
          rcases hg6 with ⟨eg6, hg6⟩ | ⟨eg6, hg6⟩
          ·
            subst eg6
            have fi_6658 : ((0 : Int) ≤ (i 6658).toInt) ∧ ((i 6658).toInt ≤ 4) := hG.I.1 6658
            have z7 : ((i 6656).toInt = 2) ∧ ((i 6658).toInt = (0 : Int32).toInt) := hg6
            first | refine ft_go mi_k127 3 43 [(0, .ref 0), (1, .int x1)] [.int 0] i a q r (by rfl) ?_ | refine ko_steps mi_in127 3 _ (43, [(0, .ref 0), (1, .int x1)], [.int 0], (0, 0), ks i a q r) (by rfl) ?_
            exact ft_ret mi_k127 (by rfl) (hP 0 ⟨(toy9 z2.1 z2.2 ktoy0), (Or.inr ⟨0, by decide, (toy10 w3 z2.1), Or.inr (Or.inr ⟨(toy11 fi_6656.2 z7.1), (toy12 fi_6658.1 z7.2 ktoy0), rfl⟩)⟩)⟩)
          ·
            subst eg6
            have fi_6658 : ((0 : Int) ≤ (i 6658).toInt) ∧ ((i 6658).toInt ≤ 4) := hG.I.1 6658
            have z8 : ¬ (((i 6656).toInt = 2) ∧ ((i 6658).toInt = (0 : Int32).toInt)) := hg6
            first | refine ft_go mi_k127 2 43 [(0, .ref 0), (1, .int x1)] [.int (-12)] i a q r (by rfl) ?_ | refine ko_steps mi_in127 2 _ (43, [(0, .ref 0), (1, .int x1)], [.int (-12)], (0, 0), ks i a q r) (by rfl) ?_
            exact ft_ret mi_k127 (by rfl) (hP (-12) ⟨(toy13 koym12), (Or.inr ⟨0, by decide, (toy10 w3 z2.1), Or.inr (Or.inl ⟨(toy14 c4 fi_6656.1 ktoy0), (toy15 fi_6656.2 fi_6658.1 z8 ktoy0), rfl⟩)⟩)⟩)
        exact (toy16 w3 w5 z2.1).elim
      ·
        have c14 : (i 6656).toInt = (0 : Int32).toInt := kd_neF c; clear c
        first | refine ft_go mi_k127 1 23 [(0, .ref 0), (1, .int x1)] [.int (-11)] i a q r (by rfl) ?_ | refine ko_steps mi_in127 1 _ (23, [(0, .ref 0), (1, .int x1)], [.int (-11)], (0, 0), ks i a q r) (by rfl) ?_
        have fi_6658 : ((0 : Int) ≤ (i 6658).toInt) ∧ ((i 6658).toInt ≤ 4) := hG.I.1 6658
        exact ft_ret mi_k127 (by rfl) (hP (-11) ⟨(toy17 koym11), (Or.inr ⟨0, by decide, (toy10 w3 z2.1), Or.inl ⟨(toy18 c14 fi_6656.1 ktoy0), rfl⟩⟩)⟩)
    by_cases w15 : x1.toInt = 1
    ·
      refine ko_eq (x1 := (14, [(0, .ref 0), (1, .int x1)], [.int 1, .ref 97], (0, 0), ks i a q r)) (by rw [(kj_eq w15 (by decide) : x1 = 1)]) ?_
      have fi_6784 : ((0 : Int) ≤ (i 6784).toInt) ∧ ((i 6784).toInt ≤ 2) := hG.I.1 6784
      first | refine ft_go mi_k127 2 18 [(0, .ref 0), (1, .int x1)] [.int (i 6784)] i a q r (by rfl) ?_ | refine ko_steps mi_in127 2 _ (18, [(0, .ref 0), (1, .int x1)], [.int (i 6784)], (0, 0), ks i a q r) (by rfl) ?_
      refine ft_if mi_k127 ((i 6784) != 0) 24 21 [(0, .ref 0), (1, .int x1)] [] (by rfl) (fun c => ?_) (fun c => ?_)
      ·
        have c16 : (i 6784).toInt ≠ (0 : Int32).toInt := kd_ne c; clear c
        first | refine ft_go mi_k127 3 29 [(0, .ref 0), (1, .int x1)] [.int x1, .ref 97] i a q r (by rfl) ?_ | refine ko_steps mi_in127 3 _ (29, [(0, .ref 0), (1, .int x1)], [.int x1, .ref 97], (0, 0), ks i a q r) (by rfl) ?_
        by_cases w18 : x1.toInt = 1
        ·
          refine ko_eq (x1 := (29, [(0, .ref 0), (1, .int x1)], [.int 1, .ref 97], (0, 0), ks i a q r)) (by rw [(kj_eq w18 (by decide) : x1 = 1)]) ?_
          first | refine ft_go mi_k127 2 31 [(0, .ref 0), (1, .int x1)] [.int 0, .ref 106] i a q r (by rfl) ?_ | refine ko_steps mi_in127 2 _ (31, [(0, .ref 0), (1, .int x1)], [.int 0, .ref 106], (0, 0), ks i a q r) (by rfl) ?_
          refine ko_callPI mi_k127.1 (pc := 31) (ls := [(0, .ref 0), (1, .int x1)]) (st := [.int 0, .ref 106]) (h := ks i a q r) (i := (.invokevirtual 81, 3, 36, 0, 9, 0, 158)) (mi_k127.2 _ _ (by rfl)) (ft_invS mi_pq36 (by rfl)) (cy := mi_c36) mi_pq36 rfl (kc36_106 hG.I hG.R 0) (by decide) ?_
          intro vg19 hg19
          rcases hg19 with ⟨eg19, hg19⟩ | ⟨eg19, hg19⟩
          ·
            subst eg19
            have fi_6786 : ((0 : Int) ≤ (i 6786).toInt) ∧ ((i 6786).toInt ≤ 4) := hG.I.1 6786
            have z20 : ((i 6784).toInt = 2) ∧ ((i 6786).toInt = (0 : Int32).toInt) := hg19
            first | refine ft_go mi_k127 3 43 [(0, .ref 0), (1, .int x1)] [.int 0] i a q r (by rfl) ?_ | refine ko_steps mi_in127 3 _ (43, [(0, .ref 0), (1, .int x1)], [.int 0], (0, 0), ks i a q r) (by rfl) ?_
            exact ft_ret mi_k127 (by rfl) (hP 0 ⟨(toy20 w15 z2.2 ktoy0), (Or.inr ⟨1, by decide, (toy21 w15), Or.inr (Or.inr ⟨(toy11 fi_6784.2 z20.1), (toy12 fi_6786.1 z20.2 ktoy0), rfl⟩)⟩)⟩)
          ·
            subst eg19
            have fi_6786 : ((0 : Int) ≤ (i 6786).toInt) ∧ ((i 6786).toInt ≤ 4) := hG.I.1 6786
            have z21 : ¬ (((i 6784).toInt = 2) ∧ ((i 6786).toInt = (0 : Int32).toInt)) := hg19
            first | refine ft_go mi_k127 2 43 [(0, .ref 0), (1, .int x1)] [.int (-12)] i a q r (by rfl) ?_ | refine ko_steps mi_in127 2 _ (43, [(0, .ref 0), (1, .int x1)], [.int (-12)], (0, 0), ks i a q r) (by rfl) ?_
            exact ft_ret mi_k127 (by rfl) (hP (-12) ⟨(toy13 koym12), (Or.inr ⟨1, by decide, (toy21 w15), Or.inr (Or.inl ⟨(toy14 c16 fi_6784.1 ktoy0), (toy15 fi_6784.2 fi_6786.1 z21 ktoy0), rfl⟩)⟩)⟩)
        exact (toy22 w15 w18).elim
      ·
        have c26 : (i 6784).toInt = (0 : Int32).toInt := kd_neF c; clear c
        first | refine ft_go mi_k127 1 23 [(0, .ref 0), (1, .int x1)] [.int (-11)] i a q r (by rfl) ?_ | refine ko_steps mi_in127 1 _ (23, [(0, .ref 0), (1, .int x1)], [.int (-11)], (0, 0), ks i a q r) (by rfl) ?_
        have fi_6786 : ((0 : Int) ≤ (i 6786).toInt) ∧ ((i 6786).toInt ≤ 4) := hG.I.1 6786
        exact ft_ret mi_k127 (by rfl) (hP (-11) ⟨(toy17 koym11), (Or.inr ⟨1, by decide, (toy21 w15), Or.inl ⟨(toy18 c26 fi_6784.1 ktoy0), rfl⟩⟩)⟩)
    by_cases w27 : x1.toInt = 2
    ·
      refine ko_eq (x1 := (14, [(0, .ref 0), (1, .int x1)], [.int 2, .ref 97], (0, 0), ks i a q r)) (by rw [(kj_eq w27 (by decide) : x1 = 2)]) ?_
      have fi_6912 : ((0 : Int) ≤ (i 6912).toInt) ∧ ((i 6912).toInt ≤ 2) := hG.I.1 6912
      first | refine ft_go mi_k127 2 18 [(0, .ref 0), (1, .int x1)] [.int (i 6912)] i a q r (by rfl) ?_ | refine ko_steps mi_in127 2 _ (18, [(0, .ref 0), (1, .int x1)], [.int (i 6912)], (0, 0), ks i a q r) (by rfl) ?_
      refine ft_if mi_k127 ((i 6912) != 0) 24 21 [(0, .ref 0), (1, .int x1)] [] (by rfl) (fun c => ?_) (fun c => ?_)
      ·
        have c28 : (i 6912).toInt ≠ (0 : Int32).toInt := kd_ne c; clear c
        first | refine ft_go mi_k127 3 29 [(0, .ref 0), (1, .int x1)] [.int x1, .ref 97] i a q r (by rfl) ?_ | refine ko_steps mi_in127 3 _ (29, [(0, .ref 0), (1, .int x1)], [.int x1, .ref 97], (0, 0), ks i a q r) (by rfl) ?_
        by_cases w31 : x1.toInt = 2
        ·
          refine ko_eq (x1 := (29, [(0, .ref 0), (1, .int x1)], [.int 2, .ref 97], (0, 0), ks i a q r)) (by rw [(kj_eq w31 (by decide) : x1 = 2)]) ?_
          first | refine ft_go mi_k127 2 31 [(0, .ref 0), (1, .int x1)] [.int 0, .ref 108] i a q r (by rfl) ?_ | refine ko_steps mi_in127 2 _ (31, [(0, .ref 0), (1, .int x1)], [.int 0, .ref 108], (0, 0), ks i a q r) (by rfl) ?_
          refine ko_callPI mi_k127.1 (pc := 31) (ls := [(0, .ref 0), (1, .int x1)]) (st := [.int 0, .ref 108]) (h := ks i a q r) (i := (.invokevirtual 81, 3, 36, 0, 9, 0, 158)) (mi_k127.2 _ _ (by rfl)) (ft_invS mi_pq36 (by rfl)) (cy := mi_c36) mi_pq36 rfl (kc36_108 hG.I hG.R 0) (by decide) ?_
          intro vg32 hg32
          rcases hg32 with ⟨eg32, hg32⟩ | ⟨eg32, hg32⟩
          ·
            subst eg32
            have fi_6914 : ((0 : Int) ≤ (i 6914).toInt) ∧ ((i 6914).toInt ≤ 4) := hG.I.1 6914
            have z33 : ((i 6912).toInt = 2) ∧ ((i 6914).toInt = (0 : Int32).toInt) := hg32
            first | refine ft_go mi_k127 3 43 [(0, .ref 0), (1, .int x1)] [.int 0] i a q r (by rfl) ?_ | refine ko_steps mi_in127 3 _ (43, [(0, .ref 0), (1, .int x1)], [.int 0], (0, 0), ks i a q r) (by rfl) ?_
            exact ft_ret mi_k127 (by rfl) (hP 0 ⟨(toy24 w27 z2.2 ktoy0), (Or.inr ⟨2, by decide, (toy25 w27), Or.inr (Or.inr ⟨(toy11 fi_6912.2 z33.1), (toy12 fi_6914.1 z33.2 ktoy0), rfl⟩)⟩)⟩)
          ·
            subst eg32
            have fi_6914 : ((0 : Int) ≤ (i 6914).toInt) ∧ ((i 6914).toInt ≤ 4) := hG.I.1 6914
            have z34 : ¬ (((i 6912).toInt = 2) ∧ ((i 6914).toInt = (0 : Int32).toInt)) := hg32
            first | refine ft_go mi_k127 2 43 [(0, .ref 0), (1, .int x1)] [.int (-12)] i a q r (by rfl) ?_ | refine ko_steps mi_in127 2 _ (43, [(0, .ref 0), (1, .int x1)], [.int (-12)], (0, 0), ks i a q r) (by rfl) ?_
            exact ft_ret mi_k127 (by rfl) (hP (-12) ⟨(toy13 koym12), (Or.inr ⟨2, by decide, (toy25 w27), Or.inr (Or.inl ⟨(toy14 c28 fi_6912.1 ktoy0), (toy15 fi_6912.2 fi_6914.1 z34 ktoy0), rfl⟩)⟩)⟩)
        exact (toy26 w27 w31).elim
      ·
        have c38 : (i 6912).toInt = (0 : Int32).toInt := kd_neF c; clear c
        first | refine ft_go mi_k127 1 23 [(0, .ref 0), (1, .int x1)] [.int (-11)] i a q r (by rfl) ?_ | refine ko_steps mi_in127 1 _ (23, [(0, .ref 0), (1, .int x1)], [.int (-11)], (0, 0), ks i a q r) (by rfl) ?_
        have fi_6914 : ((0 : Int) ≤ (i 6914).toInt) ∧ ((i 6914).toInt ≤ 4) := hG.I.1 6914
        exact ft_ret mi_k127 (by rfl) (hP (-11) ⟨(toy17 koym11), (Or.inr ⟨2, by decide, (toy25 w27), Or.inl ⟨(toy18 c38 fi_6912.1 ktoy0), rfl⟩⟩)⟩)
    by_cases w39 : x1.toInt = 3
    ·
      refine ko_eq (x1 := (14, [(0, .ref 0), (1, .int x1)], [.int 3, .ref 97], (0, 0), ks i a q r)) (by rw [(kj_eq w39 (by decide) : x1 = 3)]) ?_
      have fi_7040 : ((0 : Int) ≤ (i 7040).toInt) ∧ ((i 7040).toInt ≤ 2) := hG.I.1 7040
      first | refine ft_go mi_k127 2 18 [(0, .ref 0), (1, .int x1)] [.int (i 7040)] i a q r (by rfl) ?_ | refine ko_steps mi_in127 2 _ (18, [(0, .ref 0), (1, .int x1)], [.int (i 7040)], (0, 0), ks i a q r) (by rfl) ?_
      refine ft_if mi_k127 ((i 7040) != 0) 24 21 [(0, .ref 0), (1, .int x1)] [] (by rfl) (fun c => ?_) (fun c => ?_)
      ·
        have c40 : (i 7040).toInt ≠ (0 : Int32).toInt := kd_ne c; clear c
        first | refine ft_go mi_k127 3 29 [(0, .ref 0), (1, .int x1)] [.int x1, .ref 97] i a q r (by rfl) ?_ | refine ko_steps mi_in127 3 _ (29, [(0, .ref 0), (1, .int x1)], [.int x1, .ref 97], (0, 0), ks i a q r) (by rfl) ?_
        by_cases w44 : x1.toInt = 3
        ·
          refine ko_eq (x1 := (29, [(0, .ref 0), (1, .int x1)], [.int 3, .ref 97], (0, 0), ks i a q r)) (by rw [(kj_eq w44 (by decide) : x1 = 3)]) ?_
          first | refine ft_go mi_k127 2 31 [(0, .ref 0), (1, .int x1)] [.int 0, .ref 110] i a q r (by rfl) ?_ | refine ko_steps mi_in127 2 _ (31, [(0, .ref 0), (1, .int x1)], [.int 0, .ref 110], (0, 0), ks i a q r) (by rfl) ?_
          refine ko_callPI mi_k127.1 (pc := 31) (ls := [(0, .ref 0), (1, .int x1)]) (st := [.int 0, .ref 110]) (h := ks i a q r) (i := (.invokevirtual 81, 3, 36, 0, 9, 0, 158)) (mi_k127.2 _ _ (by rfl)) (ft_invS mi_pq36 (by rfl)) (cy := mi_c36) mi_pq36 rfl (kc36_110 hG.I hG.R 0) (by decide) ?_
          intro vg45 hg45
          rcases hg45 with ⟨eg45, hg45⟩ | ⟨eg45, hg45⟩
          ·
            subst eg45
            have fi_7042 : ((0 : Int) ≤ (i 7042).toInt) ∧ ((i 7042).toInt ≤ 4) := hG.I.1 7042
            have z46 : ((i 7040).toInt = 2) ∧ ((i 7042).toInt = (0 : Int32).toInt) := hg45
            first | refine ft_go mi_k127 3 43 [(0, .ref 0), (1, .int x1)] [.int 0] i a q r (by rfl) ?_ | refine ko_steps mi_in127 3 _ (43, [(0, .ref 0), (1, .int x1)], [.int 0], (0, 0), ks i a q r) (by rfl) ?_
            exact ft_ret mi_k127 (by rfl) (hP 0 ⟨(toy28 w39 z2.2 ktoy0), (Or.inr ⟨3, by decide, (toy29 w39), Or.inr (Or.inr ⟨(toy11 fi_7040.2 z46.1), (toy12 fi_7042.1 z46.2 ktoy0), rfl⟩)⟩)⟩)
          ·
            subst eg45
            have fi_7042 : ((0 : Int) ≤ (i 7042).toInt) ∧ ((i 7042).toInt ≤ 4) := hG.I.1 7042
            have z47 : ¬ (((i 7040).toInt = 2) ∧ ((i 7042).toInt = (0 : Int32).toInt)) := hg45
            first | refine ft_go mi_k127 2 43 [(0, .ref 0), (1, .int x1)] [.int (-12)] i a q r (by rfl) ?_ | refine ko_steps mi_in127 2 _ (43, [(0, .ref 0), (1, .int x1)], [.int (-12)], (0, 0), ks i a q r) (by rfl) ?_
            exact ft_ret mi_k127 (by rfl) (hP (-12) ⟨(toy13 koym12), (Or.inr ⟨3, by decide, (toy29 w39), Or.inr (Or.inl ⟨(toy14 c40 fi_7040.1 ktoy0), (toy15 fi_7040.2 fi_7042.1 z47 ktoy0), rfl⟩)⟩)⟩)
        exact (toy30 w39 w44).elim
      ·
        have c50 : (i 7040).toInt = (0 : Int32).toInt := kd_neF c; clear c
        first | refine ft_go mi_k127 1 23 [(0, .ref 0), (1, .int x1)] [.int (-11)] i a q r (by rfl) ?_ | refine ko_steps mi_in127 1 _ (23, [(0, .ref 0), (1, .int x1)], [.int (-11)], (0, 0), ks i a q r) (by rfl) ?_
        have fi_7042 : ((0 : Int) ≤ (i 7042).toInt) ∧ ((i 7042).toInt ≤ 4) := hG.I.1 7042
        exact ft_ret mi_k127 (by rfl) (hP (-11) ⟨(toy17 koym11), (Or.inr ⟨3, by decide, (toy29 w39), Or.inl ⟨(toy18 c50 fi_7040.1 ktoy0), rfl⟩⟩)⟩)
    by_cases w51 : x1.toInt = 4
    ·
      refine ko_eq (x1 := (14, [(0, .ref 0), (1, .int x1)], [.int 4, .ref 97], (0, 0), ks i a q r)) (by rw [(kj_eq w51 (by decide) : x1 = 4)]) ?_
      have fi_7168 : ((0 : Int) ≤ (i 7168).toInt) ∧ ((i 7168).toInt ≤ 2) := hG.I.1 7168
      first | refine ft_go mi_k127 2 18 [(0, .ref 0), (1, .int x1)] [.int (i 7168)] i a q r (by rfl) ?_ | refine ko_steps mi_in127 2 _ (18, [(0, .ref 0), (1, .int x1)], [.int (i 7168)], (0, 0), ks i a q r) (by rfl) ?_
      refine ft_if mi_k127 ((i 7168) != 0) 24 21 [(0, .ref 0), (1, .int x1)] [] (by rfl) (fun c => ?_) (fun c => ?_)
      ·
        have c52 : (i 7168).toInt ≠ (0 : Int32).toInt := kd_ne c; clear c
        first | refine ft_go mi_k127 3 29 [(0, .ref 0), (1, .int x1)] [.int x1, .ref 97] i a q r (by rfl) ?_ | refine ko_steps mi_in127 3 _ (29, [(0, .ref 0), (1, .int x1)], [.int x1, .ref 97], (0, 0), ks i a q r) (by rfl) ?_
        by_cases w57 : x1.toInt = 4
        ·
          refine ko_eq (x1 := (29, [(0, .ref 0), (1, .int x1)], [.int 4, .ref 97], (0, 0), ks i a q r)) (by rw [(kj_eq w57 (by decide) : x1 = 4)]) ?_
          first | refine ft_go mi_k127 2 31 [(0, .ref 0), (1, .int x1)] [.int 0, .ref 112] i a q r (by rfl) ?_ | refine ko_steps mi_in127 2 _ (31, [(0, .ref 0), (1, .int x1)], [.int 0, .ref 112], (0, 0), ks i a q r) (by rfl) ?_
          refine ko_callPI mi_k127.1 (pc := 31) (ls := [(0, .ref 0), (1, .int x1)]) (st := [.int 0, .ref 112]) (h := ks i a q r) (i := (.invokevirtual 81, 3, 36, 0, 9, 0, 158)) (mi_k127.2 _ _ (by rfl)) (ft_invS mi_pq36 (by rfl)) (cy := mi_c36) mi_pq36 rfl (kc36_112 hG.I hG.R 0) (by decide) ?_
          intro vg58 hg58
          rcases hg58 with ⟨eg58, hg58⟩ | ⟨eg58, hg58⟩
          ·
            subst eg58
            have fi_7170 : ((0 : Int) ≤ (i 7170).toInt) ∧ ((i 7170).toInt ≤ 4) := hG.I.1 7170
            have z59 : ((i 7168).toInt = 2) ∧ ((i 7170).toInt = (0 : Int32).toInt) := hg58
            first | refine ft_go mi_k127 3 43 [(0, .ref 0), (1, .int x1)] [.int 0] i a q r (by rfl) ?_ | refine ko_steps mi_in127 3 _ (43, [(0, .ref 0), (1, .int x1)], [.int 0], (0, 0), ks i a q r) (by rfl) ?_
            exact ft_ret mi_k127 (by rfl) (hP 0 ⟨(toy32 w51 z2.2 ktoy0), (Or.inr ⟨4, by decide, (toy33 w51), Or.inr (Or.inr ⟨(toy11 fi_7168.2 z59.1), (toy12 fi_7170.1 z59.2 ktoy0), rfl⟩)⟩)⟩)
          ·
            subst eg58
            have fi_7170 : ((0 : Int) ≤ (i 7170).toInt) ∧ ((i 7170).toInt ≤ 4) := hG.I.1 7170
            have z60 : ¬ (((i 7168).toInt = 2) ∧ ((i 7170).toInt = (0 : Int32).toInt)) := hg58
            first | refine ft_go mi_k127 2 43 [(0, .ref 0), (1, .int x1)] [.int (-12)] i a q r (by rfl) ?_ | refine ko_steps mi_in127 2 _ (43, [(0, .ref 0), (1, .int x1)], [.int (-12)], (0, 0), ks i a q r) (by rfl) ?_
            exact ft_ret mi_k127 (by rfl) (hP (-12) ⟨(toy13 koym12), (Or.inr ⟨4, by decide, (toy33 w51), Or.inr (Or.inl ⟨(toy14 c52 fi_7168.1 ktoy0), (toy15 fi_7168.2 fi_7170.1 z60 ktoy0), rfl⟩)⟩)⟩)
        exact (toy34 w51 w57).elim
      ·
        have c62 : (i 7168).toInt = (0 : Int32).toInt := kd_neF c; clear c
        first | refine ft_go mi_k127 1 23 [(0, .ref 0), (1, .int x1)] [.int (-11)] i a q r (by rfl) ?_ | refine ko_steps mi_in127 1 _ (23, [(0, .ref 0), (1, .int x1)], [.int (-11)], (0, 0), ks i a q r) (by rfl) ?_
        have fi_7170 : ((0 : Int) ≤ (i 7170).toInt) ∧ ((i 7170).toInt ≤ 4) := hG.I.1 7170
        exact ft_ret mi_k127 (by rfl) (hP (-11) ⟨(toy17 koym11), (Or.inr ⟨4, by decide, (toy33 w51), Or.inl ⟨(toy18 c62 fi_7168.1 ktoy0), rfl⟩⟩)⟩)
    by_cases w63 : x1.toInt = 5
    ·
      refine ko_eq (x1 := (14, [(0, .ref 0), (1, .int x1)], [.int 5, .ref 97], (0, 0), ks i a q r)) (by rw [(kj_eq w63 (by decide) : x1 = 5)]) ?_
      have fi_7296 : ((0 : Int) ≤ (i 7296).toInt) ∧ ((i 7296).toInt ≤ 2) := hG.I.1 7296
      first | refine ft_go mi_k127 2 18 [(0, .ref 0), (1, .int x1)] [.int (i 7296)] i a q r (by rfl) ?_ | refine ko_steps mi_in127 2 _ (18, [(0, .ref 0), (1, .int x1)], [.int (i 7296)], (0, 0), ks i a q r) (by rfl) ?_
      refine ft_if mi_k127 ((i 7296) != 0) 24 21 [(0, .ref 0), (1, .int x1)] [] (by rfl) (fun c => ?_) (fun c => ?_)
      ·
        have c64 : (i 7296).toInt ≠ (0 : Int32).toInt := kd_ne c; clear c
        first | refine ft_go mi_k127 3 29 [(0, .ref 0), (1, .int x1)] [.int x1, .ref 97] i a q r (by rfl) ?_ | refine ko_steps mi_in127 3 _ (29, [(0, .ref 0), (1, .int x1)], [.int x1, .ref 97], (0, 0), ks i a q r) (by rfl) ?_
        by_cases w70 : x1.toInt = 5
        ·
          refine ko_eq (x1 := (29, [(0, .ref 0), (1, .int x1)], [.int 5, .ref 97], (0, 0), ks i a q r)) (by rw [(kj_eq w70 (by decide) : x1 = 5)]) ?_
          first | refine ft_go mi_k127 2 31 [(0, .ref 0), (1, .int x1)] [.int 0, .ref 114] i a q r (by rfl) ?_ | refine ko_steps mi_in127 2 _ (31, [(0, .ref 0), (1, .int x1)], [.int 0, .ref 114], (0, 0), ks i a q r) (by rfl) ?_
          refine ko_callPI mi_k127.1 (pc := 31) (ls := [(0, .ref 0), (1, .int x1)]) (st := [.int 0, .ref 114]) (h := ks i a q r) (i := (.invokevirtual 81, 3, 36, 0, 9, 0, 158)) (mi_k127.2 _ _ (by rfl)) (ft_invS mi_pq36 (by rfl)) (cy := mi_c36) mi_pq36 rfl (kc36_114 hG.I hG.R 0) (by decide) ?_
          intro vg71 hg71
          rcases hg71 with ⟨eg71, hg71⟩ | ⟨eg71, hg71⟩
          ·
            subst eg71
            have fi_7298 : ((0 : Int) ≤ (i 7298).toInt) ∧ ((i 7298).toInt ≤ 4) := hG.I.1 7298
            have z72 : ((i 7296).toInt = 2) ∧ ((i 7298).toInt = (0 : Int32).toInt) := hg71
            first | refine ft_go mi_k127 3 43 [(0, .ref 0), (1, .int x1)] [.int 0] i a q r (by rfl) ?_ | refine ko_steps mi_in127 3 _ (43, [(0, .ref 0), (1, .int x1)], [.int 0], (0, 0), ks i a q r) (by rfl) ?_
            exact ft_ret mi_k127 (by rfl) (hP 0 ⟨(toy36 w63 z2.2 ktoy0), (Or.inr ⟨5, by decide, (toy37 w63 z2.2), Or.inr (Or.inr ⟨(toy11 fi_7296.2 z72.1), (toy12 fi_7298.1 z72.2 ktoy0), rfl⟩)⟩)⟩)
          ·
            subst eg71
            have fi_7298 : ((0 : Int) ≤ (i 7298).toInt) ∧ ((i 7298).toInt ≤ 4) := hG.I.1 7298
            have z73 : ¬ (((i 7296).toInt = 2) ∧ ((i 7298).toInt = (0 : Int32).toInt)) := hg71
            first | refine ft_go mi_k127 2 43 [(0, .ref 0), (1, .int x1)] [.int (-12)] i a q r (by rfl) ?_ | refine ko_steps mi_in127 2 _ (43, [(0, .ref 0), (1, .int x1)], [.int (-12)], (0, 0), ks i a q r) (by rfl) ?_
            exact ft_ret mi_k127 (by rfl) (hP (-12) ⟨(toy13 koym12), (Or.inr ⟨5, by decide, (toy37 w63 z2.2), Or.inr (Or.inl ⟨(toy14 c64 fi_7296.1 ktoy0), (toy15 fi_7296.2 fi_7298.1 z73 ktoy0), rfl⟩)⟩)⟩)
        exact (toy38 w63 w70 z2.2).elim
      ·
        have c74 : (i 7296).toInt = (0 : Int32).toInt := kd_neF c; clear c
        first | refine ft_go mi_k127 1 23 [(0, .ref 0), (1, .int x1)] [.int (-11)] i a q r (by rfl) ?_ | refine ko_steps mi_in127 1 _ (23, [(0, .ref 0), (1, .int x1)], [.int (-11)], (0, 0), ks i a q r) (by rfl) ?_
        have fi_7298 : ((0 : Int) ≤ (i 7298).toInt) ∧ ((i 7298).toInt ≤ 4) := hG.I.1 7298
        exact ft_ret mi_k127 (by rfl) (hP (-11) ⟨(toy17 koym11), (Or.inr ⟨5, by decide, (toy37 w63 z2.2), Or.inl ⟨(toy18 c74 fi_7296.1 ktoy0), rfl⟩⟩)⟩)
    exact (toy39 w15 w27 w3 w39 w51 w63 z2.1 z2.2).elim
  ·
    subst eg1
    have z75 : ¬ (((0 : Int) ≤ x1.toInt) ∧ (x1.toInt ≤ 5)) := hg1
    first | refine ft_go mi_k127 2 8 [(0, .ref 0), (1, .int x1)] [.int (-1)] i a q r (by rfl) ?_ | refine ko_steps mi_in127 2 _ (8, [(0, .ref 0), (1, .int x1)], [.int (-1)], (0, 0), ks i a q r) (by rfl) ?_
    exact ft_ret mi_k127 (by rfl) (hP (-1) ⟨(toy40 koym1), (Or.inl ⟨(toy41 z75), rfl⟩)⟩)
def yw58_49_104 : kW := ([3138], [74], [], [])
def yw58_49_104_L7 : kW := ([3138], [74], [], [])
set_option maxRecDepth 100000 in
theorem ke58_49_104 {i : Nat → Int32} {a : Nat → List Int32} {q : Nat → List Int64} {r : Nat → Nat} (hI : kI i a q) (hr : kr r) (x2 : Int32) : km 1 58 [.ref 49, .ref 104, .int x2] (ks i a q r) (kVN yw58_49_104 i a q r (fun i1 a1 q1 r1 => (True) ∧ kRd x2 (i 6659).toInt (vQ (q 105) 0) (i1 3138).toInt (a1 74))) := by
  have hG := kG_self yw58_49_104 hI hr
  refine km_ofN (q := (mi_h58, mi_c58)) rfl (by decide) (Nat.le_of_ble_eq_true rfl) ?_
  intro P hP
  have hJ1 := kG_i hG 3138 rfl (v := 0) ⟨(toy45 ktoy0), (toy46 ktoy0)⟩
  refine ft_go mi_k58 5 7 [(3, .int 0), (0, .ref 49), (1, .ref 104), (2, .int x2)] [] (ku i 3138 0) a q r (by rfl) ?_
  have lp2 : ∀ (nz : Nat) (i2 : Nat → Int32) (a2 : Nat → List Int32) (q2 : Nat → List Int64) (r2 : Nat → Nat) (l3_2 : Int32), kG yw58_49_104_L7 (ku i 3138 0) a q r i2 a2 q2 r2 → (0 : Int) ≤ l3_2.toInt → l3_2.toInt ≤ 20 → (i2 3138).toInt = l3_2.toInt → l3_2.toInt ≤ (i 6659).toInt → kRp x2 (vQ (q 105) 0) l3_2.toInt (a2 74) → ((20 - l3_2.toInt)).toNat < nz → ko 1 (mi_h58, mi_c58) P (7, [(3, .int l3_2), (0, .ref 49), (1, .ref 104), (2, .int x2)], [], (0, 0), ks i2 a2 q2 r2) := by
    intro nz
    induction nz with
    | zero =>
      intro _ _ _ _ _ _ _ _ _ _ _ hm
      exact absurd hm (Nat.not_lt_zero _)
    | succ nz ih2 =>
      intro i2 a2 q2 r2 l3_2 hL2 p2_0 p2_1 p2_2 p2_3 O2_0 hm2
      have fi2_3138 : ((0 : Int) ≤ (i2 3138).toInt) ∧ ((i2 3138).toInt ≤ 20) := hL2.I.1 3138
      have fi_6659 : ((0 : Int) ≤ (i 6659).toInt) ∧ ((i 6659).toInt ≤ 60) := hG.I.1 6659
      have fi2_6659 : ((0 : Int) ≤ (i2 6659).toInt) ∧ ((i2 6659).toInt ≤ 60) := hL2.I.1 6659
      have efi2_6659 : (i2 6659).toInt = (i 6659).toInt := hL2.ti 6659 rfl
      refine ft_go mi_k58 3 12 [(3, .int l3_2), (0, .ref 49), (1, .ref 104), (2, .int x2)] [.int (i2 6659), .int l3_2] i2 a2 q2 r2 (by rfl) ?_
      refine ft_if mi_k58 (decide ((i2 6659) ≤ l3_2)) 63 15 [(3, .int l3_2), (0, .ref 49), (1, .ref 104), (2, .int x2)] [] (by rfl) (fun c => ?_) (fun c => ?_)
      ·
        have c3 : (i2 6659).toInt ≤ l3_2.toInt := kd_le c; clear c
        have hG4 := kG_call hJ1 hL2 (by decide +kernel)
        exact ft_ret mi_k58 (by rfl) (hP  _ _ _ _ hG4 ⟨trivial, (kRd_mk O2_0 (toy72 p2_2) (toy48 p2_0) (toy49 p2_1) (toy50 p2_3) (Or.inr (Or.inl (toy51 c3 efi2_6659 p2_3))))⟩)
      ·
        have c5 : l3_2.toInt < (i2 6659).toInt := kd_leF c; clear c
        refine ft_go mi_k58 2 18 [(3, .int l3_2), (0, .ref 49), (1, .ref 104), (2, .int x2)] [.int 20, .int l3_2] i2 a2 q2 r2 (by rfl) ?_
        refine ft_if mi_k58 (decide (20 ≤ l3_2)) 63 21 [(3, .int l3_2), (0, .ref 49), (1, .ref 104), (2, .int x2)] [] (by rfl) (fun c => ?_) (fun c => ?_)
        ·
          have c6 : (20 : Int32).toInt ≤ l3_2.toInt := kd_le c; clear c
          have hG7 := kG_call hJ1 hL2 (by decide +kernel)
          exact ft_ret mi_k58 (by rfl) (hP  _ _ _ _ hG7 ⟨trivial, (kRd_mk O2_0 (toy73 c6 fi2_3138.2 p2_2 ktoy20) (toy74 c6 ktoy20) (toy49 p2_1) (toy54 c5 efi2_6659) (Or.inl (toy75 c6 p2_1 ktoy20)))⟩)
        ·
          have c8 : l3_2.toInt < (20 : Int32).toInt := kd_leF c; clear c
          refine ft_go mi_k58 3 26 [(3, .int l3_2), (0, .ref 49), (1, .ref 104), (2, .int x2)] [.int l3_2, .ref 105] i2 a2 q2 r2 (by rfl) ?_
          refine ko_lald2 mi_k58.1 (l := q2 105) (n := 60) (c := 60) (ax := (0, 0, 0, 0, 0)) (mi_k58.2 _ _ (by rfl)) (by rfl) (by rfl) (hL2.I.2.2.2 105) rfl (toy48 p2_0) (toy53 p2_1) ?_
          refine ft_go mi_k58 3 32 [(4, .int (((q2 105).getD l3_2.toNatClampNeg 0).toInt32)), (3, .int l3_2), (0, .ref 49), (1, .ref 104), (2, .int x2)] [.int (((q2 105).getD l3_2.toNatClampNeg 0).toInt32)] i2 a2 q2 r2 (by rfl) ?_
          refine ft_if mi_k58 (decide ((((q2 105).getD l3_2.toNatClampNeg 0).toInt32) < 0)) 41 35 [(4, .int (((q2 105).getD l3_2.toNatClampNeg 0).toInt32)), (3, .int l3_2), (0, .ref 49), (1, .ref 104), (2, .int x2)] [] (by rfl) (fun c => ?_) (fun c => ?_)
          ·
            have c9 : (((q2 105).getD l3_2.toNatClampNeg 0).toInt32).toInt < (0 : Int32).toInt := kd_lt c; clear c
            have hG10 := kG_call hJ1 hL2 (by decide +kernel)
            exact ft_ret mi_k58 (by rfl) (hP  _ _ _ _ hG10 ⟨trivial, (kRd_mk O2_0 (toy72 p2_2) (toy48 p2_0) (toy49 p2_1) (toy54 c5 efi2_6659) (Or.inr (Or.inr (kRd_bad (y := l3_2) (Int.zero_add _).symm (toy48 p2_0) (congrArg (fun z : List Int64 => (z.getD l3_2.toNatClampNeg 0).toInt32) (hL2.fq 105 rfl : q2 105 = q 105)) (toy55 c9 ktoy0)))))⟩)
          ·
            have c11 : (0 : Int32).toInt ≤ (((q2 105).getD l3_2.toNatClampNeg 0).toInt32).toInt := kd_ltF c; clear c
            refine ft_go mi_k58 2 38 [(4, .int (((q2 105).getD l3_2.toNatClampNeg 0).toInt32)), (3, .int l3_2), (0, .ref 49), (1, .ref 104), (2, .int x2)] [.int x2, .int (((q2 105).getD l3_2.toNatClampNeg 0).toInt32)] i2 a2 q2 r2 (by rfl) ?_
            refine ft_if mi_k58 (decide ((((q2 105).getD l3_2.toNatClampNeg 0).toInt32) < x2)) 42 41 [(4, .int (((q2 105).getD l3_2.toNatClampNeg 0).toInt32)), (3, .int l3_2), (0, .ref 49), (1, .ref 104), (2, .int x2)] [] (by rfl) (fun c => ?_) (fun c => ?_)
            ·
              have c12 : (((q2 105).getD l3_2.toNatClampNeg 0).toInt32).toInt < x2.toInt := kd_lt c; clear c
              refine ft_go mi_k58 4 49 [(4, .int (((q2 105).getD l3_2.toNatClampNeg 0).toInt32)), (3, .int l3_2), (0, .ref 49), (1, .ref 104), (2, .int x2)] [.int (((q2 105).getD l3_2.toNatClampNeg 0).toInt32), .int l3_2, .ref 74] i2 a2 q2 r2 (by rfl) ?_
              refine ko_iast3 mi_k58.1 (n := 20) (c := 20) (ax := (0, 0, 0, 0, 0)) (mi_k58.2 _ _ (by rfl)) (by rfl) (ksG74 _ _ _ _) (ksA74 _ _ _ _) (hL2.I.2.1 74) rfl (toy48 p2_0) (toy56 c8 ktoy20) ?_
              intro a13 ea13 fa13
              have hJ13 := kG_a3 hL2 74 rfl ea13 fa13 (kd_bd _)
              have s14 : (l3_2 + 1).toInt = l3_2.toInt + (1 : Int32).toInt := kd_add (toy57 p2_0 ktoy1) (toy58 p2_1 ktoy1)
              have hJ15 := kG_i hJ13 3138 rfl (v := (l3_2 + 1)) ⟨(toy59 p2_0 s14 ktoy1), (toy60 c8 s14 ktoy20 ktoy1)⟩
              refine ft_go mi_k58 7 7 [(3, .int (l3_2 + 1)), (4, .int (((q2 105).getD l3_2.toNatClampNeg 0).toInt32)), (0, .ref 49), (1, .ref 104), (2, .int x2)] [] (ku i2 3138 (l3_2 + 1)) a13 q2 r2 (by rfl) ?_
              refine ko_perm [(3, .int (l3_2 + 1)), (0, .ref 49), (1, .ref 104), (2, .int x2)] (List.forall_mem_cons.mpr ⟨(List.Mem.head _), (List.forall_mem_cons.mpr ⟨(List.Mem.tail _ (List.Mem.tail _ (List.Mem.head _))), (List.forall_mem_cons.mpr ⟨(List.Mem.tail _ (List.Mem.tail _ (List.Mem.tail _ (List.Mem.head _)))), (List.forall_mem_cons.mpr ⟨(List.Mem.tail _ (List.Mem.tail _ (List.Mem.tail _ (List.Mem.tail _ (List.Mem.head _))))), (fun _ h => absurd h List.not_mem_nil)⟩)⟩)⟩)⟩) ?_
              exact ih2 _ _ _ _ _ hJ15 (toy59 p2_0 s14 ktoy1) (toy60 c8 s14 ktoy20 ktoy1) toy61 (toy62 c5 efi2_6659 s14 ktoy1) (kRp_step (y := l3_2) (m := 20) O2_0 (hL2.I.2.1 74) (toy48 p2_0) (toy63 c8 ktoy20) (toy64 s14 ktoy1) ea13 (Int.zero_add _).symm (congrArg (fun z : List Int64 => (z.getD l3_2.toNatClampNeg 0).toInt32) (hL2.fq 105 rfl : q2 105 = q 105)) (toy65 c11 ktoy0) (toy66 c12)) (kj_meas (toy67 s14 ktoy1) (toy68 c8 ktoy20) hm2)
            ·
              have c16 : x2.toInt ≤ (((q2 105).getD l3_2.toNatClampNeg 0).toInt32).toInt := kd_ltF c; clear c
              have hG17 := kG_call hJ1 hL2 (by decide +kernel)
              exact ft_ret mi_k58 (by rfl) (hP  _ _ _ _ hG17 ⟨trivial, (kRd_mk O2_0 (toy72 p2_2) (toy48 p2_0) (toy49 p2_1) (toy54 c5 efi2_6659) (Or.inr (Or.inr (kRd_bad (y := l3_2) (Int.zero_add _).symm (toy48 p2_0) (congrArg (fun z : List Int64 => (z.getD l3_2.toNatClampNeg 0).toInt32) (hL2.fq 105 rfl : q2 105 = q 105)) (toy69 c16)))))⟩)
  have fi_6659 : ((0 : Int) ≤ (i 6659).toInt) ∧ ((i 6659).toInt ≤ 60) := hG.I.1 6659
  exact lp2 _ _ _ _ _ _ (kG_self _ hJ1.I hJ1.R) (toy45 ktoy0) (toy46 ktoy0) (toy70 ktoy0) (toy71 fi_6659.1 ktoy0) (kRp_0 (Int.le_of_eq ktoy0)) (Nat.lt_succ_self _)
def yw58_49_106 : kW := ([3138], [74], [], [])
def yw58_49_106_L7 : kW := ([3138], [74], [], [])
set_option maxRecDepth 100000 in
theorem ke58_49_106 {i : Nat → Int32} {a : Nat → List Int32} {q : Nat → List Int64} {r : Nat → Nat} (hI : kI i a q) (hr : kr r) (x2 : Int32) : km 1 58 [.ref 49, .ref 106, .int x2] (ks i a q r) (kVN yw58_49_106 i a q r (fun i1 a1 q1 r1 => (True) ∧ kRd x2 (i 6787).toInt (vQ (q 107) 0) (i1 3138).toInt (a1 74))) := by
  have hG := kG_self yw58_49_106 hI hr
  refine km_ofN (q := (mi_h58, mi_c58)) rfl (by decide) (Nat.le_of_ble_eq_true rfl) ?_
  intro P hP
  have hJ1 := kG_i hG 3138 rfl (v := 0) ⟨(toy45 ktoy0), (toy46 ktoy0)⟩
  refine ft_go mi_k58 5 7 [(3, .int 0), (0, .ref 49), (1, .ref 106), (2, .int x2)] [] (ku i 3138 0) a q r (by rfl) ?_
  have lp2 : ∀ (nz : Nat) (i2 : Nat → Int32) (a2 : Nat → List Int32) (q2 : Nat → List Int64) (r2 : Nat → Nat) (l3_2 : Int32), kG yw58_49_106_L7 (ku i 3138 0) a q r i2 a2 q2 r2 → (0 : Int) ≤ l3_2.toInt → l3_2.toInt ≤ 20 → (i2 3138).toInt = l3_2.toInt → l3_2.toInt ≤ (i 6787).toInt → kRp x2 (vQ (q 107) 0) l3_2.toInt (a2 74) → ((20 - l3_2.toInt)).toNat < nz → ko 1 (mi_h58, mi_c58) P (7, [(3, .int l3_2), (0, .ref 49), (1, .ref 106), (2, .int x2)], [], (0, 0), ks i2 a2 q2 r2) := by
    intro nz
    induction nz with
    | zero =>
      intro _ _ _ _ _ _ _ _ _ _ _ hm
      exact absurd hm (Nat.not_lt_zero _)
    | succ nz ih2 =>
      intro i2 a2 q2 r2 l3_2 hL2 p2_0 p2_1 p2_2 p2_3 O2_0 hm2
      have fi2_3138 : ((0 : Int) ≤ (i2 3138).toInt) ∧ ((i2 3138).toInt ≤ 20) := hL2.I.1 3138
      have fi_6787 : ((0 : Int) ≤ (i 6787).toInt) ∧ ((i 6787).toInt ≤ 60) := hG.I.1 6787
      have fi2_6787 : ((0 : Int) ≤ (i2 6787).toInt) ∧ ((i2 6787).toInt ≤ 60) := hL2.I.1 6787
      have efi2_6787 : (i2 6787).toInt = (i 6787).toInt := hL2.ti 6787 rfl
      refine ft_go mi_k58 3 12 [(3, .int l3_2), (0, .ref 49), (1, .ref 106), (2, .int x2)] [.int (i2 6787), .int l3_2] i2 a2 q2 r2 (by rfl) ?_
      refine ft_if mi_k58 (decide ((i2 6787) ≤ l3_2)) 63 15 [(3, .int l3_2), (0, .ref 49), (1, .ref 106), (2, .int x2)] [] (by rfl) (fun c => ?_) (fun c => ?_)
      ·
        have c3 : (i2 6787).toInt ≤ l3_2.toInt := kd_le c; clear c
        have hG4 := kG_call hJ1 hL2 (by decide +kernel)
        exact ft_ret mi_k58 (by rfl) (hP  _ _ _ _ hG4 ⟨trivial, (kRd_mk O2_0 (toy72 p2_2) (toy48 p2_0) (toy49 p2_1) (toy50 p2_3) (Or.inr (Or.inl (toy51 c3 efi2_6787 p2_3))))⟩)
      ·
        have c5 : l3_2.toInt < (i2 6787).toInt := kd_leF c; clear c
        refine ft_go mi_k58 2 18 [(3, .int l3_2), (0, .ref 49), (1, .ref 106), (2, .int x2)] [.int 20, .int l3_2] i2 a2 q2 r2 (by rfl) ?_
        refine ft_if mi_k58 (decide (20 ≤ l3_2)) 63 21 [(3, .int l3_2), (0, .ref 49), (1, .ref 106), (2, .int x2)] [] (by rfl) (fun c => ?_) (fun c => ?_)
        ·
          have c6 : (20 : Int32).toInt ≤ l3_2.toInt := kd_le c; clear c
          have hG7 := kG_call hJ1 hL2 (by decide +kernel)
          exact ft_ret mi_k58 (by rfl) (hP  _ _ _ _ hG7 ⟨trivial, (kRd_mk O2_0 (toy73 c6 fi2_3138.2 p2_2 ktoy20) (toy74 c6 ktoy20) (toy49 p2_1) (toy54 c5 efi2_6787) (Or.inl (toy75 c6 p2_1 ktoy20)))⟩)
        ·
          have c8 : l3_2.toInt < (20 : Int32).toInt := kd_leF c; clear c
          refine ft_go mi_k58 3 26 [(3, .int l3_2), (0, .ref 49), (1, .ref 106), (2, .int x2)] [.int l3_2, .ref 107] i2 a2 q2 r2 (by rfl) ?_
          refine ko_lald2 mi_k58.1 (l := q2 107) (n := 60) (c := 60) (ax := (0, 0, 0, 0, 0)) (mi_k58.2 _ _ (by rfl)) (by rfl) (by rfl) (hL2.I.2.2.2 107) rfl (toy48 p2_0) (toy53 p2_1) ?_
          refine ft_go mi_k58 3 32 [(4, .int (((q2 107).getD l3_2.toNatClampNeg 0).toInt32)), (3, .int l3_2), (0, .ref 49), (1, .ref 106), (2, .int x2)] [.int (((q2 107).getD l3_2.toNatClampNeg 0).toInt32)] i2 a2 q2 r2 (by rfl) ?_
          refine ft_if mi_k58 (decide ((((q2 107).getD l3_2.toNatClampNeg 0).toInt32) < 0)) 41 35 [(4, .int (((q2 107).getD l3_2.toNatClampNeg 0).toInt32)), (3, .int l3_2), (0, .ref 49), (1, .ref 106), (2, .int x2)] [] (by rfl) (fun c => ?_) (fun c => ?_)
          ·
            have c9 : (((q2 107).getD l3_2.toNatClampNeg 0).toInt32).toInt < (0 : Int32).toInt := kd_lt c; clear c
            have hG10 := kG_call hJ1 hL2 (by decide +kernel)
            exact ft_ret mi_k58 (by rfl) (hP  _ _ _ _ hG10 ⟨trivial, (kRd_mk O2_0 (toy72 p2_2) (toy48 p2_0) (toy49 p2_1) (toy54 c5 efi2_6787) (Or.inr (Or.inr (kRd_bad (y := l3_2) (Int.zero_add _).symm (toy48 p2_0) (congrArg (fun z : List Int64 => (z.getD l3_2.toNatClampNeg 0).toInt32) (hL2.fq 107 rfl : q2 107 = q 107)) (toy55 c9 ktoy0)))))⟩)
          ·
            have c11 : (0 : Int32).toInt ≤ (((q2 107).getD l3_2.toNatClampNeg 0).toInt32).toInt := kd_ltF c; clear c
            refine ft_go mi_k58 2 38 [(4, .int (((q2 107).getD l3_2.toNatClampNeg 0).toInt32)), (3, .int l3_2), (0, .ref 49), (1, .ref 106), (2, .int x2)] [.int x2, .int (((q2 107).getD l3_2.toNatClampNeg 0).toInt32)] i2 a2 q2 r2 (by rfl) ?_
            refine ft_if mi_k58 (decide ((((q2 107).getD l3_2.toNatClampNeg 0).toInt32) < x2)) 42 41 [(4, .int (((q2 107).getD l3_2.toNatClampNeg 0).toInt32)), (3, .int l3_2), (0, .ref 49), (1, .ref 106), (2, .int x2)] [] (by rfl) (fun c => ?_) (fun c => ?_)
            ·
              have c12 : (((q2 107).getD l3_2.toNatClampNeg 0).toInt32).toInt < x2.toInt := kd_lt c; clear c
              refine ft_go mi_k58 4 49 [(4, .int (((q2 107).getD l3_2.toNatClampNeg 0).toInt32)), (3, .int l3_2), (0, .ref 49), (1, .ref 106), (2, .int x2)] [.int (((q2 107).getD l3_2.toNatClampNeg 0).toInt32), .int l3_2, .ref 74] i2 a2 q2 r2 (by rfl) ?_
              refine ko_iast3 mi_k58.1 (n := 20) (c := 20) (ax := (0, 0, 0, 0, 0)) (mi_k58.2 _ _ (by rfl)) (by rfl) (ksG74 _ _ _ _) (ksA74 _ _ _ _) (hL2.I.2.1 74) rfl (toy48 p2_0) (toy56 c8 ktoy20) ?_
              intro a13 ea13 fa13
              have hJ13 := kG_a3 hL2 74 rfl ea13 fa13 (kd_bd _)
              have s14 : (l3_2 + 1).toInt = l3_2.toInt + (1 : Int32).toInt := kd_add (toy57 p2_0 ktoy1) (toy58 p2_1 ktoy1)
              have hJ15 := kG_i hJ13 3138 rfl (v := (l3_2 + 1)) ⟨(toy59 p2_0 s14 ktoy1), (toy60 c8 s14 ktoy20 ktoy1)⟩
              refine ft_go mi_k58 7 7 [(3, .int (l3_2 + 1)), (4, .int (((q2 107).getD l3_2.toNatClampNeg 0).toInt32)), (0, .ref 49), (1, .ref 106), (2, .int x2)] [] (ku i2 3138 (l3_2 + 1)) a13 q2 r2 (by rfl) ?_
              refine ko_perm [(3, .int (l3_2 + 1)), (0, .ref 49), (1, .ref 106), (2, .int x2)] (List.forall_mem_cons.mpr ⟨(List.Mem.head _), (List.forall_mem_cons.mpr ⟨(List.Mem.tail _ (List.Mem.tail _ (List.Mem.head _))), (List.forall_mem_cons.mpr ⟨(List.Mem.tail _ (List.Mem.tail _ (List.Mem.tail _ (List.Mem.head _)))), (List.forall_mem_cons.mpr ⟨(List.Mem.tail _ (List.Mem.tail _ (List.Mem.tail _ (List.Mem.tail _ (List.Mem.head _))))), (fun _ h => absurd h List.not_mem_nil)⟩)⟩)⟩)⟩) ?_
              exact ih2 _ _ _ _ _ hJ15 (toy59 p2_0 s14 ktoy1) (toy60 c8 s14 ktoy20 ktoy1) toy61 (toy62 c5 efi2_6787 s14 ktoy1) (kRp_step (y := l3_2) (m := 20) O2_0 (hL2.I.2.1 74) (toy48 p2_0) (toy63 c8 ktoy20) (toy64 s14 ktoy1) ea13 (Int.zero_add _).symm (congrArg (fun z : List Int64 => (z.getD l3_2.toNatClampNeg 0).toInt32) (hL2.fq 107 rfl : q2 107 = q 107)) (toy65 c11 ktoy0) (toy66 c12)) (kj_meas (toy67 s14 ktoy1) (toy68 c8 ktoy20) hm2)
            ·
              have c16 : x2.toInt ≤ (((q2 107).getD l3_2.toNatClampNeg 0).toInt32).toInt := kd_ltF c; clear c
              have hG17 := kG_call hJ1 hL2 (by decide +kernel)
              exact ft_ret mi_k58 (by rfl) (hP  _ _ _ _ hG17 ⟨trivial, (kRd_mk O2_0 (toy72 p2_2) (toy48 p2_0) (toy49 p2_1) (toy54 c5 efi2_6787) (Or.inr (Or.inr (kRd_bad (y := l3_2) (Int.zero_add _).symm (toy48 p2_0) (congrArg (fun z : List Int64 => (z.getD l3_2.toNatClampNeg 0).toInt32) (hL2.fq 107 rfl : q2 107 = q 107)) (toy69 c16)))))⟩)
  have fi_6787 : ((0 : Int) ≤ (i 6787).toInt) ∧ ((i 6787).toInt ≤ 60) := hG.I.1 6787
  exact lp2 _ _ _ _ _ _ (kG_self _ hJ1.I hJ1.R) (toy45 ktoy0) (toy46 ktoy0) (toy70 ktoy0) (toy71 fi_6787.1 ktoy0) (kRp_0 (Int.le_of_eq ktoy0)) (Nat.lt_succ_self _)
def yw58_49_108 : kW := ([3138], [74], [], [])
def yw58_49_108_L7 : kW := ([3138], [74], [], [])
set_option maxRecDepth 100000 in
theorem ke58_49_108 {i : Nat → Int32} {a : Nat → List Int32} {q : Nat → List Int64} {r : Nat → Nat} (hI : kI i a q) (hr : kr r) (x2 : Int32) : km 1 58 [.ref 49, .ref 108, .int x2] (ks i a q r) (kVN yw58_49_108 i a q r (fun i1 a1 q1 r1 => (True) ∧ kRd x2 (i 6915).toInt (vQ (q 109) 0) (i1 3138).toInt (a1 74))) := by
  have hG := kG_self yw58_49_108 hI hr
  refine km_ofN (q := (mi_h58, mi_c58)) rfl (by decide) (Nat.le_of_ble_eq_true rfl) ?_
  intro P hP
  have hJ1 := kG_i hG 3138 rfl (v := 0) ⟨(toy45 ktoy0), (toy46 ktoy0)⟩
  refine ft_go mi_k58 5 7 [(3, .int 0), (0, .ref 49), (1, .ref 108), (2, .int x2)] [] (ku i 3138 0) a q r (by rfl) ?_
  have lp2 : ∀ (nz : Nat) (i2 : Nat → Int32) (a2 : Nat → List Int32) (q2 : Nat → List Int64) (r2 : Nat → Nat) (l3_2 : Int32), kG yw58_49_108_L7 (ku i 3138 0) a q r i2 a2 q2 r2 → (0 : Int) ≤ l3_2.toInt → l3_2.toInt ≤ 20 → (i2 3138).toInt = l3_2.toInt → l3_2.toInt ≤ (i 6915).toInt → kRp x2 (vQ (q 109) 0) l3_2.toInt (a2 74) → ((20 - l3_2.toInt)).toNat < nz → ko 1 (mi_h58, mi_c58) P (7, [(3, .int l3_2), (0, .ref 49), (1, .ref 108), (2, .int x2)], [], (0, 0), ks i2 a2 q2 r2) := by
    intro nz
    induction nz with
    | zero =>
      intro _ _ _ _ _ _ _ _ _ _ _ hm
      exact absurd hm (Nat.not_lt_zero _)
    | succ nz ih2 =>
      intro i2 a2 q2 r2 l3_2 hL2 p2_0 p2_1 p2_2 p2_3 O2_0 hm2
      have fi2_3138 : ((0 : Int) ≤ (i2 3138).toInt) ∧ ((i2 3138).toInt ≤ 20) := hL2.I.1 3138
      have fi_6915 : ((0 : Int) ≤ (i 6915).toInt) ∧ ((i 6915).toInt ≤ 60) := hG.I.1 6915
      have fi2_6915 : ((0 : Int) ≤ (i2 6915).toInt) ∧ ((i2 6915).toInt ≤ 60) := hL2.I.1 6915
      have efi2_6915 : (i2 6915).toInt = (i 6915).toInt := hL2.ti 6915 rfl
      refine ft_go mi_k58 3 12 [(3, .int l3_2), (0, .ref 49), (1, .ref 108), (2, .int x2)] [.int (i2 6915), .int l3_2] i2 a2 q2 r2 (by rfl) ?_
      refine ft_if mi_k58 (decide ((i2 6915) ≤ l3_2)) 63 15 [(3, .int l3_2), (0, .ref 49), (1, .ref 108), (2, .int x2)] [] (by rfl) (fun c => ?_) (fun c => ?_)
      ·
        have c3 : (i2 6915).toInt ≤ l3_2.toInt := kd_le c; clear c
        have hG4 := kG_call hJ1 hL2 (by decide +kernel)
        exact ft_ret mi_k58 (by rfl) (hP  _ _ _ _ hG4 ⟨trivial, (kRd_mk O2_0 (toy72 p2_2) (toy48 p2_0) (toy49 p2_1) (toy50 p2_3) (Or.inr (Or.inl (toy51 c3 efi2_6915 p2_3))))⟩)
      ·
        have c5 : l3_2.toInt < (i2 6915).toInt := kd_leF c; clear c
        refine ft_go mi_k58 2 18 [(3, .int l3_2), (0, .ref 49), (1, .ref 108), (2, .int x2)] [.int 20, .int l3_2] i2 a2 q2 r2 (by rfl) ?_
        refine ft_if mi_k58 (decide (20 ≤ l3_2)) 63 21 [(3, .int l3_2), (0, .ref 49), (1, .ref 108), (2, .int x2)] [] (by rfl) (fun c => ?_) (fun c => ?_)
        ·
          have c6 : (20 : Int32).toInt ≤ l3_2.toInt := kd_le c; clear c
          have hG7 := kG_call hJ1 hL2 (by decide +kernel)
          exact ft_ret mi_k58 (by rfl) (hP  _ _ _ _ hG7 ⟨trivial, (kRd_mk O2_0 (toy73 c6 fi2_3138.2 p2_2 ktoy20) (toy74 c6 ktoy20) (toy49 p2_1) (toy54 c5 efi2_6915) (Or.inl (toy75 c6 p2_1 ktoy20)))⟩)
        ·
          have c8 : l3_2.toInt < (20 : Int32).toInt := kd_leF c; clear c
          refine ft_go mi_k58 3 26 [(3, .int l3_2), (0, .ref 49), (1, .ref 108), (2, .int x2)] [.int l3_2, .ref 109] i2 a2 q2 r2 (by rfl) ?_
          refine ko_lald2 mi_k58.1 (l := q2 109) (n := 60) (c := 60) (ax := (0, 0, 0, 0, 0)) (mi_k58.2 _ _ (by rfl)) (by rfl) (by rfl) (hL2.I.2.2.2 109) rfl (toy48 p2_0) (toy53 p2_1) ?_
          refine ft_go mi_k58 3 32 [(4, .int (((q2 109).getD l3_2.toNatClampNeg 0).toInt32)), (3, .int l3_2), (0, .ref 49), (1, .ref 108), (2, .int x2)] [.int (((q2 109).getD l3_2.toNatClampNeg 0).toInt32)] i2 a2 q2 r2 (by rfl) ?_
          refine ft_if mi_k58 (decide ((((q2 109).getD l3_2.toNatClampNeg 0).toInt32) < 0)) 41 35 [(4, .int (((q2 109).getD l3_2.toNatClampNeg 0).toInt32)), (3, .int l3_2), (0, .ref 49), (1, .ref 108), (2, .int x2)] [] (by rfl) (fun c => ?_) (fun c => ?_)
          ·
            have c9 : (((q2 109).getD l3_2.toNatClampNeg 0).toInt32).toInt < (0 : Int32).toInt := kd_lt c; clear c
            have hG10 := kG_call hJ1 hL2 (by decide +kernel)
            exact ft_ret mi_k58 (by rfl) (hP  _ _ _ _ hG10 ⟨trivial, (kRd_mk O2_0 (toy72 p2_2) (toy48 p2_0) (toy49 p2_1) (toy54 c5 efi2_6915) (Or.inr (Or.inr (kRd_bad (y := l3_2) (Int.zero_add _).symm (toy48 p2_0) (congrArg (fun z : List Int64 => (z.getD l3_2.toNatClampNeg 0).toInt32) (hL2.fq 109 rfl : q2 109 = q 109)) (toy55 c9 ktoy0)))))⟩)
          ·
            have c11 : (0 : Int32).toInt ≤ (((q2 109).getD l3_2.toNatClampNeg 0).toInt32).toInt := kd_ltF c; clear c
            refine ft_go mi_k58 2 38 [(4, .int (((q2 109).getD l3_2.toNatClampNeg 0).toInt32)), (3, .int l3_2), (0, .ref 49), (1, .ref 108), (2, .int x2)] [.int x2, .int (((q2 109).getD l3_2.toNatClampNeg 0).toInt32)] i2 a2 q2 r2 (by rfl) ?_
            refine ft_if mi_k58 (decide ((((q2 109).getD l3_2.toNatClampNeg 0).toInt32) < x2)) 42 41 [(4, .int (((q2 109).getD l3_2.toNatClampNeg 0).toInt32)), (3, .int l3_2), (0, .ref 49), (1, .ref 108), (2, .int x2)] [] (by rfl) (fun c => ?_) (fun c => ?_)
            ·
              have c12 : (((q2 109).getD l3_2.toNatClampNeg 0).toInt32).toInt < x2.toInt := kd_lt c; clear c
              refine ft_go mi_k58 4 49 [(4, .int (((q2 109).getD l3_2.toNatClampNeg 0).toInt32)), (3, .int l3_2), (0, .ref 49), (1, .ref 108), (2, .int x2)] [.int (((q2 109).getD l3_2.toNatClampNeg 0).toInt32), .int l3_2, .ref 74] i2 a2 q2 r2 (by rfl) ?_
              refine ko_iast3 mi_k58.1 (n := 20) (c := 20) (ax := (0, 0, 0, 0, 0)) (mi_k58.2 _ _ (by rfl)) (by rfl) (ksG74 _ _ _ _) (ksA74 _ _ _ _) (hL2.I.2.1 74) rfl (toy48 p2_0) (toy56 c8 ktoy20) ?_
              intro a13 ea13 fa13
              have hJ13 := kG_a3 hL2 74 rfl ea13 fa13 (kd_bd _)
              have s14 : (l3_2 + 1).toInt = l3_2.toInt + (1 : Int32).toInt := kd_add (toy57 p2_0 ktoy1) (toy58 p2_1 ktoy1)
              have hJ15 := kG_i hJ13 3138 rfl (v := (l3_2 + 1)) ⟨(toy59 p2_0 s14 ktoy1), (toy60 c8 s14 ktoy20 ktoy1)⟩
              refine ft_go mi_k58 7 7 [(3, .int (l3_2 + 1)), (4, .int (((q2 109).getD l3_2.toNatClampNeg 0).toInt32)), (0, .ref 49), (1, .ref 108), (2, .int x2)] [] (ku i2 3138 (l3_2 + 1)) a13 q2 r2 (by rfl) ?_
              refine ko_perm [(3, .int (l3_2 + 1)), (0, .ref 49), (1, .ref 108), (2, .int x2)] (List.forall_mem_cons.mpr ⟨(List.Mem.head _), (List.forall_mem_cons.mpr ⟨(List.Mem.tail _ (List.Mem.tail _ (List.Mem.head _))), (List.forall_mem_cons.mpr ⟨(List.Mem.tail _ (List.Mem.tail _ (List.Mem.tail _ (List.Mem.head _)))), (List.forall_mem_cons.mpr ⟨(List.Mem.tail _ (List.Mem.tail _ (List.Mem.tail _ (List.Mem.tail _ (List.Mem.head _))))), (fun _ h => absurd h List.not_mem_nil)⟩)⟩)⟩)⟩) ?_
              exact ih2 _ _ _ _ _ hJ15 (toy59 p2_0 s14 ktoy1) (toy60 c8 s14 ktoy20 ktoy1) toy61 (toy62 c5 efi2_6915 s14 ktoy1) (kRp_step (y := l3_2) (m := 20) O2_0 (hL2.I.2.1 74) (toy48 p2_0) (toy63 c8 ktoy20) (toy64 s14 ktoy1) ea13 (Int.zero_add _).symm (congrArg (fun z : List Int64 => (z.getD l3_2.toNatClampNeg 0).toInt32) (hL2.fq 109 rfl : q2 109 = q 109)) (toy65 c11 ktoy0) (toy66 c12)) (kj_meas (toy67 s14 ktoy1) (toy68 c8 ktoy20) hm2)
            ·
              have c16 : x2.toInt ≤ (((q2 109).getD l3_2.toNatClampNeg 0).toInt32).toInt := kd_ltF c; clear c
              have hG17 := kG_call hJ1 hL2 (by decide +kernel)
              exact ft_ret mi_k58 (by rfl) (hP  _ _ _ _ hG17 ⟨trivial, (kRd_mk O2_0 (toy72 p2_2) (toy48 p2_0) (toy49 p2_1) (toy54 c5 efi2_6915) (Or.inr (Or.inr (kRd_bad (y := l3_2) (Int.zero_add _).symm (toy48 p2_0) (congrArg (fun z : List Int64 => (z.getD l3_2.toNatClampNeg 0).toInt32) (hL2.fq 109 rfl : q2 109 = q 109)) (toy69 c16)))))⟩)
  have fi_6915 : ((0 : Int) ≤ (i 6915).toInt) ∧ ((i 6915).toInt ≤ 60) := hG.I.1 6915
  exact lp2 _ _ _ _ _ _ (kG_self _ hJ1.I hJ1.R) (toy45 ktoy0) (toy46 ktoy0) (toy70 ktoy0) (toy71 fi_6915.1 ktoy0) (kRp_0 (Int.le_of_eq ktoy0)) (Nat.lt_succ_self _)
def yw58_49_110 : kW := ([3138], [74], [], [])
def yw58_49_110_L7 : kW := ([3138], [74], [], [])
set_option maxRecDepth 100000 in
theorem ke58_49_110 {i : Nat → Int32} {a : Nat → List Int32} {q : Nat → List Int64} {r : Nat → Nat} (hI : kI i a q) (hr : kr r) (x2 : Int32) : km 1 58 [.ref 49, .ref 110, .int x2] (ks i a q r) (kVN yw58_49_110 i a q r (fun i1 a1 q1 r1 => (True) ∧ kRd x2 (i 7043).toInt (vQ (q 111) 0) (i1 3138).toInt (a1 74))) := by
  have hG := kG_self yw58_49_110 hI hr
  refine km_ofN (q := (mi_h58, mi_c58)) rfl (by decide) (Nat.le_of_ble_eq_true rfl) ?_
  intro P hP
  have hJ1 := kG_i hG 3138 rfl (v := 0) ⟨(toy45 ktoy0), (toy46 ktoy0)⟩
  refine ft_go mi_k58 5 7 [(3, .int 0), (0, .ref 49), (1, .ref 110), (2, .int x2)] [] (ku i 3138 0) a q r (by rfl) ?_
  have lp2 : ∀ (nz : Nat) (i2 : Nat → Int32) (a2 : Nat → List Int32) (q2 : Nat → List Int64) (r2 : Nat → Nat) (l3_2 : Int32), kG yw58_49_110_L7 (ku i 3138 0) a q r i2 a2 q2 r2 → (0 : Int) ≤ l3_2.toInt → l3_2.toInt ≤ 20 → (i2 3138).toInt = l3_2.toInt → l3_2.toInt ≤ (i 7043).toInt → kRp x2 (vQ (q 111) 0) l3_2.toInt (a2 74) → ((20 - l3_2.toInt)).toNat < nz → ko 1 (mi_h58, mi_c58) P (7, [(3, .int l3_2), (0, .ref 49), (1, .ref 110), (2, .int x2)], [], (0, 0), ks i2 a2 q2 r2) := by
    intro nz
    induction nz with
    | zero =>
      intro _ _ _ _ _ _ _ _ _ _ _ hm
      exact absurd hm (Nat.not_lt_zero _)
    | succ nz ih2 =>
      intro i2 a2 q2 r2 l3_2 hL2 p2_0 p2_1 p2_2 p2_3 O2_0 hm2
      have fi2_3138 : ((0 : Int) ≤ (i2 3138).toInt) ∧ ((i2 3138).toInt ≤ 20) := hL2.I.1 3138
      have fi_7043 : ((0 : Int) ≤ (i 7043).toInt) ∧ ((i 7043).toInt ≤ 60) := hG.I.1 7043
      have fi2_7043 : ((0 : Int) ≤ (i2 7043).toInt) ∧ ((i2 7043).toInt ≤ 60) := hL2.I.1 7043
      have efi2_7043 : (i2 7043).toInt = (i 7043).toInt := hL2.ti 7043 rfl
      refine ft_go mi_k58 3 12 [(3, .int l3_2), (0, .ref 49), (1, .ref 110), (2, .int x2)] [.int (i2 7043), .int l3_2] i2 a2 q2 r2 (by rfl) ?_
      refine ft_if mi_k58 (decide ((i2 7043) ≤ l3_2)) 63 15 [(3, .int l3_2), (0, .ref 49), (1, .ref 110), (2, .int x2)] [] (by rfl) (fun c => ?_) (fun c => ?_)
      ·
        have c3 : (i2 7043).toInt ≤ l3_2.toInt := kd_le c; clear c
        have hG4 := kG_call hJ1 hL2 (by decide +kernel)
        exact ft_ret mi_k58 (by rfl) (hP  _ _ _ _ hG4 ⟨trivial, (kRd_mk O2_0 (toy72 p2_2) (toy48 p2_0) (toy49 p2_1) (toy50 p2_3) (Or.inr (Or.inl (toy51 c3 efi2_7043 p2_3))))⟩)
      ·
        have c5 : l3_2.toInt < (i2 7043).toInt := kd_leF c; clear c
        refine ft_go mi_k58 2 18 [(3, .int l3_2), (0, .ref 49), (1, .ref 110), (2, .int x2)] [.int 20, .int l3_2] i2 a2 q2 r2 (by rfl) ?_
        refine ft_if mi_k58 (decide (20 ≤ l3_2)) 63 21 [(3, .int l3_2), (0, .ref 49), (1, .ref 110), (2, .int x2)] [] (by rfl) (fun c => ?_) (fun c => ?_)
        ·
          have c6 : (20 : Int32).toInt ≤ l3_2.toInt := kd_le c; clear c
          have hG7 := kG_call hJ1 hL2 (by decide +kernel)
          exact ft_ret mi_k58 (by rfl) (hP  _ _ _ _ hG7 ⟨trivial, (kRd_mk O2_0 (toy73 c6 fi2_3138.2 p2_2 ktoy20) (toy74 c6 ktoy20) (toy49 p2_1) (toy54 c5 efi2_7043) (Or.inl (toy75 c6 p2_1 ktoy20)))⟩)
        ·
          have c8 : l3_2.toInt < (20 : Int32).toInt := kd_leF c; clear c
          refine ft_go mi_k58 3 26 [(3, .int l3_2), (0, .ref 49), (1, .ref 110), (2, .int x2)] [.int l3_2, .ref 111] i2 a2 q2 r2 (by rfl) ?_
          refine ko_lald2 mi_k58.1 (l := q2 111) (n := 60) (c := 60) (ax := (0, 0, 0, 0, 0)) (mi_k58.2 _ _ (by rfl)) (by rfl) (by rfl) (hL2.I.2.2.2 111) rfl (toy48 p2_0) (toy53 p2_1) ?_
          refine ft_go mi_k58 3 32 [(4, .int (((q2 111).getD l3_2.toNatClampNeg 0).toInt32)), (3, .int l3_2), (0, .ref 49), (1, .ref 110), (2, .int x2)] [.int (((q2 111).getD l3_2.toNatClampNeg 0).toInt32)] i2 a2 q2 r2 (by rfl) ?_
          refine ft_if mi_k58 (decide ((((q2 111).getD l3_2.toNatClampNeg 0).toInt32) < 0)) 41 35 [(4, .int (((q2 111).getD l3_2.toNatClampNeg 0).toInt32)), (3, .int l3_2), (0, .ref 49), (1, .ref 110), (2, .int x2)] [] (by rfl) (fun c => ?_) (fun c => ?_)
          ·
            have c9 : (((q2 111).getD l3_2.toNatClampNeg 0).toInt32).toInt < (0 : Int32).toInt := kd_lt c; clear c
            have hG10 := kG_call hJ1 hL2 (by decide +kernel)
            exact ft_ret mi_k58 (by rfl) (hP  _ _ _ _ hG10 ⟨trivial, (kRd_mk O2_0 (toy72 p2_2) (toy48 p2_0) (toy49 p2_1) (toy54 c5 efi2_7043) (Or.inr (Or.inr (kRd_bad (y := l3_2) (Int.zero_add _).symm (toy48 p2_0) (congrArg (fun z : List Int64 => (z.getD l3_2.toNatClampNeg 0).toInt32) (hL2.fq 111 rfl : q2 111 = q 111)) (toy55 c9 ktoy0)))))⟩)
          ·
            have c11 : (0 : Int32).toInt ≤ (((q2 111).getD l3_2.toNatClampNeg 0).toInt32).toInt := kd_ltF c; clear c
            refine ft_go mi_k58 2 38 [(4, .int (((q2 111).getD l3_2.toNatClampNeg 0).toInt32)), (3, .int l3_2), (0, .ref 49), (1, .ref 110), (2, .int x2)] [.int x2, .int (((q2 111).getD l3_2.toNatClampNeg 0).toInt32)] i2 a2 q2 r2 (by rfl) ?_
            refine ft_if mi_k58 (decide ((((q2 111).getD l3_2.toNatClampNeg 0).toInt32) < x2)) 42 41 [(4, .int (((q2 111).getD l3_2.toNatClampNeg 0).toInt32)), (3, .int l3_2), (0, .ref 49), (1, .ref 110), (2, .int x2)] [] (by rfl) (fun c => ?_) (fun c => ?_)
            ·
              have c12 : (((q2 111).getD l3_2.toNatClampNeg 0).toInt32).toInt < x2.toInt := kd_lt c; clear c
              refine ft_go mi_k58 4 49 [(4, .int (((q2 111).getD l3_2.toNatClampNeg 0).toInt32)), (3, .int l3_2), (0, .ref 49), (1, .ref 110), (2, .int x2)] [.int (((q2 111).getD l3_2.toNatClampNeg 0).toInt32), .int l3_2, .ref 74] i2 a2 q2 r2 (by rfl) ?_
              refine ko_iast3 mi_k58.1 (n := 20) (c := 20) (ax := (0, 0, 0, 0, 0)) (mi_k58.2 _ _ (by rfl)) (by rfl) (ksG74 _ _ _ _) (ksA74 _ _ _ _) (hL2.I.2.1 74) rfl (toy48 p2_0) (toy56 c8 ktoy20) ?_
              intro a13 ea13 fa13
              have hJ13 := kG_a3 hL2 74 rfl ea13 fa13 (kd_bd _)
              have s14 : (l3_2 + 1).toInt = l3_2.toInt + (1 : Int32).toInt := kd_add (toy57 p2_0 ktoy1) (toy58 p2_1 ktoy1)
              have hJ15 := kG_i hJ13 3138 rfl (v := (l3_2 + 1)) ⟨(toy59 p2_0 s14 ktoy1), (toy60 c8 s14 ktoy20 ktoy1)⟩
              refine ft_go mi_k58 7 7 [(3, .int (l3_2 + 1)), (4, .int (((q2 111).getD l3_2.toNatClampNeg 0).toInt32)), (0, .ref 49), (1, .ref 110), (2, .int x2)] [] (ku i2 3138 (l3_2 + 1)) a13 q2 r2 (by rfl) ?_
              refine ko_perm [(3, .int (l3_2 + 1)), (0, .ref 49), (1, .ref 110), (2, .int x2)] (List.forall_mem_cons.mpr ⟨(List.Mem.head _), (List.forall_mem_cons.mpr ⟨(List.Mem.tail _ (List.Mem.tail _ (List.Mem.head _))), (List.forall_mem_cons.mpr ⟨(List.Mem.tail _ (List.Mem.tail _ (List.Mem.tail _ (List.Mem.head _)))), (List.forall_mem_cons.mpr ⟨(List.Mem.tail _ (List.Mem.tail _ (List.Mem.tail _ (List.Mem.tail _ (List.Mem.head _))))), (fun _ h => absurd h List.not_mem_nil)⟩)⟩)⟩)⟩) ?_
              exact ih2 _ _ _ _ _ hJ15 (toy59 p2_0 s14 ktoy1) (toy60 c8 s14 ktoy20 ktoy1) toy61 (toy62 c5 efi2_7043 s14 ktoy1) (kRp_step (y := l3_2) (m := 20) O2_0 (hL2.I.2.1 74) (toy48 p2_0) (toy63 c8 ktoy20) (toy64 s14 ktoy1) ea13 (Int.zero_add _).symm (congrArg (fun z : List Int64 => (z.getD l3_2.toNatClampNeg 0).toInt32) (hL2.fq 111 rfl : q2 111 = q 111)) (toy65 c11 ktoy0) (toy66 c12)) (kj_meas (toy67 s14 ktoy1) (toy68 c8 ktoy20) hm2)
            ·
              have c16 : x2.toInt ≤ (((q2 111).getD l3_2.toNatClampNeg 0).toInt32).toInt := kd_ltF c; clear c
              have hG17 := kG_call hJ1 hL2 (by decide +kernel)
              exact ft_ret mi_k58 (by rfl) (hP  _ _ _ _ hG17 ⟨trivial, (kRd_mk O2_0 (toy72 p2_2) (toy48 p2_0) (toy49 p2_1) (toy54 c5 efi2_7043) (Or.inr (Or.inr (kRd_bad (y := l3_2) (Int.zero_add _).symm (toy48 p2_0) (congrArg (fun z : List Int64 => (z.getD l3_2.toNatClampNeg 0).toInt32) (hL2.fq 111 rfl : q2 111 = q 111)) (toy69 c16)))))⟩)
  have fi_7043 : ((0 : Int) ≤ (i 7043).toInt) ∧ ((i 7043).toInt ≤ 60) := hG.I.1 7043
  exact lp2 _ _ _ _ _ _ (kG_self _ hJ1.I hJ1.R) (toy45 ktoy0) (toy46 ktoy0) (toy70 ktoy0) (toy71 fi_7043.1 ktoy0) (kRp_0 (Int.le_of_eq ktoy0)) (Nat.lt_succ_self _)
def yw58_49_112 : kW := ([3138], [74], [], [])
def yw58_49_112_L7 : kW := ([3138], [74], [], [])
set_option maxRecDepth 100000 in
theorem ke58_49_112 {i : Nat → Int32} {a : Nat → List Int32} {q : Nat → List Int64} {r : Nat → Nat} (hI : kI i a q) (hr : kr r) (x2 : Int32) : km 1 58 [.ref 49, .ref 112, .int x2] (ks i a q r) (kVN yw58_49_112 i a q r (fun i1 a1 q1 r1 => (True) ∧ kRd x2 (i 7171).toInt (vQ (q 113) 0) (i1 3138).toInt (a1 74))) := by
  have hG := kG_self yw58_49_112 hI hr
  refine km_ofN (q := (mi_h58, mi_c58)) rfl (by decide) (Nat.le_of_ble_eq_true rfl) ?_
  intro P hP
  have hJ1 := kG_i hG 3138 rfl (v := 0) ⟨(toy45 ktoy0), (toy46 ktoy0)⟩
  refine ft_go mi_k58 5 7 [(3, .int 0), (0, .ref 49), (1, .ref 112), (2, .int x2)] [] (ku i 3138 0) a q r (by rfl) ?_
  have lp2 : ∀ (nz : Nat) (i2 : Nat → Int32) (a2 : Nat → List Int32) (q2 : Nat → List Int64) (r2 : Nat → Nat) (l3_2 : Int32), kG yw58_49_112_L7 (ku i 3138 0) a q r i2 a2 q2 r2 → (0 : Int) ≤ l3_2.toInt → l3_2.toInt ≤ 20 → (i2 3138).toInt = l3_2.toInt → l3_2.toInt ≤ (i 7171).toInt → kRp x2 (vQ (q 113) 0) l3_2.toInt (a2 74) → ((20 - l3_2.toInt)).toNat < nz → ko 1 (mi_h58, mi_c58) P (7, [(3, .int l3_2), (0, .ref 49), (1, .ref 112), (2, .int x2)], [], (0, 0), ks i2 a2 q2 r2) := by
    intro nz
    induction nz with
    | zero =>
      intro _ _ _ _ _ _ _ _ _ _ _ hm
      exact absurd hm (Nat.not_lt_zero _)
    | succ nz ih2 =>
      intro i2 a2 q2 r2 l3_2 hL2 p2_0 p2_1 p2_2 p2_3 O2_0 hm2
      have fi2_3138 : ((0 : Int) ≤ (i2 3138).toInt) ∧ ((i2 3138).toInt ≤ 20) := hL2.I.1 3138
      have fi_7171 : ((0 : Int) ≤ (i 7171).toInt) ∧ ((i 7171).toInt ≤ 60) := hG.I.1 7171
      have fi2_7171 : ((0 : Int) ≤ (i2 7171).toInt) ∧ ((i2 7171).toInt ≤ 60) := hL2.I.1 7171
      have efi2_7171 : (i2 7171).toInt = (i 7171).toInt := hL2.ti 7171 rfl
      refine ft_go mi_k58 3 12 [(3, .int l3_2), (0, .ref 49), (1, .ref 112), (2, .int x2)] [.int (i2 7171), .int l3_2] i2 a2 q2 r2 (by rfl) ?_
      refine ft_if mi_k58 (decide ((i2 7171) ≤ l3_2)) 63 15 [(3, .int l3_2), (0, .ref 49), (1, .ref 112), (2, .int x2)] [] (by rfl) (fun c => ?_) (fun c => ?_)
      ·
        have c3 : (i2 7171).toInt ≤ l3_2.toInt := kd_le c; clear c
        have hG4 := kG_call hJ1 hL2 (by decide +kernel)
        exact ft_ret mi_k58 (by rfl) (hP  _ _ _ _ hG4 ⟨trivial, (kRd_mk O2_0 (toy72 p2_2) (toy48 p2_0) (toy49 p2_1) (toy50 p2_3) (Or.inr (Or.inl (toy51 c3 efi2_7171 p2_3))))⟩)
      ·
        have c5 : l3_2.toInt < (i2 7171).toInt := kd_leF c; clear c
        refine ft_go mi_k58 2 18 [(3, .int l3_2), (0, .ref 49), (1, .ref 112), (2, .int x2)] [.int 20, .int l3_2] i2 a2 q2 r2 (by rfl) ?_
        refine ft_if mi_k58 (decide (20 ≤ l3_2)) 63 21 [(3, .int l3_2), (0, .ref 49), (1, .ref 112), (2, .int x2)] [] (by rfl) (fun c => ?_) (fun c => ?_)
        ·
          have c6 : (20 : Int32).toInt ≤ l3_2.toInt := kd_le c; clear c
          have hG7 := kG_call hJ1 hL2 (by decide +kernel)
          exact ft_ret mi_k58 (by rfl) (hP  _ _ _ _ hG7 ⟨trivial, (kRd_mk O2_0 (toy73 c6 fi2_3138.2 p2_2 ktoy20) (toy74 c6 ktoy20) (toy49 p2_1) (toy54 c5 efi2_7171) (Or.inl (toy75 c6 p2_1 ktoy20)))⟩)
        ·
          have c8 : l3_2.toInt < (20 : Int32).toInt := kd_leF c; clear c
          refine ft_go mi_k58 3 26 [(3, .int l3_2), (0, .ref 49), (1, .ref 112), (2, .int x2)] [.int l3_2, .ref 113] i2 a2 q2 r2 (by rfl) ?_
          refine ko_lald2 mi_k58.1 (l := q2 113) (n := 60) (c := 60) (ax := (0, 0, 0, 0, 0)) (mi_k58.2 _ _ (by rfl)) (by rfl) (by rfl) (hL2.I.2.2.2 113) rfl (toy48 p2_0) (toy53 p2_1) ?_
          refine ft_go mi_k58 3 32 [(4, .int (((q2 113).getD l3_2.toNatClampNeg 0).toInt32)), (3, .int l3_2), (0, .ref 49), (1, .ref 112), (2, .int x2)] [.int (((q2 113).getD l3_2.toNatClampNeg 0).toInt32)] i2 a2 q2 r2 (by rfl) ?_
          refine ft_if mi_k58 (decide ((((q2 113).getD l3_2.toNatClampNeg 0).toInt32) < 0)) 41 35 [(4, .int (((q2 113).getD l3_2.toNatClampNeg 0).toInt32)), (3, .int l3_2), (0, .ref 49), (1, .ref 112), (2, .int x2)] [] (by rfl) (fun c => ?_) (fun c => ?_)
          ·
            have c9 : (((q2 113).getD l3_2.toNatClampNeg 0).toInt32).toInt < (0 : Int32).toInt := kd_lt c; clear c
            have hG10 := kG_call hJ1 hL2 (by decide +kernel)
            exact ft_ret mi_k58 (by rfl) (hP  _ _ _ _ hG10 ⟨trivial, (kRd_mk O2_0 (toy72 p2_2) (toy48 p2_0) (toy49 p2_1) (toy54 c5 efi2_7171) (Or.inr (Or.inr (kRd_bad (y := l3_2) (Int.zero_add _).symm (toy48 p2_0) (congrArg (fun z : List Int64 => (z.getD l3_2.toNatClampNeg 0).toInt32) (hL2.fq 113 rfl : q2 113 = q 113)) (toy55 c9 ktoy0)))))⟩)
          ·
            have c11 : (0 : Int32).toInt ≤ (((q2 113).getD l3_2.toNatClampNeg 0).toInt32).toInt := kd_ltF c; clear c
            refine ft_go mi_k58 2 38 [(4, .int (((q2 113).getD l3_2.toNatClampNeg 0).toInt32)), (3, .int l3_2), (0, .ref 49), (1, .ref 112), (2, .int x2)] [.int x2, .int (((q2 113).getD l3_2.toNatClampNeg 0).toInt32)] i2 a2 q2 r2 (by rfl) ?_
            refine ft_if mi_k58 (decide ((((q2 113).getD l3_2.toNatClampNeg 0).toInt32) < x2)) 42 41 [(4, .int (((q2 113).getD l3_2.toNatClampNeg 0).toInt32)), (3, .int l3_2), (0, .ref 49), (1, .ref 112), (2, .int x2)] [] (by rfl) (fun c => ?_) (fun c => ?_)
            ·
              have c12 : (((q2 113).getD l3_2.toNatClampNeg 0).toInt32).toInt < x2.toInt := kd_lt c; clear c
              refine ft_go mi_k58 4 49 [(4, .int (((q2 113).getD l3_2.toNatClampNeg 0).toInt32)), (3, .int l3_2), (0, .ref 49), (1, .ref 112), (2, .int x2)] [.int (((q2 113).getD l3_2.toNatClampNeg 0).toInt32), .int l3_2, .ref 74] i2 a2 q2 r2 (by rfl) ?_
              refine ko_iast3 mi_k58.1 (n := 20) (c := 20) (ax := (0, 0, 0, 0, 0)) (mi_k58.2 _ _ (by rfl)) (by rfl) (ksG74 _ _ _ _) (ksA74 _ _ _ _) (hL2.I.2.1 74) rfl (toy48 p2_0) (toy56 c8 ktoy20) ?_
              intro a13 ea13 fa13
              have hJ13 := kG_a3 hL2 74 rfl ea13 fa13 (kd_bd _)
              have s14 : (l3_2 + 1).toInt = l3_2.toInt + (1 : Int32).toInt := kd_add (toy57 p2_0 ktoy1) (toy58 p2_1 ktoy1)
              have hJ15 := kG_i hJ13 3138 rfl (v := (l3_2 + 1)) ⟨(toy59 p2_0 s14 ktoy1), (toy60 c8 s14 ktoy20 ktoy1)⟩
              refine ft_go mi_k58 7 7 [(3, .int (l3_2 + 1)), (4, .int (((q2 113).getD l3_2.toNatClampNeg 0).toInt32)), (0, .ref 49), (1, .ref 112), (2, .int x2)] [] (ku i2 3138 (l3_2 + 1)) a13 q2 r2 (by rfl) ?_
              refine ko_perm [(3, .int (l3_2 + 1)), (0, .ref 49), (1, .ref 112), (2, .int x2)] (List.forall_mem_cons.mpr ⟨(List.Mem.head _), (List.forall_mem_cons.mpr ⟨(List.Mem.tail _ (List.Mem.tail _ (List.Mem.head _))), (List.forall_mem_cons.mpr ⟨(List.Mem.tail _ (List.Mem.tail _ (List.Mem.tail _ (List.Mem.head _)))), (List.forall_mem_cons.mpr ⟨(List.Mem.tail _ (List.Mem.tail _ (List.Mem.tail _ (List.Mem.tail _ (List.Mem.head _))))), (fun _ h => absurd h List.not_mem_nil)⟩)⟩)⟩)⟩) ?_
              exact ih2 _ _ _ _ _ hJ15 (toy59 p2_0 s14 ktoy1) (toy60 c8 s14 ktoy20 ktoy1) toy61 (toy62 c5 efi2_7171 s14 ktoy1) (kRp_step (y := l3_2) (m := 20) O2_0 (hL2.I.2.1 74) (toy48 p2_0) (toy63 c8 ktoy20) (toy64 s14 ktoy1) ea13 (Int.zero_add _).symm (congrArg (fun z : List Int64 => (z.getD l3_2.toNatClampNeg 0).toInt32) (hL2.fq 113 rfl : q2 113 = q 113)) (toy65 c11 ktoy0) (toy66 c12)) (kj_meas (toy67 s14 ktoy1) (toy68 c8 ktoy20) hm2)
            ·
              have c16 : x2.toInt ≤ (((q2 113).getD l3_2.toNatClampNeg 0).toInt32).toInt := kd_ltF c; clear c
              have hG17 := kG_call hJ1 hL2 (by decide +kernel)
              exact ft_ret mi_k58 (by rfl) (hP  _ _ _ _ hG17 ⟨trivial, (kRd_mk O2_0 (toy72 p2_2) (toy48 p2_0) (toy49 p2_1) (toy54 c5 efi2_7171) (Or.inr (Or.inr (kRd_bad (y := l3_2) (Int.zero_add _).symm (toy48 p2_0) (congrArg (fun z : List Int64 => (z.getD l3_2.toNatClampNeg 0).toInt32) (hL2.fq 113 rfl : q2 113 = q 113)) (toy69 c16)))))⟩)
  have fi_7171 : ((0 : Int) ≤ (i 7171).toInt) ∧ ((i 7171).toInt ≤ 60) := hG.I.1 7171
  exact lp2 _ _ _ _ _ _ (kG_self _ hJ1.I hJ1.R) (toy45 ktoy0) (toy46 ktoy0) (toy70 ktoy0) (toy71 fi_7171.1 ktoy0) (kRp_0 (Int.le_of_eq ktoy0)) (Nat.lt_succ_self _)
def yw58_49_114 : kW := ([3138], [74], [], [])
def yw58_49_114_L7 : kW := ([3138], [74], [], [])
set_option maxRecDepth 100000 in
theorem ke58_49_114 {i : Nat → Int32} {a : Nat → List Int32} {q : Nat → List Int64} {r : Nat → Nat} (hI : kI i a q) (hr : kr r) (x2 : Int32) : km 1 58 [.ref 49, .ref 114, .int x2] (ks i a q r) (kVN yw58_49_114 i a q r (fun i1 a1 q1 r1 => (True) ∧ kRd x2 (i 7299).toInt (vQ (q 115) 0) (i1 3138).toInt (a1 74))) := by
  have hG := kG_self yw58_49_114 hI hr
  refine km_ofN (q := (mi_h58, mi_c58)) rfl (by decide) (Nat.le_of_ble_eq_true rfl) ?_
  intro P hP
  have hJ1 := kG_i hG 3138 rfl (v := 0) ⟨(toy45 ktoy0), (toy46 ktoy0)⟩
  refine ft_go mi_k58 5 7 [(3, .int 0), (0, .ref 49), (1, .ref 114), (2, .int x2)] [] (ku i 3138 0) a q r (by rfl) ?_
  have lp2 : ∀ (nz : Nat) (i2 : Nat → Int32) (a2 : Nat → List Int32) (q2 : Nat → List Int64) (r2 : Nat → Nat) (l3_2 : Int32), kG yw58_49_114_L7 (ku i 3138 0) a q r i2 a2 q2 r2 → (0 : Int) ≤ l3_2.toInt → l3_2.toInt ≤ 20 → (i2 3138).toInt = l3_2.toInt → l3_2.toInt ≤ (i 7299).toInt → kRp x2 (vQ (q 115) 0) l3_2.toInt (a2 74) → ((20 - l3_2.toInt)).toNat < nz → ko 1 (mi_h58, mi_c58) P (7, [(3, .int l3_2), (0, .ref 49), (1, .ref 114), (2, .int x2)], [], (0, 0), ks i2 a2 q2 r2) := by
    intro nz
    induction nz with
    | zero =>
      intro _ _ _ _ _ _ _ _ _ _ _ hm
      exact absurd hm (Nat.not_lt_zero _)
    | succ nz ih2 =>
      intro i2 a2 q2 r2 l3_2 hL2 p2_0 p2_1 p2_2 p2_3 O2_0 hm2
      have fi2_3138 : ((0 : Int) ≤ (i2 3138).toInt) ∧ ((i2 3138).toInt ≤ 20) := hL2.I.1 3138
      have fi_7299 : ((0 : Int) ≤ (i 7299).toInt) ∧ ((i 7299).toInt ≤ 60) := hG.I.1 7299
      have fi2_7299 : ((0 : Int) ≤ (i2 7299).toInt) ∧ ((i2 7299).toInt ≤ 60) := hL2.I.1 7299
      have efi2_7299 : (i2 7299).toInt = (i 7299).toInt := hL2.ti 7299 rfl
      refine ft_go mi_k58 3 12 [(3, .int l3_2), (0, .ref 49), (1, .ref 114), (2, .int x2)] [.int (i2 7299), .int l3_2] i2 a2 q2 r2 (by rfl) ?_
      refine ft_if mi_k58 (decide ((i2 7299) ≤ l3_2)) 63 15 [(3, .int l3_2), (0, .ref 49), (1, .ref 114), (2, .int x2)] [] (by rfl) (fun c => ?_) (fun c => ?_)
      ·
        have c3 : (i2 7299).toInt ≤ l3_2.toInt := kd_le c; clear c
        have hG4 := kG_call hJ1 hL2 (by decide +kernel)
        exact ft_ret mi_k58 (by rfl) (hP  _ _ _ _ hG4 ⟨trivial, (kRd_mk O2_0 (toy72 p2_2) (toy48 p2_0) (toy49 p2_1) (toy50 p2_3) (Or.inr (Or.inl (toy51 c3 efi2_7299 p2_3))))⟩)
      ·
        have c5 : l3_2.toInt < (i2 7299).toInt := kd_leF c; clear c
        refine ft_go mi_k58 2 18 [(3, .int l3_2), (0, .ref 49), (1, .ref 114), (2, .int x2)] [.int 20, .int l3_2] i2 a2 q2 r2 (by rfl) ?_
        refine ft_if mi_k58 (decide (20 ≤ l3_2)) 63 21 [(3, .int l3_2), (0, .ref 49), (1, .ref 114), (2, .int x2)] [] (by rfl) (fun c => ?_) (fun c => ?_)
        ·
          have c6 : (20 : Int32).toInt ≤ l3_2.toInt := kd_le c; clear c
          have hG7 := kG_call hJ1 hL2 (by decide +kernel)
          exact ft_ret mi_k58 (by rfl) (hP  _ _ _ _ hG7 ⟨trivial, (kRd_mk O2_0 (toy73 c6 fi2_3138.2 p2_2 ktoy20) (toy74 c6 ktoy20) (toy49 p2_1) (toy54 c5 efi2_7299) (Or.inl (toy75 c6 p2_1 ktoy20)))⟩)
        ·
          have c8 : l3_2.toInt < (20 : Int32).toInt := kd_leF c; clear c
          refine ft_go mi_k58 3 26 [(3, .int l3_2), (0, .ref 49), (1, .ref 114), (2, .int x2)] [.int l3_2, .ref 115] i2 a2 q2 r2 (by rfl) ?_
          refine ko_lald2 mi_k58.1 (l := q2 115) (n := 60) (c := 60) (ax := (0, 0, 0, 0, 0)) (mi_k58.2 _ _ (by rfl)) (by rfl) (by rfl) (hL2.I.2.2.2 115) rfl (toy48 p2_0) (toy53 p2_1) ?_
          refine ft_go mi_k58 3 32 [(4, .int (((q2 115).getD l3_2.toNatClampNeg 0).toInt32)), (3, .int l3_2), (0, .ref 49), (1, .ref 114), (2, .int x2)] [.int (((q2 115).getD l3_2.toNatClampNeg 0).toInt32)] i2 a2 q2 r2 (by rfl) ?_
          refine ft_if mi_k58 (decide ((((q2 115).getD l3_2.toNatClampNeg 0).toInt32) < 0)) 41 35 [(4, .int (((q2 115).getD l3_2.toNatClampNeg 0).toInt32)), (3, .int l3_2), (0, .ref 49), (1, .ref 114), (2, .int x2)] [] (by rfl) (fun c => ?_) (fun c => ?_)
          ·
            have c9 : (((q2 115).getD l3_2.toNatClampNeg 0).toInt32).toInt < (0 : Int32).toInt := kd_lt c; clear c
            have hG10 := kG_call hJ1 hL2 (by decide +kernel)
            exact ft_ret mi_k58 (by rfl) (hP  _ _ _ _ hG10 ⟨trivial, (kRd_mk O2_0 (toy72 p2_2) (toy48 p2_0) (toy49 p2_1) (toy54 c5 efi2_7299) (Or.inr (Or.inr (kRd_bad (y := l3_2) (Int.zero_add _).symm (toy48 p2_0) (congrArg (fun z : List Int64 => (z.getD l3_2.toNatClampNeg 0).toInt32) (hL2.fq 115 rfl : q2 115 = q 115)) (toy55 c9 ktoy0)))))⟩)
          ·
            have c11 : (0 : Int32).toInt ≤ (((q2 115).getD l3_2.toNatClampNeg 0).toInt32).toInt := kd_ltF c; clear c
            refine ft_go mi_k58 2 38 [(4, .int (((q2 115).getD l3_2.toNatClampNeg 0).toInt32)), (3, .int l3_2), (0, .ref 49), (1, .ref 114), (2, .int x2)] [.int x2, .int (((q2 115).getD l3_2.toNatClampNeg 0).toInt32)] i2 a2 q2 r2 (by rfl) ?_
            refine ft_if mi_k58 (decide ((((q2 115).getD l3_2.toNatClampNeg 0).toInt32) < x2)) 42 41 [(4, .int (((q2 115).getD l3_2.toNatClampNeg 0).toInt32)), (3, .int l3_2), (0, .ref 49), (1, .ref 114), (2, .int x2)] [] (by rfl) (fun c => ?_) (fun c => ?_)
            ·
              have c12 : (((q2 115).getD l3_2.toNatClampNeg 0).toInt32).toInt < x2.toInt := kd_lt c; clear c
              refine ft_go mi_k58 4 49 [(4, .int (((q2 115).getD l3_2.toNatClampNeg 0).toInt32)), (3, .int l3_2), (0, .ref 49), (1, .ref 114), (2, .int x2)] [.int (((q2 115).getD l3_2.toNatClampNeg 0).toInt32), .int l3_2, .ref 74] i2 a2 q2 r2 (by rfl) ?_
              refine ko_iast3 mi_k58.1 (n := 20) (c := 20) (ax := (0, 0, 0, 0, 0)) (mi_k58.2 _ _ (by rfl)) (by rfl) (ksG74 _ _ _ _) (ksA74 _ _ _ _) (hL2.I.2.1 74) rfl (toy48 p2_0) (toy56 c8 ktoy20) ?_
              intro a13 ea13 fa13
              have hJ13 := kG_a3 hL2 74 rfl ea13 fa13 (kd_bd _)
              have s14 : (l3_2 + 1).toInt = l3_2.toInt + (1 : Int32).toInt := kd_add (toy57 p2_0 ktoy1) (toy58 p2_1 ktoy1)
              have hJ15 := kG_i hJ13 3138 rfl (v := (l3_2 + 1)) ⟨(toy59 p2_0 s14 ktoy1), (toy60 c8 s14 ktoy20 ktoy1)⟩
              refine ft_go mi_k58 7 7 [(3, .int (l3_2 + 1)), (4, .int (((q2 115).getD l3_2.toNatClampNeg 0).toInt32)), (0, .ref 49), (1, .ref 114), (2, .int x2)] [] (ku i2 3138 (l3_2 + 1)) a13 q2 r2 (by rfl) ?_
              refine ko_perm [(3, .int (l3_2 + 1)), (0, .ref 49), (1, .ref 114), (2, .int x2)] (List.forall_mem_cons.mpr ⟨(List.Mem.head _), (List.forall_mem_cons.mpr ⟨(List.Mem.tail _ (List.Mem.tail _ (List.Mem.head _))), (List.forall_mem_cons.mpr ⟨(List.Mem.tail _ (List.Mem.tail _ (List.Mem.tail _ (List.Mem.head _)))), (List.forall_mem_cons.mpr ⟨(List.Mem.tail _ (List.Mem.tail _ (List.Mem.tail _ (List.Mem.tail _ (List.Mem.head _))))), (fun _ h => absurd h List.not_mem_nil)⟩)⟩)⟩)⟩) ?_
              exact ih2 _ _ _ _ _ hJ15 (toy59 p2_0 s14 ktoy1) (toy60 c8 s14 ktoy20 ktoy1) toy61 (toy62 c5 efi2_7299 s14 ktoy1) (kRp_step (y := l3_2) (m := 20) O2_0 (hL2.I.2.1 74) (toy48 p2_0) (toy63 c8 ktoy20) (toy64 s14 ktoy1) ea13 (Int.zero_add _).symm (congrArg (fun z : List Int64 => (z.getD l3_2.toNatClampNeg 0).toInt32) (hL2.fq 115 rfl : q2 115 = q 115)) (toy65 c11 ktoy0) (toy66 c12)) (kj_meas (toy67 s14 ktoy1) (toy68 c8 ktoy20) hm2)
            ·
              have c16 : x2.toInt ≤ (((q2 115).getD l3_2.toNatClampNeg 0).toInt32).toInt := kd_ltF c; clear c
              have hG17 := kG_call hJ1 hL2 (by decide +kernel)
              exact ft_ret mi_k58 (by rfl) (hP  _ _ _ _ hG17 ⟨trivial, (kRd_mk O2_0 (toy72 p2_2) (toy48 p2_0) (toy49 p2_1) (toy54 c5 efi2_7299) (Or.inr (Or.inr (kRd_bad (y := l3_2) (Int.zero_add _).symm (toy48 p2_0) (congrArg (fun z : List Int64 => (z.getD l3_2.toNatClampNeg 0).toInt32) (hL2.fq 115 rfl : q2 115 = q 115)) (toy69 c16)))))⟩)
  have fi_7299 : ((0 : Int) ≤ (i 7299).toInt) ∧ ((i 7299).toInt ≤ 60) := hG.I.1 7299
  exact lp2 _ _ _ _ _ _ (kG_self _ hJ1.I hJ1.R) (toy45 ktoy0) (toy46 ktoy0) (toy70 ktoy0) (toy71 fi_7299.1 ktoy0) (kRp_0 (Int.le_of_eq ktoy0)) (Nat.lt_succ_self _)
def ygw129_0 : kW := ([3138], [74], [], [])
set_option maxRecDepth 100000 in
theorem kg129_0 {i : Nat → Int32} {a : Nat → List Int32} {q : Nat → List Int64} {r : Nat → Nat} (hI : kI i a q) (hr : kr r) (x1 : Int32) : km 7 129 [.ref 0, .int x1] (ks i a q r) (kVI ygw129_0 i a q r (fun v i1 a1 q1 r1 => (v.toInt ≤ 0) ∧ cPl i q x1 v (i1 3138) (a1 74))) := by
  have hG := kG_self ygw129_0 hI hr
  refine km_ofI (q := (mi_h129, mi_c129)) rfl (by decide) (Nat.le_of_ble_eq_true rfl) ?_
  intro P hP
  first | refine ft_go mi_k129 2 2 [(0, .ref 0), (1, .int x1)] [.int x1, .ref 0] i a q r (by rfl) ?_ | refine ko_steps mi_in129 2 _ (2, [(0, .ref 0), (1, .int x1)], [.int x1, .ref 0], (0, 0), ks i a q r) (by rfl) ?_
  refine ko_callPI mi_k129.1 (pc := 2) (ls := [(0, .ref 0), (1, .int x1)]) (st := [.int x1, .ref 0]) (h := ks i a q r) (i := (.invokevirtual 217, 3, 127, 0, 9, 0, 209)) (mi_k129.2 _ _ (by rfl)) (ft_invS mi_pq127 (by rfl)) (cy := mi_c127) mi_pq127 rfl (kg127_0 hG.I hG.R x1) (by decide) ?_
  intro vg1 hg1
  obtain ⟨hg1, og1⟩ := hg1
  have z2 : (vg1.toInt < 0) ∨ ((vg1.toInt = 0) ∧ ((0 : Int) ≤ x1.toInt) ∧ (x1.toInt ≤ 5)) := hg1
  first | refine ft_go mi_k129 2 7 [(2, .int vg1), (0, .ref 0), (1, .int x1)] [.int vg1] i a q r (by rfl) ?_ | refine ko_steps mi_in129 2 _ (7, [(2, .int vg1), (0, .ref 0), (1, .int x1)], [.int vg1], (0, 0), ks i a q r) (by rfl) ?_
  refine ft_if mi_k129 (vg1 != 0) 30 10 [(2, .int vg1), (0, .ref 0), (1, .int x1)] [] (by rfl) (fun c => ?_) (fun c => ?_)
  ·
    have c3 : vg1.toInt ≠ (0 : Int32).toInt := kd_ne c; clear c
    first | refine ft_go mi_k129 1 31 [(2, .int vg1), (0, .ref 0), (1, .int x1)] [.int vg1] i a q r (by rfl) ?_ | refine ko_steps mi_in129 1 _ (31, [(2, .int vg1), (0, .ref 0), (1, .int x1)], [.int vg1], (0, 0), ks i a q r) (by rfl) ?_
    exact ft_ret mi_k129 (by rfl) (hP vg1 _ _ _ _ hG ⟨(toy42 z2), (Or.inl ⟨(toy43 c3 z2 ktoy0), og1⟩)⟩)
  ·
    have c4 : vg1.toInt = (0 : Int32).toInt := kd_neF c; clear c
    first | refine ft_go mi_k129 5 19 [(2, .int vg1), (0, .ref 0), (1, .int x1)] [.int x1, .ref 97, .ref 49] i a q r (by rfl) ?_ | refine ko_steps mi_in129 5 _ (19, [(2, .int vg1), (0, .ref 0), (1, .int x1)], [.int x1, .ref 97, .ref 49], (0, 0), ks i a q r) (by rfl) ?_
    by_cases w5 : x1.toInt = 0
    ·
      refine ko_eq (x1 := (19, [(2, .int vg1), (0, .ref 0), (1, .int x1)], [.int 0, .ref 97, .ref 49], (0, 0), ks i a q r)) (by rw [(kj_eq w5 (by decide) : x1 = 0)]) ?_
      have fi_64 : ((0 : Int) ≤ (i 64).toInt) ∧ ((i 64).toInt ≤ 8) := hG.I.1 64
      first | refine ft_go mi_k129 4 27 [(2, .int vg1), (0, .ref 0), (1, .int x1)] [.int (i 64), .ref 104, .ref 49] i a q r (by rfl) ?_ | refine ko_steps mi_in129 4 _ (27, [(2, .int vg1), (0, .ref 0), (1, .int x1)], [.int (i 64), .ref 104, .ref 49], (0, 0), ks i a q r) (by rfl) ?_
      refine ko_callN mi_k129.1 (pc := 27) (ls := [(2, .int vg1), (0, .ref 0), (1, .int x1)]) (st := [.int (i 64), .ref 104, .ref 49]) (h := ks i a q r) (i := (.invokevirtual 351, 3, 58, 0, 9, 0, 210)) (mi_k129.2 _ _ (by rfl)) (ft_invS mi_pq58 (by rfl)) (cy := mi_c58) mi_pq58 rfl (ke58_49_104 hG.I hG.R (i 64)) (by decide) ?_
      intro ig6 ag6 qg6 rg6 kg6 hg6
      have hGg6 := kG_call hG kg6 (by decide +kernel)
      obtain ⟨hg6, og6⟩ := hg6
      first | refine ft_go mi_k129 1 31 [(2, .int vg1), (0, .ref 0), (1, .int x1)] [.int vg1] ig6 ag6 qg6 rg6 (by rfl) ?_ | refine ko_steps mi_in129 1 _ (31, [(2, .int vg1), (0, .ref 0), (1, .int x1)], [.int vg1], (0, 0), ks ig6 ag6 qg6 rg6) (by rfl) ?_
      exact ft_ret mi_k129 (by rfl) (hP vg1 _ _ _ _ hGg6 ⟨(toy76 c4 ktoy0), (Or.inr ⟨kj_v ((toy78 c4 ktoy0).trans ktoy0.symm), 0, by decide, (toy77 w5), cRb_t og1 (toy78 c4 ktoy0) (toy77 w5), og6⟩)⟩)
    by_cases w7 : x1.toInt = 1
    ·
      refine ko_eq (x1 := (19, [(2, .int vg1), (0, .ref 0), (1, .int x1)], [.int 1, .ref 97, .ref 49], (0, 0), ks i a q r)) (by rw [(kj_eq w7 (by decide) : x1 = 1)]) ?_
      have fi_64 : ((0 : Int) ≤ (i 64).toInt) ∧ ((i 64).toInt ≤ 8) := hG.I.1 64
      first | refine ft_go mi_k129 4 27 [(2, .int vg1), (0, .ref 0), (1, .int x1)] [.int (i 64), .ref 106, .ref 49] i a q r (by rfl) ?_ | refine ko_steps mi_in129 4 _ (27, [(2, .int vg1), (0, .ref 0), (1, .int x1)], [.int (i 64), .ref 106, .ref 49], (0, 0), ks i a q r) (by rfl) ?_
      refine ko_callN mi_k129.1 (pc := 27) (ls := [(2, .int vg1), (0, .ref 0), (1, .int x1)]) (st := [.int (i 64), .ref 106, .ref 49]) (h := ks i a q r) (i := (.invokevirtual 351, 3, 58, 0, 9, 0, 210)) (mi_k129.2 _ _ (by rfl)) (ft_invS mi_pq58 (by rfl)) (cy := mi_c58) mi_pq58 rfl (ke58_49_106 hG.I hG.R (i 64)) (by decide) ?_
      intro ig8 ag8 qg8 rg8 kg8 hg8
      have hGg8 := kG_call hG kg8 (by decide +kernel)
      obtain ⟨hg8, og8⟩ := hg8
      first | refine ft_go mi_k129 1 31 [(2, .int vg1), (0, .ref 0), (1, .int x1)] [.int vg1] ig8 ag8 qg8 rg8 (by rfl) ?_ | refine ko_steps mi_in129 1 _ (31, [(2, .int vg1), (0, .ref 0), (1, .int x1)], [.int vg1], (0, 0), ks ig8 ag8 qg8 rg8) (by rfl) ?_
      exact ft_ret mi_k129 (by rfl) (hP vg1 _ _ _ _ hGg8 ⟨(toy76 c4 ktoy0), (Or.inr ⟨kj_v ((toy78 c4 ktoy0).trans ktoy0.symm), 1, by decide, (toy21 w7), cRb_t og1 (toy78 c4 ktoy0) (toy21 w7), og8⟩)⟩)
    by_cases w9 : x1.toInt = 2
    ·
      refine ko_eq (x1 := (19, [(2, .int vg1), (0, .ref 0), (1, .int x1)], [.int 2, .ref 97, .ref 49], (0, 0), ks i a q r)) (by rw [(kj_eq w9 (by decide) : x1 = 2)]) ?_
      have fi_64 : ((0 : Int) ≤ (i 64).toInt) ∧ ((i 64).toInt ≤ 8) := hG.I.1 64
      first | refine ft_go mi_k129 4 27 [(2, .int vg1), (0, .ref 0), (1, .int x1)] [.int (i 64), .ref 108, .ref 49] i a q r (by rfl) ?_ | refine ko_steps mi_in129 4 _ (27, [(2, .int vg1), (0, .ref 0), (1, .int x1)], [.int (i 64), .ref 108, .ref 49], (0, 0), ks i a q r) (by rfl) ?_
      refine ko_callN mi_k129.1 (pc := 27) (ls := [(2, .int vg1), (0, .ref 0), (1, .int x1)]) (st := [.int (i 64), .ref 108, .ref 49]) (h := ks i a q r) (i := (.invokevirtual 351, 3, 58, 0, 9, 0, 210)) (mi_k129.2 _ _ (by rfl)) (ft_invS mi_pq58 (by rfl)) (cy := mi_c58) mi_pq58 rfl (ke58_49_108 hG.I hG.R (i 64)) (by decide) ?_
      intro ig10 ag10 qg10 rg10 kg10 hg10
      have hGg10 := kG_call hG kg10 (by decide +kernel)
      obtain ⟨hg10, og10⟩ := hg10
      first | refine ft_go mi_k129 1 31 [(2, .int vg1), (0, .ref 0), (1, .int x1)] [.int vg1] ig10 ag10 qg10 rg10 (by rfl) ?_ | refine ko_steps mi_in129 1 _ (31, [(2, .int vg1), (0, .ref 0), (1, .int x1)], [.int vg1], (0, 0), ks ig10 ag10 qg10 rg10) (by rfl) ?_
      exact ft_ret mi_k129 (by rfl) (hP vg1 _ _ _ _ hGg10 ⟨(toy76 c4 ktoy0), (Or.inr ⟨kj_v ((toy78 c4 ktoy0).trans ktoy0.symm), 2, by decide, (toy25 w9), cRb_t og1 (toy78 c4 ktoy0) (toy25 w9), og10⟩)⟩)
    by_cases w11 : x1.toInt = 3
    ·
      refine ko_eq (x1 := (19, [(2, .int vg1), (0, .ref 0), (1, .int x1)], [.int 3, .ref 97, .ref 49], (0, 0), ks i a q r)) (by rw [(kj_eq w11 (by decide) : x1 = 3)]) ?_
      have fi_64 : ((0 : Int) ≤ (i 64).toInt) ∧ ((i 64).toInt ≤ 8) := hG.I.1 64
      first | refine ft_go mi_k129 4 27 [(2, .int vg1), (0, .ref 0), (1, .int x1)] [.int (i 64), .ref 110, .ref 49] i a q r (by rfl) ?_ | refine ko_steps mi_in129 4 _ (27, [(2, .int vg1), (0, .ref 0), (1, .int x1)], [.int (i 64), .ref 110, .ref 49], (0, 0), ks i a q r) (by rfl) ?_
      refine ko_callN mi_k129.1 (pc := 27) (ls := [(2, .int vg1), (0, .ref 0), (1, .int x1)]) (st := [.int (i 64), .ref 110, .ref 49]) (h := ks i a q r) (i := (.invokevirtual 351, 3, 58, 0, 9, 0, 210)) (mi_k129.2 _ _ (by rfl)) (ft_invS mi_pq58 (by rfl)) (cy := mi_c58) mi_pq58 rfl (ke58_49_110 hG.I hG.R (i 64)) (by decide) ?_
      intro ig12 ag12 qg12 rg12 kg12 hg12
      have hGg12 := kG_call hG kg12 (by decide +kernel)
      obtain ⟨hg12, og12⟩ := hg12
      first | refine ft_go mi_k129 1 31 [(2, .int vg1), (0, .ref 0), (1, .int x1)] [.int vg1] ig12 ag12 qg12 rg12 (by rfl) ?_ | refine ko_steps mi_in129 1 _ (31, [(2, .int vg1), (0, .ref 0), (1, .int x1)], [.int vg1], (0, 0), ks ig12 ag12 qg12 rg12) (by rfl) ?_
      exact ft_ret mi_k129 (by rfl) (hP vg1 _ _ _ _ hGg12 ⟨(toy76 c4 ktoy0), (Or.inr ⟨kj_v ((toy78 c4 ktoy0).trans ktoy0.symm), 3, by decide, (toy29 w11), cRb_t og1 (toy78 c4 ktoy0) (toy29 w11), og12⟩)⟩)
    by_cases w13 : x1.toInt = 4
    ·
      refine ko_eq (x1 := (19, [(2, .int vg1), (0, .ref 0), (1, .int x1)], [.int 4, .ref 97, .ref 49], (0, 0), ks i a q r)) (by rw [(kj_eq w13 (by decide) : x1 = 4)]) ?_
      have fi_64 : ((0 : Int) ≤ (i 64).toInt) ∧ ((i 64).toInt ≤ 8) := hG.I.1 64
      first | refine ft_go mi_k129 4 27 [(2, .int vg1), (0, .ref 0), (1, .int x1)] [.int (i 64), .ref 112, .ref 49] i a q r (by rfl) ?_ | refine ko_steps mi_in129 4 _ (27, [(2, .int vg1), (0, .ref 0), (1, .int x1)], [.int (i 64), .ref 112, .ref 49], (0, 0), ks i a q r) (by rfl) ?_
      refine ko_callN mi_k129.1 (pc := 27) (ls := [(2, .int vg1), (0, .ref 0), (1, .int x1)]) (st := [.int (i 64), .ref 112, .ref 49]) (h := ks i a q r) (i := (.invokevirtual 351, 3, 58, 0, 9, 0, 210)) (mi_k129.2 _ _ (by rfl)) (ft_invS mi_pq58 (by rfl)) (cy := mi_c58) mi_pq58 rfl (ke58_49_112 hG.I hG.R (i 64)) (by decide) ?_
      intro ig14 ag14 qg14 rg14 kg14 hg14
      have hGg14 := kG_call hG kg14 (by decide +kernel)
      obtain ⟨hg14, og14⟩ := hg14
      first | refine ft_go mi_k129 1 31 [(2, .int vg1), (0, .ref 0), (1, .int x1)] [.int vg1] ig14 ag14 qg14 rg14 (by rfl) ?_ | refine ko_steps mi_in129 1 _ (31, [(2, .int vg1), (0, .ref 0), (1, .int x1)], [.int vg1], (0, 0), ks ig14 ag14 qg14 rg14) (by rfl) ?_
      exact ft_ret mi_k129 (by rfl) (hP vg1 _ _ _ _ hGg14 ⟨(toy76 c4 ktoy0), (Or.inr ⟨kj_v ((toy78 c4 ktoy0).trans ktoy0.symm), 4, by decide, (toy33 w13), cRb_t og1 (toy78 c4 ktoy0) (toy33 w13), og14⟩)⟩)
    by_cases w15 : x1.toInt = 5
    ·
      refine ko_eq (x1 := (19, [(2, .int vg1), (0, .ref 0), (1, .int x1)], [.int 5, .ref 97, .ref 49], (0, 0), ks i a q r)) (by rw [(kj_eq w15 (by decide) : x1 = 5)]) ?_
      have fi_64 : ((0 : Int) ≤ (i 64).toInt) ∧ ((i 64).toInt ≤ 8) := hG.I.1 64
      first | refine ft_go mi_k129 4 27 [(2, .int vg1), (0, .ref 0), (1, .int x1)] [.int (i 64), .ref 114, .ref 49] i a q r (by rfl) ?_ | refine ko_steps mi_in129 4 _ (27, [(2, .int vg1), (0, .ref 0), (1, .int x1)], [.int (i 64), .ref 114, .ref 49], (0, 0), ks i a q r) (by rfl) ?_
      refine ko_callN mi_k129.1 (pc := 27) (ls := [(2, .int vg1), (0, .ref 0), (1, .int x1)]) (st := [.int (i 64), .ref 114, .ref 49]) (h := ks i a q r) (i := (.invokevirtual 351, 3, 58, 0, 9, 0, 210)) (mi_k129.2 _ _ (by rfl)) (ft_invS mi_pq58 (by rfl)) (cy := mi_c58) mi_pq58 rfl (ke58_49_114 hG.I hG.R (i 64)) (by decide) ?_
      intro ig16 ag16 qg16 rg16 kg16 hg16
      have hGg16 := kG_call hG kg16 (by decide +kernel)
      obtain ⟨hg16, og16⟩ := hg16
      first | refine ft_go mi_k129 1 31 [(2, .int vg1), (0, .ref 0), (1, .int x1)] [.int vg1] ig16 ag16 qg16 rg16 (by rfl) ?_ | refine ko_steps mi_in129 1 _ (31, [(2, .int vg1), (0, .ref 0), (1, .int x1)], [.int vg1], (0, 0), ks ig16 ag16 qg16 rg16) (by rfl) ?_
      exact ft_ret mi_k129 (by rfl) (hP vg1 _ _ _ _ hGg16 ⟨(toy76 c4 ktoy0), (Or.inr ⟨kj_v ((toy78 c4 ktoy0).trans ktoy0.symm), 5, by decide, (toy79 w15), cRb_t og1 (toy78 c4 ktoy0) (toy79 w15), og16⟩)⟩)
    exact (toy80 c4 w11 w13 w15 w5 w7 w9 z2 ktoy0).elim
