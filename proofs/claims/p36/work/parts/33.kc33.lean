def w21_10_73 : kW := ([645], [13], [], [])
def w21_10_73_L9 : kW := ([645], [13], [], [])
set_option maxRecDepth 100000 in
theorem kc21_10_73 {i : Nat → Int32} {a : Nat → List Int32} {q : Nat → List Int64} {r : Nat → Nat} (hI : kI i a q) (hr : kr r)  : km 3 21 [.ref 10, .ref 73] (ks i a q r) (kVI w21_10_73 i a q r (fun v i1 a1 q1 r1 => True)) := by
  have hG := kG_self w21_10_73 hI hr
  refine km_ofI (q := (mi_h21, mi_c21)) rfl (by decide) (Nat.le_of_ble_eq_true rfl) ?_
  intro P hP
  have hJ1 := kG_i hG 645 rfl (v := 0) ⟨(oz46 kn0), (oz1033 kn0)⟩
  refine ko_steps mi_in21 7 _ (9, [(3, .int 0), (2, .int 0), (0, .ref 10), (1, .ref 73)], [], (0, 0), ks (ku i 645 0) a q r) (by rfl) ?_
  have lp2 : ∀ (n : Nat) (i2 : Nat → Int32) (a2 : Nat → List Int32) (q2 : Nat → List Int64) (r2 : Nat → Nat) (l3_2 : Int32) (l2_2 : Int32), kG w21_10_73_L9 (ku i 645 0) a q r i2 a2 q2 r2 → (0 : Int) ≤ l3_2.toInt → ((121 - l3_2.toInt)).toNat < n → ko 3 (mi_h21, mi_c21) P (9, [(3, .int l3_2), (2, .int l2_2), (0, .ref 10), (1, .ref 73)], [], (0, 0), ks i2 a2 q2 r2) := by
    intro n
    induction n with
    | zero =>
      intro _ _ _ _ _ _ _ _ hm
      exact absurd hm (Nat.not_lt_zero _)
    | succ n ih2 =>
      intro i2 a2 q2 r2 l3_2 l2_2 hL2 p2_0 hm2
      refine ko_steps mi_in21 2 _ (12, [(3, .int l3_2), (2, .int l2_2), (0, .ref 10), (1, .ref 73)], [.int 121, .int l3_2], (0, 0), ks i2 a2 q2 r2) (by rfl) ?_
      refine ko_if mi_in21 (decide (121 ≤ l3_2)) 220 15 ([(3, .int l3_2), (2, .int l2_2), (0, .ref 10), (1, .ref 73)], [], (0, 0), ks i2 a2 q2 r2) (by rfl) (fun c => ?_) (fun c => ?_)
      ·
        have c3 : (121 : Int32).toInt ≤ l3_2.toInt := kd_le c; clear c
        have hG4 := kG_call hJ1 hL2 (by decide +kernel)
        refine ko_steps mi_in21 1 _ (221, [(3, .int l3_2), (2, .int l2_2), (0, .ref 10), (1, .ref 73)], [.int 0], (0, 0), ks i2 a2 q2 r2) (by rfl) ?_
        exact ko_ret mi_in21 (by rfl) (hP 0 _ _ _ _ hG4 trivial)
      ·
        have c5 : l3_2.toInt < (121 : Int32).toInt := kd_leF c; clear c
        refine ko_steps mi_in21 1 _ (16, [(3, .int l3_2), (2, .int l2_2), (0, .ref 10), (1, .ref 73)], [.int l2_2], (0, 0), ks i2 a2 q2 r2) (by rfl) ?_
        refine ko_if mi_in21 (decide (l2_2 < 0)) 220 19 ([(3, .int l3_2), (2, .int l2_2), (0, .ref 10), (1, .ref 73)], [], (0, 0), ks i2 a2 q2 r2) (by rfl) (fun c => ?_) (fun c => ?_)
        ·
          have c6 : l2_2.toInt < (0 : Int32).toInt := kd_lt c; clear c
          have hG7 := kG_call hJ1 hL2 (by decide +kernel)
          refine ko_steps mi_in21 1 _ (221, [(3, .int l3_2), (2, .int l2_2), (0, .ref 10), (1, .ref 73)], [.int 0], (0, 0), ks i2 a2 q2 r2) (by rfl) ?_
          exact ko_ret mi_in21 (by rfl) (hP 0 _ _ _ _ hG7 trivial)
        ·
          have c8 : (0 : Int32).toInt ≤ l2_2.toInt := kd_ltF c; clear c
          have fi2_643 : ((0 : Int) ≤ (i2 643).toInt) ∧ ((i2 643).toInt ≤ 121) := hL2.I.1 643
          have fi_643 : ((0 : Int) ≤ (i 643).toInt) ∧ ((i 643).toInt ≤ 121) := hJ1.I.1 643
          have efi2_643 : (i2 643).toInt = (i 643).toInt := hL2.ti 643 rfl
          refine ko_steps mi_in21 3 _ (24, [(3, .int l3_2), (2, .int l2_2), (0, .ref 10), (1, .ref 73)], [.int (i2 643), .int l2_2], (0, 0), ks i2 a2 q2 r2) (by rfl) ?_
          refine ko_if mi_in21 (decide ((i2 643) ≤ l2_2)) 220 27 ([(3, .int l3_2), (2, .int l2_2), (0, .ref 10), (1, .ref 73)], [], (0, 0), ks i2 a2 q2 r2) (by rfl) (fun c => ?_) (fun c => ?_)
          ·
            have c9 : (i2 643).toInt ≤ l2_2.toInt := kd_le c; clear c
            have hG10 := kG_call hJ1 hL2 (by decide +kernel)
            refine ko_steps mi_in21 1 _ (221, [(3, .int l3_2), (2, .int l2_2), (0, .ref 10), (1, .ref 73)], [.int 0], (0, 0), ks i2 a2 q2 r2) (by rfl) ?_
            exact ko_ret mi_in21 (by rfl) (hP 0 _ _ _ _ hG10 trivial)
          ·
            have c11 : l2_2.toInt < (i2 643).toInt := kd_leF c; clear c
            refine ko_steps mi_in21 3 _ (32, [(3, .int l3_2), (2, .int l2_2), (0, .ref 10), (1, .ref 73)], [.int l2_2, .ref 11], (0, 0), ks i2 a2 q2 r2) (by rfl) ?_
            refine ko_iald3 mi_in21 (n := 121) (c := 121) (ax := (0, 0, 0, 0, 0)) (by rfl) (by rfl) (ksG11 _ _ _ _) (hL2.I.2.1 11) rfl (oz389 c8 kn0) (oz1034 c11 fi2_643.2) ?_
            refine ko_steps mi_in21 4 _ (40, [(4, .int ((a2 11).getD l2_2.toNatClampNeg 0)), (3, .int l3_2), (2, .int l2_2), (0, .ref 10), (1, .ref 73)], [.int l2_2, .ref 12], (0, 0), ks i2 a2 q2 r2) (by rfl) ?_
            refine ko_iald3 mi_in21 (n := 121) (c := 121) (ax := (0, 0, 0, 0, 0)) (by rfl) (by rfl) (ksG12 _ _ _ _) (hL2.I.2.1 12) rfl (oz389 c8 kn0) (oz1034 c11 fi2_643.2) ?_
            have s12 : (l2_2 + 1).toInt = l2_2.toInt + (1 : Int32).toInt := kd_add (oz950 c8 kn0 kn1) (oz1035 c11 fi2_643.2 kn1)
            refine ko_steps mi_in21 3 _ (48, [(2, .int (l2_2 + 1)), (5, .int ((a2 12).getD l2_2.toNatClampNeg 0)), (4, .int ((a2 11).getD l2_2.toNatClampNeg 0)), (3, .int l3_2), (0, .ref 10), (1, .ref 73)], [.int ((a2 11).getD l2_2.toNatClampNeg 0)], (0, 0), ks i2 a2 q2 r2) (by rfl) ?_
            by_cases w13 : ((a2 11).getD l2_2.toNatClampNeg 0).toInt = 0
            ·
              refine ko_eq (x1 := (48, [(2, .int (l2_2 + 1)), (5, .int ((a2 12).getD l2_2.toNatClampNeg 0)), (4, .int ((a2 11).getD l2_2.toNatClampNeg 0)), (3, .int l3_2), (0, .ref 10), (1, .ref 73)], [.int 0], (0, 0), ks i2 a2 q2 r2)) (by rw [(kj_eq w13 (by decide) : ((a2 11).getD l2_2.toNatClampNeg 0) = 0)]) ?_
              refine ko_steps mi_in21 3 _ (111, [(2, .int (l2_2 + 1)), (5, .int ((a2 12).getD l2_2.toNatClampNeg 0)), (4, .int ((a2 11).getD l2_2.toNatClampNeg 0)), (3, .int l3_2), (0, .ref 10), (1, .ref 73)], [.int ((a2 12).getD l2_2.toNatClampNeg 0), .ref 10], (0, 0), ks i2 a2 q2 r2) (by rfl) ?_
              refine ko_callN mi_in21 (pc := 111) (ls := [(2, .int (l2_2 + 1)), (5, .int ((a2 12).getD l2_2.toNatClampNeg 0)), (4, .int ((a2 11).getD l2_2.toNatClampNeg 0)), (3, .int l3_2), (0, .ref 10), (1, .ref 73)]) (st := [.int ((a2 12).getD l2_2.toNatClampNeg 0), .ref 10]) (h := ks i2 a2 q2 r2) (i := (.invokevirtual 32, 3, 19, 0, 9, 0, 225)) (by rfl) (by rfl) (cy := mi_c19) rfl rfl (kc19_10 hL2.I hL2.R ((a2 12).getD l2_2.toNatClampNeg 0)) (by decide) ?_
              intro ig14 ag14 qg14 rg14 kg14 hg14
              have hGg14 := kG_call hL2 kg14 (by decide +kernel)
              have s15 : (l3_2 + 1).toInt = l3_2.toInt + (1 : Int32).toInt := kd_add (oz12 p2_0 kn1) (oz1036 c5 kn121 kn1)
              refine ko_steps mi_in21 3 _ (9, [(3, .int (l3_2 + 1)), (2, .int (l2_2 + 1)), (5, .int ((a2 12).getD l2_2.toNatClampNeg 0)), (4, .int ((a2 11).getD l2_2.toNatClampNeg 0)), (0, .ref 10), (1, .ref 73)], [], (0, 0), ks ig14 ag14 qg14 rg14) (by rfl) ?_
              refine ko_perm [(3, .int (l3_2 + 1)), (2, .int (l2_2 + 1)), (0, .ref 10), (1, .ref 73)] (List.forall_mem_cons.mpr ⟨(List.Mem.head _), (List.forall_mem_cons.mpr ⟨(List.Mem.tail _ (List.Mem.head _)), (List.forall_mem_cons.mpr ⟨(List.Mem.tail _ (List.Mem.tail _ (List.Mem.tail _ (List.Mem.tail _ (List.Mem.head _))))), (List.forall_mem_cons.mpr ⟨(List.Mem.tail _ (List.Mem.tail _ (List.Mem.tail _ (List.Mem.tail _ (List.Mem.tail _ (List.Mem.head _)))))), (fun _ h => absurd h List.not_mem_nil)⟩)⟩)⟩)⟩) ?_
              exact ih2 _ _ _ _ _ _ hGg14 (oz14 p2_0 s15 kn1) (kj_meas (oz1037 s15 kn1) (oz1038 c5 kn121) hm2)
            by_cases w16 : ((a2 11).getD l2_2.toNatClampNeg 0).toInt = 1
            ·
              refine ko_eq (x1 := (48, [(2, .int (l2_2 + 1)), (5, .int ((a2 12).getD l2_2.toNatClampNeg 0)), (4, .int ((a2 11).getD l2_2.toNatClampNeg 0)), (3, .int l3_2), (0, .ref 10), (1, .ref 73)], [.int 1], (0, 0), ks i2 a2 q2 r2)) (by rw [(kj_eq w16 (by decide) : ((a2 11).getD l2_2.toNatClampNeg 0) = 1)]) ?_
              refine ko_steps mi_in21 3 _ (120, [(2, .int (l2_2 + 1)), (5, .int ((a2 12).getD l2_2.toNatClampNeg 0)), (4, .int ((a2 11).getD l2_2.toNatClampNeg 0)), (3, .int l3_2), (0, .ref 10), (1, .ref 73)], [.int ((a2 12).getD l2_2.toNatClampNeg 0), .ref 10], (0, 0), ks i2 a2 q2 r2) (by rfl) ?_
              refine ko_if mi_in21 (decide (((a2 12).getD l2_2.toNatClampNeg 0) < 0)) 137 123 ([(2, .int (l2_2 + 1)), (5, .int ((a2 12).getD l2_2.toNatClampNeg 0)), (4, .int ((a2 11).getD l2_2.toNatClampNeg 0)), (3, .int l3_2), (0, .ref 10), (1, .ref 73)], [.ref 10], (0, 0), ks i2 a2 q2 r2) (by rfl) (fun c => ?_) (fun c => ?_)
              ·
                have c17 : ((a2 12).getD l2_2.toNatClampNeg 0).toInt < (0 : Int32).toInt := kd_lt c; clear c
                refine ko_steps mi_in21 1 _ (138, [(2, .int (l2_2 + 1)), (5, .int ((a2 12).getD l2_2.toNatClampNeg 0)), (4, .int ((a2 11).getD l2_2.toNatClampNeg 0)), (3, .int l3_2), (0, .ref 10), (1, .ref 73)], [.int 0, .ref 10], (0, 0), ks i2 a2 q2 r2) (by rfl) ?_
                refine ko_callN mi_in21 (pc := 138) (ls := [(2, .int (l2_2 + 1)), (5, .int ((a2 12).getD l2_2.toNatClampNeg 0)), (4, .int ((a2 11).getD l2_2.toNatClampNeg 0)), (3, .int l3_2), (0, .ref 10), (1, .ref 73)]) (st := [.int 0, .ref 10]) (h := ks i2 a2 q2 r2) (i := (.invokevirtual 32, 3, 19, 0, 9, 0, 225)) (by rfl) (by rfl) (cy := mi_c19) rfl rfl (kc19_10 hL2.I hL2.R 0) (by decide) ?_
                intro ig18 ag18 qg18 rg18 kg18 hg18
                have hGg18 := kG_call hL2 kg18 (by decide +kernel)
                have s19 : (l3_2 + 1).toInt = l3_2.toInt + (1 : Int32).toInt := kd_add (oz12 p2_0 kn1) (oz1036 c5 kn121 kn1)
                refine ko_steps mi_in21 3 _ (9, [(3, .int (l3_2 + 1)), (2, .int (l2_2 + 1)), (5, .int ((a2 12).getD l2_2.toNatClampNeg 0)), (4, .int ((a2 11).getD l2_2.toNatClampNeg 0)), (0, .ref 10), (1, .ref 73)], [], (0, 0), ks ig18 ag18 qg18 rg18) (by rfl) ?_
                refine ko_perm [(3, .int (l3_2 + 1)), (2, .int (l2_2 + 1)), (0, .ref 10), (1, .ref 73)] (List.forall_mem_cons.mpr ⟨(List.Mem.head _), (List.forall_mem_cons.mpr ⟨(List.Mem.tail _ (List.Mem.head _)), (List.forall_mem_cons.mpr ⟨(List.Mem.tail _ (List.Mem.tail _ (List.Mem.tail _ (List.Mem.tail _ (List.Mem.head _))))), (List.forall_mem_cons.mpr ⟨(List.Mem.tail _ (List.Mem.tail _ (List.Mem.tail _ (List.Mem.tail _ (List.Mem.tail _ (List.Mem.head _)))))), (fun _ h => absurd h List.not_mem_nil)⟩)⟩)⟩)⟩) ?_
                exact ih2 _ _ _ _ _ _ hGg18 (oz14 p2_0 s19 kn1) (kj_meas (oz1037 s19 kn1) (oz1038 c5 kn121) hm2)
              ·
                have c20 : (0 : Int32).toInt ≤ ((a2 12).getD l2_2.toNatClampNeg 0).toInt := kd_ltF c; clear c
                refine ko_steps mi_in21 2 _ (126, [(2, .int (l2_2 + 1)), (5, .int ((a2 12).getD l2_2.toNatClampNeg 0)), (4, .int ((a2 11).getD l2_2.toNatClampNeg 0)), (3, .int l3_2), (0, .ref 10), (1, .ref 73)], [.ref 73, .int ((a2 12).getD l2_2.toNatClampNeg 0), .ref 10], (0, 0), ks i2 a2 q2 r2) (by rfl) ?_
                refine ko_alen mi_in21 (l := a2 73) (ax := (0, 0, 0, 0, 0)) (x := 6) (by rfl) (by rfl) (by rfl) (by rw [(hL2.I.2.1 73 : (a2 73).length = _)]; rfl) ?_
                refine ko_if mi_in21 (decide (6 ≤ ((a2 12).getD l2_2.toNatClampNeg 0))) 137 130 ([(2, .int (l2_2 + 1)), (5, .int ((a2 12).getD l2_2.toNatClampNeg 0)), (4, .int ((a2 11).getD l2_2.toNatClampNeg 0)), (3, .int l3_2), (0, .ref 10), (1, .ref 73)], [.ref 10], (0, 0), ks i2 a2 q2 r2) (by rfl) (fun c => ?_) (fun c => ?_)
                ·
                  have c21 : (6 : Int32).toInt ≤ ((a2 12).getD l2_2.toNatClampNeg 0).toInt := kd_le c; clear c
                  refine ko_steps mi_in21 1 _ (138, [(2, .int (l2_2 + 1)), (5, .int ((a2 12).getD l2_2.toNatClampNeg 0)), (4, .int ((a2 11).getD l2_2.toNatClampNeg 0)), (3, .int l3_2), (0, .ref 10), (1, .ref 73)], [.int 0, .ref 10], (0, 0), ks i2 a2 q2 r2) (by rfl) ?_
                  refine ko_callN mi_in21 (pc := 138) (ls := [(2, .int (l2_2 + 1)), (5, .int ((a2 12).getD l2_2.toNatClampNeg 0)), (4, .int ((a2 11).getD l2_2.toNatClampNeg 0)), (3, .int l3_2), (0, .ref 10), (1, .ref 73)]) (st := [.int 0, .ref 10]) (h := ks i2 a2 q2 r2) (i := (.invokevirtual 32, 3, 19, 0, 9, 0, 225)) (by rfl) (by rfl) (cy := mi_c19) rfl rfl (kc19_10 hL2.I hL2.R 0) (by decide) ?_
                  intro ig22 ag22 qg22 rg22 kg22 hg22
                  have hGg22 := kG_call hL2 kg22 (by decide +kernel)
                  have s23 : (l3_2 + 1).toInt = l3_2.toInt + (1 : Int32).toInt := kd_add (oz12 p2_0 kn1) (oz1036 c5 kn121 kn1)
                  refine ko_steps mi_in21 3 _ (9, [(3, .int (l3_2 + 1)), (2, .int (l2_2 + 1)), (5, .int ((a2 12).getD l2_2.toNatClampNeg 0)), (4, .int ((a2 11).getD l2_2.toNatClampNeg 0)), (0, .ref 10), (1, .ref 73)], [], (0, 0), ks ig22 ag22 qg22 rg22) (by rfl) ?_
                  refine ko_perm [(3, .int (l3_2 + 1)), (2, .int (l2_2 + 1)), (0, .ref 10), (1, .ref 73)] (List.forall_mem_cons.mpr ⟨(List.Mem.head _), (List.forall_mem_cons.mpr ⟨(List.Mem.tail _ (List.Mem.head _)), (List.forall_mem_cons.mpr ⟨(List.Mem.tail _ (List.Mem.tail _ (List.Mem.tail _ (List.Mem.tail _ (List.Mem.head _))))), (List.forall_mem_cons.mpr ⟨(List.Mem.tail _ (List.Mem.tail _ (List.Mem.tail _ (List.Mem.tail _ (List.Mem.tail _ (List.Mem.head _)))))), (fun _ h => absurd h List.not_mem_nil)⟩)⟩)⟩)⟩) ?_
                  exact ih2 _ _ _ _ _ _ hGg22 (oz14 p2_0 s23 kn1) (kj_meas (oz1037 s23 kn1) (oz1038 c5 kn121) hm2)
                ·
                  have c24 : ((a2 12).getD l2_2.toNatClampNeg 0).toInt < (6 : Int32).toInt := kd_leF c; clear c
                  refine ko_steps mi_in21 2 _ (133, [(2, .int (l2_2 + 1)), (5, .int ((a2 12).getD l2_2.toNatClampNeg 0)), (4, .int ((a2 11).getD l2_2.toNatClampNeg 0)), (3, .int l3_2), (0, .ref 10), (1, .ref 73)], [.int ((a2 12).getD l2_2.toNatClampNeg 0), .ref 73, .ref 10], (0, 0), ks i2 a2 q2 r2) (by rfl) ?_
                  refine ko_iald3 mi_in21 (n := 6) (c := 6) (ax := (0, 0, 0, 0, 0)) (by rfl) (by rfl) (ksG73 _ _ _ _) (hL2.I.2.1 73) rfl (oz389 c20 kn0) (oz1039 c24 kn6) ?_
                  refine ko_steps mi_in21 1 _ (138, [(2, .int (l2_2 + 1)), (5, .int ((a2 12).getD l2_2.toNatClampNeg 0)), (4, .int ((a2 11).getD l2_2.toNatClampNeg 0)), (3, .int l3_2), (0, .ref 10), (1, .ref 73)], [.int ((a2 73).getD ((a2 12).getD l2_2.toNatClampNeg 0).toNatClampNeg 0), .ref 10], (0, 0), ks i2 a2 q2 r2) (by rfl) ?_
                  refine ko_callN mi_in21 (pc := 138) (ls := [(2, .int (l2_2 + 1)), (5, .int ((a2 12).getD l2_2.toNatClampNeg 0)), (4, .int ((a2 11).getD l2_2.toNatClampNeg 0)), (3, .int l3_2), (0, .ref 10), (1, .ref 73)]) (st := [.int ((a2 73).getD ((a2 12).getD l2_2.toNatClampNeg 0).toNatClampNeg 0), .ref 10]) (h := ks i2 a2 q2 r2) (i := (.invokevirtual 32, 3, 19, 0, 9, 0, 225)) (by rfl) (by rfl) (cy := mi_c19) rfl rfl (kc19_10 hL2.I hL2.R ((a2 73).getD ((a2 12).getD l2_2.toNatClampNeg 0).toNatClampNeg 0)) (by decide) ?_
                  intro ig25 ag25 qg25 rg25 kg25 hg25
                  have hGg25 := kG_call hL2 kg25 (by decide +kernel)
                  have s26 : (l3_2 + 1).toInt = l3_2.toInt + (1 : Int32).toInt := kd_add (oz12 p2_0 kn1) (oz1036 c5 kn121 kn1)
                  refine ko_steps mi_in21 3 _ (9, [(3, .int (l3_2 + 1)), (2, .int (l2_2 + 1)), (5, .int ((a2 12).getD l2_2.toNatClampNeg 0)), (4, .int ((a2 11).getD l2_2.toNatClampNeg 0)), (0, .ref 10), (1, .ref 73)], [], (0, 0), ks ig25 ag25 qg25 rg25) (by rfl) ?_
                  refine ko_perm [(3, .int (l3_2 + 1)), (2, .int (l2_2 + 1)), (0, .ref 10), (1, .ref 73)] (List.forall_mem_cons.mpr ⟨(List.Mem.head _), (List.forall_mem_cons.mpr ⟨(List.Mem.tail _ (List.Mem.head _)), (List.forall_mem_cons.mpr ⟨(List.Mem.tail _ (List.Mem.tail _ (List.Mem.tail _ (List.Mem.tail _ (List.Mem.head _))))), (List.forall_mem_cons.mpr ⟨(List.Mem.tail _ (List.Mem.tail _ (List.Mem.tail _ (List.Mem.tail _ (List.Mem.tail _ (List.Mem.head _)))))), (fun _ h => absurd h List.not_mem_nil)⟩)⟩)⟩)⟩) ?_
                  exact ih2 _ _ _ _ _ _ hGg25 (oz14 p2_0 s26 kn1) (kj_meas (oz1037 s26 kn1) (oz1038 c5 kn121) hm2)
            by_cases w27 : ((a2 11).getD l2_2.toNatClampNeg 0).toInt = 2
            ·
              refine ko_eq (x1 := (48, [(2, .int (l2_2 + 1)), (5, .int ((a2 12).getD l2_2.toNatClampNeg 0)), (4, .int ((a2 11).getD l2_2.toNatClampNeg 0)), (3, .int l3_2), (0, .ref 10), (1, .ref 73)], [.int 2], (0, 0), ks i2 a2 q2 r2)) (by rw [(kj_eq w27 (by decide) : ((a2 11).getD l2_2.toNatClampNeg 0) = 2)]) ?_
              refine ko_steps mi_in21 1 _ (144, [(2, .int (l2_2 + 1)), (5, .int ((a2 12).getD l2_2.toNatClampNeg 0)), (4, .int ((a2 11).getD l2_2.toNatClampNeg 0)), (3, .int l3_2), (0, .ref 10), (1, .ref 73)], [], (0, 0), ks i2 a2 q2 r2) (by rfl) ?_
              have hG28 := kG_call hJ1 hL2 (by decide +kernel)
              refine ko_steps mi_in21 1 _ (145, [(2, .int (l2_2 + 1)), (5, .int ((a2 12).getD l2_2.toNatClampNeg 0)), (4, .int ((a2 11).getD l2_2.toNatClampNeg 0)), (3, .int l3_2), (0, .ref 10), (1, .ref 73)], [.ref 10], (0, 0), ks i2 a2 q2 r2) (by rfl) ?_
              refine ko_callI mi_in21 (pc := 145) (ls := [(2, .int (l2_2 + 1)), (5, .int ((a2 12).getD l2_2.toNatClampNeg 0)), (4, .int ((a2 11).getD l2_2.toNatClampNeg 0)), (3, .int l3_2), (0, .ref 10), (1, .ref 73)]) (st := [.ref 10]) (h := ks i2 a2 q2 r2) (i := (.invokevirtual 36, 3, 20, 0, 9, 0, 226)) (by rfl) (by rfl) (cy := mi_c20) rfl rfl (kc20_10 hG28.I hG28.R ) (by decide) ?_
              intro vg29 ig29 ag29 qg29 rg29 kg29 hg29
              have hGg29 := kG_call hG28 kg29 (by decide +kernel)
              exact ko_ret mi_in21 (by rfl) (hP vg29 _ _ _ _ hGg29 trivial)
            by_cases w30 : ((a2 11).getD l2_2.toNatClampNeg 0).toInt = 3
            ·
              refine ko_eq (x1 := (48, [(2, .int (l2_2 + 1)), (5, .int ((a2 12).getD l2_2.toNatClampNeg 0)), (4, .int ((a2 11).getD l2_2.toNatClampNeg 0)), (3, .int l3_2), (0, .ref 10), (1, .ref 73)], [.int 3], (0, 0), ks i2 a2 q2 r2)) (by rw [(kj_eq w30 (by decide) : ((a2 11).getD l2_2.toNatClampNeg 0) = 3)]) ?_
              refine ko_steps mi_in21 2 _ (150, [(2, .int (l2_2 + 1)), (5, .int ((a2 12).getD l2_2.toNatClampNeg 0)), (4, .int ((a2 11).getD l2_2.toNatClampNeg 0)), (3, .int l3_2), (0, .ref 10), (1, .ref 73)], [.ref 10], (0, 0), ks i2 a2 q2 r2) (by rfl) ?_
              refine ko_callI mi_in21 (pc := 150) (ls := [(2, .int (l2_2 + 1)), (5, .int ((a2 12).getD l2_2.toNatClampNeg 0)), (4, .int ((a2 11).getD l2_2.toNatClampNeg 0)), (3, .int l3_2), (0, .ref 10), (1, .ref 73)]) (st := [.ref 10]) (h := ks i2 a2 q2 r2) (i := (.invokevirtual 36, 3, 20, 0, 9, 0, 226)) (by rfl) (by rfl) (cy := mi_c20) rfl rfl (kc20_10 hL2.I hL2.R ) (by decide) ?_
              intro vg31 ig31 ag31 qg31 rg31 kg31 hg31
              have hGg31 := kG_call hL2 kg31 (by decide +kernel)
              refine ko_if mi_in21 (vg31 != 0) 214 156 ([(2, .int (l2_2 + 1)), (5, .int ((a2 12).getD l2_2.toNatClampNeg 0)), (4, .int ((a2 11).getD l2_2.toNatClampNeg 0)), (3, .int l3_2), (0, .ref 10), (1, .ref 73)], [], (0, 0), ks ig31 ag31 qg31 rg31) (by rfl) (fun c => ?_) (fun c => ?_)
              ·
                have c32 : vg31.toInt ≠ (0 : Int32).toInt := kd_ne c; clear c
                have s33 : (l3_2 + 1).toInt = l3_2.toInt + (1 : Int32).toInt := kd_add (oz12 p2_0 kn1) (oz1036 c5 kn121 kn1)
                refine ko_steps mi_in21 2 _ (9, [(3, .int (l3_2 + 1)), (2, .int (l2_2 + 1)), (5, .int ((a2 12).getD l2_2.toNatClampNeg 0)), (4, .int ((a2 11).getD l2_2.toNatClampNeg 0)), (0, .ref 10), (1, .ref 73)], [], (0, 0), ks ig31 ag31 qg31 rg31) (by rfl) ?_
                refine ko_perm [(3, .int (l3_2 + 1)), (2, .int (l2_2 + 1)), (0, .ref 10), (1, .ref 73)] (List.forall_mem_cons.mpr ⟨(List.Mem.head _), (List.forall_mem_cons.mpr ⟨(List.Mem.tail _ (List.Mem.head _)), (List.forall_mem_cons.mpr ⟨(List.Mem.tail _ (List.Mem.tail _ (List.Mem.tail _ (List.Mem.tail _ (List.Mem.head _))))), (List.forall_mem_cons.mpr ⟨(List.Mem.tail _ (List.Mem.tail _ (List.Mem.tail _ (List.Mem.tail _ (List.Mem.tail _ (List.Mem.head _)))))), (fun _ h => absurd h List.not_mem_nil)⟩)⟩)⟩)⟩) ?_
                exact ih2 _ _ _ _ _ _ hGg31 (oz14 p2_0 s33 kn1) (kj_meas (oz1037 s33 kn1) (oz1038 c5 kn121) hm2)
              ·
                have c34 : vg31.toInt = (0 : Int32).toInt := kd_neF c; clear c
                have s35 : (l3_2 + 1).toInt = l3_2.toInt + (1 : Int32).toInt := kd_add (oz12 p2_0 kn1) (oz1036 c5 kn121 kn1)
                refine ko_steps mi_in21 5 _ (9, [(3, .int (l3_2 + 1)), (2, .int ((a2 12).getD l2_2.toNatClampNeg 0)), (5, .int ((a2 12).getD l2_2.toNatClampNeg 0)), (4, .int ((a2 11).getD l2_2.toNatClampNeg 0)), (0, .ref 10), (1, .ref 73)], [], (0, 0), ks ig31 ag31 qg31 rg31) (by rfl) ?_
                refine ko_perm [(3, .int (l3_2 + 1)), (2, .int ((a2 12).getD l2_2.toNatClampNeg 0)), (0, .ref 10), (1, .ref 73)] (List.forall_mem_cons.mpr ⟨(List.Mem.head _), (List.forall_mem_cons.mpr ⟨(List.Mem.tail _ (List.Mem.head _)), (List.forall_mem_cons.mpr ⟨(List.Mem.tail _ (List.Mem.tail _ (List.Mem.tail _ (List.Mem.tail _ (List.Mem.head _))))), (List.forall_mem_cons.mpr ⟨(List.Mem.tail _ (List.Mem.tail _ (List.Mem.tail _ (List.Mem.tail _ (List.Mem.tail _ (List.Mem.head _)))))), (fun _ h => absurd h List.not_mem_nil)⟩)⟩)⟩)⟩) ?_
                exact ih2 _ _ _ _ _ _ hGg31 (oz14 p2_0 s35 kn1) (kj_meas (oz1037 s35 kn1) (oz1038 c5 kn121) hm2)
            by_cases w36 : ((a2 11).getD l2_2.toNatClampNeg 0).toInt = 33
            ·
              refine ko_eq (x1 := (48, [(2, .int (l2_2 + 1)), (5, .int ((a2 12).getD l2_2.toNatClampNeg 0)), (4, .int ((a2 11).getD l2_2.toNatClampNeg 0)), (3, .int l3_2), (0, .ref 10), (1, .ref 73)], [.int 33], (0, 0), ks i2 a2 q2 r2)) (by rw [(kj_eq w36 (by decide) : ((a2 11).getD l2_2.toNatClampNeg 0) = 33)]) ?_
              refine ko_steps mi_in21 3 _ (164, [(2, .int (l2_2 + 1)), (5, .int ((a2 12).getD l2_2.toNatClampNeg 0)), (4, .int ((a2 11).getD l2_2.toNatClampNeg 0)), (3, .int l3_2), (0, .ref 10), (1, .ref 73)], [.ref 10, .ref 10], (0, 0), ks i2 a2 q2 r2) (by rfl) ?_
              refine ko_callI mi_in21 (pc := 164) (ls := [(2, .int (l2_2 + 1)), (5, .int ((a2 12).getD l2_2.toNatClampNeg 0)), (4, .int ((a2 11).getD l2_2.toNatClampNeg 0)), (3, .int l3_2), (0, .ref 10), (1, .ref 73)]) (st := [.ref 10, .ref 10]) (h := ks i2 a2 q2 r2) (i := (.invokevirtual 36, 3, 20, 0, 9, 0, 226)) (by rfl) (by rfl) (cy := mi_c20) rfl rfl (kc20_10 hL2.I hL2.R ) (by decide) ?_
              intro vg37 ig37 ag37 qg37 rg37 kg37 hg37
              have hGg37 := kG_call hL2 kg37 (by decide +kernel)
              refine ko_if mi_in21 (vg37 != 0) 174 170 ([(2, .int (l2_2 + 1)), (5, .int ((a2 12).getD l2_2.toNatClampNeg 0)), (4, .int ((a2 11).getD l2_2.toNatClampNeg 0)), (3, .int l3_2), (0, .ref 10), (1, .ref 73)], [.ref 10], (0, 0), ks ig37 ag37 qg37 rg37) (by rfl) (fun c => ?_) (fun c => ?_)
              ·
                have c38 : vg37.toInt ≠ (0 : Int32).toInt := kd_ne c; clear c
                refine ko_steps mi_in21 1 _ (175, [(2, .int (l2_2 + 1)), (5, .int ((a2 12).getD l2_2.toNatClampNeg 0)), (4, .int ((a2 11).getD l2_2.toNatClampNeg 0)), (3, .int l3_2), (0, .ref 10), (1, .ref 73)], [.int 0, .ref 10], (0, 0), ks ig37 ag37 qg37 rg37) (by rfl) ?_
                refine ko_callN mi_in21 (pc := 175) (ls := [(2, .int (l2_2 + 1)), (5, .int ((a2 12).getD l2_2.toNatClampNeg 0)), (4, .int ((a2 11).getD l2_2.toNatClampNeg 0)), (3, .int l3_2), (0, .ref 10), (1, .ref 73)]) (st := [.int 0, .ref 10]) (h := ks ig37 ag37 qg37 rg37) (i := (.invokevirtual 32, 3, 19, 0, 9, 0, 225)) (by rfl) (by rfl) (cy := mi_c19) rfl rfl (kc19_10 hGg37.I hGg37.R 0) (by decide) ?_
                intro ig39 ag39 qg39 rg39 kg39 hg39
                have hGg39 := kG_call hGg37 kg39 (by decide +kernel)
                have s40 : (l3_2 + 1).toInt = l3_2.toInt + (1 : Int32).toInt := kd_add (oz12 p2_0 kn1) (oz1036 c5 kn121 kn1)
                refine ko_steps mi_in21 3 _ (9, [(3, .int (l3_2 + 1)), (2, .int (l2_2 + 1)), (5, .int ((a2 12).getD l2_2.toNatClampNeg 0)), (4, .int ((a2 11).getD l2_2.toNatClampNeg 0)), (0, .ref 10), (1, .ref 73)], [], (0, 0), ks ig39 ag39 qg39 rg39) (by rfl) ?_
                refine ko_perm [(3, .int (l3_2 + 1)), (2, .int (l2_2 + 1)), (0, .ref 10), (1, .ref 73)] (List.forall_mem_cons.mpr ⟨(List.Mem.head _), (List.forall_mem_cons.mpr ⟨(List.Mem.tail _ (List.Mem.head _)), (List.forall_mem_cons.mpr ⟨(List.Mem.tail _ (List.Mem.tail _ (List.Mem.tail _ (List.Mem.tail _ (List.Mem.head _))))), (List.forall_mem_cons.mpr ⟨(List.Mem.tail _ (List.Mem.tail _ (List.Mem.tail _ (List.Mem.tail _ (List.Mem.tail _ (List.Mem.head _)))))), (fun _ h => absurd h List.not_mem_nil)⟩)⟩)⟩)⟩) ?_
                exact ih2 _ _ _ _ _ _ hGg39 (oz14 p2_0 s40 kn1) (kj_meas (oz1037 s40 kn1) (oz1038 c5 kn121) hm2)
              ·
                have c41 : vg37.toInt = (0 : Int32).toInt := kd_neF c; clear c
                refine ko_steps mi_in21 2 _ (175, [(2, .int (l2_2 + 1)), (5, .int ((a2 12).getD l2_2.toNatClampNeg 0)), (4, .int ((a2 11).getD l2_2.toNatClampNeg 0)), (3, .int l3_2), (0, .ref 10), (1, .ref 73)], [.int 1, .ref 10], (0, 0), ks ig37 ag37 qg37 rg37) (by rfl) ?_
                refine ko_callN mi_in21 (pc := 175) (ls := [(2, .int (l2_2 + 1)), (5, .int ((a2 12).getD l2_2.toNatClampNeg 0)), (4, .int ((a2 11).getD l2_2.toNatClampNeg 0)), (3, .int l3_2), (0, .ref 10), (1, .ref 73)]) (st := [.int 1, .ref 10]) (h := ks ig37 ag37 qg37 rg37) (i := (.invokevirtual 32, 3, 19, 0, 9, 0, 225)) (by rfl) (by rfl) (cy := mi_c19) rfl rfl (kc19_10 hGg37.I hGg37.R 1) (by decide) ?_
                intro ig42 ag42 qg42 rg42 kg42 hg42
                have hGg42 := kG_call hGg37 kg42 (by decide +kernel)
                have s43 : (l3_2 + 1).toInt = l3_2.toInt + (1 : Int32).toInt := kd_add (oz12 p2_0 kn1) (oz1036 c5 kn121 kn1)
                refine ko_steps mi_in21 3 _ (9, [(3, .int (l3_2 + 1)), (2, .int (l2_2 + 1)), (5, .int ((a2 12).getD l2_2.toNatClampNeg 0)), (4, .int ((a2 11).getD l2_2.toNatClampNeg 0)), (0, .ref 10), (1, .ref 73)], [], (0, 0), ks ig42 ag42 qg42 rg42) (by rfl) ?_
                refine ko_perm [(3, .int (l3_2 + 1)), (2, .int (l2_2 + 1)), (0, .ref 10), (1, .ref 73)] (List.forall_mem_cons.mpr ⟨(List.Mem.head _), (List.forall_mem_cons.mpr ⟨(List.Mem.tail _ (List.Mem.head _)), (List.forall_mem_cons.mpr ⟨(List.Mem.tail _ (List.Mem.tail _ (List.Mem.tail _ (List.Mem.tail _ (List.Mem.head _))))), (List.forall_mem_cons.mpr ⟨(List.Mem.tail _ (List.Mem.tail _ (List.Mem.tail _ (List.Mem.tail _ (List.Mem.tail _ (List.Mem.head _)))))), (fun _ h => absurd h List.not_mem_nil)⟩)⟩)⟩)⟩) ?_
                exact ih2 _ _ _ _ _ _ hGg42 (oz14 p2_0 s43 kn1) (kj_meas (oz1037 s43 kn1) (oz1038 c5 kn121) hm2)
            by_cases w44 : ((a2 11).getD l2_2.toNatClampNeg 0).toInt = 126
            ·
              refine ko_eq (x1 := (48, [(2, .int (l2_2 + 1)), (5, .int ((a2 12).getD l2_2.toNatClampNeg 0)), (4, .int ((a2 11).getD l2_2.toNatClampNeg 0)), (3, .int l3_2), (0, .ref 10), (1, .ref 73)], [.int 126], (0, 0), ks i2 a2 q2 r2)) (by rw [(kj_eq w44 (by decide) : ((a2 11).getD l2_2.toNatClampNeg 0) = 126)]) ?_
              refine ko_steps mi_in21 3 _ (183, [(2, .int (l2_2 + 1)), (5, .int ((a2 12).getD l2_2.toNatClampNeg 0)), (4, .int ((a2 11).getD l2_2.toNatClampNeg 0)), (3, .int l3_2), (0, .ref 10), (1, .ref 73)], [.ref 10, .ref 10], (0, 0), ks i2 a2 q2 r2) (by rfl) ?_
              refine ko_callI mi_in21 (pc := 183) (ls := [(2, .int (l2_2 + 1)), (5, .int ((a2 12).getD l2_2.toNatClampNeg 0)), (4, .int ((a2 11).getD l2_2.toNatClampNeg 0)), (3, .int l3_2), (0, .ref 10), (1, .ref 73)]) (st := [.ref 10, .ref 10]) (h := ks i2 a2 q2 r2) (i := (.invokevirtual 36, 3, 20, 0, 9, 0, 226)) (by rfl) (by rfl) (cy := mi_c20) rfl rfl (kc20_10 hL2.I hL2.R ) (by decide) ?_
              intro vg45 ig45 ag45 qg45 rg45 kg45 hg45
              have hGg45 := kG_call hL2 kg45 (by decide +kernel)
              refine ko_steps mi_in21 1 _ (187, [(2, .int (l2_2 + 1)), (5, .int ((a2 12).getD l2_2.toNatClampNeg 0)), (4, .int ((a2 11).getD l2_2.toNatClampNeg 0)), (3, .int l3_2), (0, .ref 10), (1, .ref 73)], [.int (-vg45), .ref 10], (0, 0), ks ig45 ag45 qg45 rg45) (by rfl) ?_
              refine ko_callN mi_in21 (pc := 187) (ls := [(2, .int (l2_2 + 1)), (5, .int ((a2 12).getD l2_2.toNatClampNeg 0)), (4, .int ((a2 11).getD l2_2.toNatClampNeg 0)), (3, .int l3_2), (0, .ref 10), (1, .ref 73)]) (st := [.int (-vg45), .ref 10]) (h := ks ig45 ag45 qg45 rg45) (i := (.invokevirtual 32, 3, 19, 0, 9, 0, 225)) (by rfl) (by rfl) (cy := mi_c19) rfl rfl (kc19_10 hGg45.I hGg45.R (-vg45)) (by decide) ?_
              intro ig46 ag46 qg46 rg46 kg46 hg46
              have hGg46 := kG_call hGg45 kg46 (by decide +kernel)
              have s47 : (l3_2 + 1).toInt = l3_2.toInt + (1 : Int32).toInt := kd_add (oz12 p2_0 kn1) (oz1036 c5 kn121 kn1)
              refine ko_steps mi_in21 3 _ (9, [(3, .int (l3_2 + 1)), (2, .int (l2_2 + 1)), (5, .int ((a2 12).getD l2_2.toNatClampNeg 0)), (4, .int ((a2 11).getD l2_2.toNatClampNeg 0)), (0, .ref 10), (1, .ref 73)], [], (0, 0), ks ig46 ag46 qg46 rg46) (by rfl) ?_
              refine ko_perm [(3, .int (l3_2 + 1)), (2, .int (l2_2 + 1)), (0, .ref 10), (1, .ref 73)] (List.forall_mem_cons.mpr ⟨(List.Mem.head _), (List.forall_mem_cons.mpr ⟨(List.Mem.tail _ (List.Mem.head _)), (List.forall_mem_cons.mpr ⟨(List.Mem.tail _ (List.Mem.tail _ (List.Mem.tail _ (List.Mem.tail _ (List.Mem.head _))))), (List.forall_mem_cons.mpr ⟨(List.Mem.tail _ (List.Mem.tail _ (List.Mem.tail _ (List.Mem.tail _ (List.Mem.tail _ (List.Mem.head _)))))), (fun _ h => absurd h List.not_mem_nil)⟩)⟩)⟩)⟩) ?_
              exact ih2 _ _ _ _ _ _ hGg46 (oz14 p2_0 s47 kn1) (kj_meas (oz1037 s47 kn1) (oz1038 c5 kn121) hm2)
            refine ko_lsw (ls := [(2, .int (l2_2 + 1)), (5, .int ((a2 12).getD l2_2.toNatClampNeg 0)), (4, .int ((a2 11).getD l2_2.toNatClampNeg 0)), (3, .int l3_2), (0, .ref 10), (1, .ref 73)]) (r := []) (h := ks i2 a2 q2 r2) mi_in21 (v := ((a2 11).getD l2_2.toNatClampNeg 0)) (i := (.lookupswitch 145 #[(0, 60), (1, 69), (2, 96), (3, 101), (33, 114), (126, 133)], 60, 0, 0, 0, 0, 0)) (by rfl) rfl (by simp only [Op.lookupswitch.offset, if_neg (Ne.symm w13), if_neg (Ne.symm w16), if_neg (Ne.symm w27), if_neg (Ne.symm w30), if_neg (Ne.symm w36), if_neg (Ne.symm w44)] <;> rfl) 193 (by rfl) ?_
            refine ko_steps mi_in21 1 _ (194, [(2, .int (l2_2 + 1)), (5, .int ((a2 12).getD l2_2.toNatClampNeg 0)), (4, .int ((a2 11).getD l2_2.toNatClampNeg 0)), (3, .int l3_2), (0, .ref 10), (1, .ref 73)], [.ref 10], (0, 0), ks i2 a2 q2 r2) (by rfl) ?_
            refine ko_callI mi_in21 (pc := 194) (ls := [(2, .int (l2_2 + 1)), (5, .int ((a2 12).getD l2_2.toNatClampNeg 0)), (4, .int ((a2 11).getD l2_2.toNatClampNeg 0)), (3, .int l3_2), (0, .ref 10), (1, .ref 73)]) (st := [.ref 10]) (h := ks i2 a2 q2 r2) (i := (.invokevirtual 36, 3, 20, 0, 9, 0, 226)) (by rfl) (by rfl) (cy := mi_c20) rfl rfl (kc20_10 hL2.I hL2.R ) (by decide) ?_
            intro vg48 ig48 ag48 qg48 rg48 kg48 hg48
            have hGg48 := kG_call hL2 kg48 (by decide +kernel)
            refine ko_steps mi_in21 4 _ (203, [(6, .int vg48), (2, .int (l2_2 + 1)), (5, .int ((a2 12).getD l2_2.toNatClampNeg 0)), (4, .int ((a2 11).getD l2_2.toNatClampNeg 0)), (3, .int l3_2), (0, .ref 10), (1, .ref 73)], [.ref 10, .int ((a2 11).getD l2_2.toNatClampNeg 0), .ref 10], (0, 0), ks ig48 ag48 qg48 rg48) (by rfl) ?_
            refine ko_callI mi_in21 (pc := 203) (ls := [(6, .int vg48), (2, .int (l2_2 + 1)), (5, .int ((a2 12).getD l2_2.toNatClampNeg 0)), (4, .int ((a2 11).getD l2_2.toNatClampNeg 0)), (3, .int l3_2), (0, .ref 10), (1, .ref 73)]) (st := [.ref 10, .int ((a2 11).getD l2_2.toNatClampNeg 0), .ref 10]) (h := ks ig48 ag48 qg48 rg48) (i := (.invokevirtual 36, 3, 20, 0, 9, 0, 226)) (by rfl) (by rfl) (cy := mi_c20) rfl rfl (kc20_10 hGg48.I hGg48.R ) (by decide) ?_
            intro vg49 ig49 ag49 qg49 rg49 kg49 hg49
            have hGg49 := kG_call hGg48 kg49 (by decide +kernel)
            refine ko_steps mi_in21 1 _ (208, [(6, .int vg48), (2, .int (l2_2 + 1)), (5, .int ((a2 12).getD l2_2.toNatClampNeg 0)), (4, .int ((a2 11).getD l2_2.toNatClampNeg 0)), (3, .int l3_2), (0, .ref 10), (1, .ref 73)], [.int vg48, .int vg49, .int ((a2 11).getD l2_2.toNatClampNeg 0), .ref 10], (0, 0), ks ig49 ag49 qg49 rg49) (by rfl) ?_
            refine ko_callPI mi_in21 (pc := 208) (ls := [(6, .int vg48), (2, .int (l2_2 + 1)), (5, .int ((a2 12).getD l2_2.toNatClampNeg 0)), (4, .int ((a2 11).getD l2_2.toNatClampNeg 0)), (3, .int l3_2), (0, .ref 10), (1, .ref 73)]) (st := [.int vg48, .int vg49, .int ((a2 11).getD l2_2.toNatClampNeg 0), .ref 10]) (h := ks ig49 ag49 qg49 rg49) (i := (.invokestatic 40, 3, 22, 0, 9, 0, 227)) (by rfl) (by rfl) (cy := mi_c22) rfl rfl (kc22 hGg49.I hGg49.R ((a2 11).getD l2_2.toNatClampNeg 0) vg49 vg48) (by decide) ?_
            intro vg50 hg50
            refine ko_callN mi_in21 (pc := 211) (ls := [(6, .int vg48), (2, .int (l2_2 + 1)), (5, .int ((a2 12).getD l2_2.toNatClampNeg 0)), (4, .int ((a2 11).getD l2_2.toNatClampNeg 0)), (3, .int l3_2), (0, .ref 10), (1, .ref 73)]) (st := [.int vg50, .ref 10]) (h := ks ig49 ag49 qg49 rg49) (i := (.invokevirtual 32, 3, 19, 0, 9, 0, 225)) (by rfl) (by rfl) (cy := mi_c19) rfl rfl (kc19_10 hGg49.I hGg49.R vg50) (by decide) ?_
            intro ig51 ag51 qg51 rg51 kg51 hg51
            have hGg51 := kG_call hGg49 kg51 (by decide +kernel)
            have s52 : (l3_2 + 1).toInt = l3_2.toInt + (1 : Int32).toInt := kd_add (oz12 p2_0 kn1) (oz1036 c5 kn121 kn1)
            refine ko_steps mi_in21 2 _ (9, [(3, .int (l3_2 + 1)), (6, .int vg48), (2, .int (l2_2 + 1)), (5, .int ((a2 12).getD l2_2.toNatClampNeg 0)), (4, .int ((a2 11).getD l2_2.toNatClampNeg 0)), (0, .ref 10), (1, .ref 73)], [], (0, 0), ks ig51 ag51 qg51 rg51) (by rfl) ?_
            refine ko_perm [(3, .int (l3_2 + 1)), (2, .int (l2_2 + 1)), (0, .ref 10), (1, .ref 73)] (List.forall_mem_cons.mpr ⟨(List.Mem.head _), (List.forall_mem_cons.mpr ⟨(List.Mem.tail _ (List.Mem.tail _ (List.Mem.head _))), (List.forall_mem_cons.mpr ⟨(List.Mem.tail _ (List.Mem.tail _ (List.Mem.tail _ (List.Mem.tail _ (List.Mem.tail _ (List.Mem.head _)))))), (List.forall_mem_cons.mpr ⟨(List.Mem.tail _ (List.Mem.tail _ (List.Mem.tail _ (List.Mem.tail _ (List.Mem.tail _ (List.Mem.tail _ (List.Mem.head _))))))), (fun _ h => absurd h List.not_mem_nil)⟩)⟩)⟩)⟩) ?_
            exact ih2 _ _ _ _ _ _ hGg51 (oz14 p2_0 s52 kn1) (kj_meas (oz1037 s52 kn1) (oz1038 c5 kn121) hm2)
  exact lp2 _ _ _ _ _ _ _ (kG_self _ hJ1.I hJ1.R) (oz46 kn0) (Nat.lt_succ_self _)
def w19_100 : kW := ([6405], [103], [], [])
set_option maxRecDepth 100000 in
theorem kc19_100 {i : Nat → Int32} {a : Nat → List Int32} {q : Nat → List Int64} {r : Nat → Nat} (hI : kI i a q) (hr : kr r) (x1 : Int32) : km 1 19 [.ref 100, .int x1] (ks i a q r) (kVN w19_100 i a q r (fun i1 a1 q1 r1 => True)) := by
  have hG := kG_self w19_100 hI hr
  refine km_ofN (q := (mi_h19, mi_c19)) rfl (by decide) (Nat.le_of_ble_eq_true rfl) ?_
  intro P hP
  have fi_6405 : ((0 : Int) ≤ (i 6405).toInt) ∧ ((i 6405).toInt ≤ 121) := hG.I.1 6405
  refine ko_steps mi_in19 3 _ (6, [(0, .ref 100), (1, .int x1)], [.int 121, .int (i 6405)], (0, 0), ks i a q r) (by rfl) ?_
  refine ko_if mi_in19 (decide (121 ≤ (i 6405))) 29 9 ([(0, .ref 100), (1, .int x1)], [], (0, 0), ks i a q r) (by rfl) (fun c => ?_) (fun c => ?_)
  ·
    have c1 : (121 : Int32).toInt ≤ (i 6405).toInt := kd_le c; clear c
    exact ko_ret mi_in19 (by rfl) (hP  _ _ _ _ hG trivial)
  ·
    have c2 : (i 6405).toInt < (121 : Int32).toInt := kd_leF c; clear c
    refine ko_steps mi_in19 5 _ (18, [(0, .ref 100), (1, .int x1)], [.int x1, .int (i 6405), .ref 103], (0, 0), ks i a q r) (by rfl) ?_
    refine ko_iast3 mi_in19 (n := 121) (c := 121) (ax := (0, 0, 0, 0, 0)) (by rfl) (by rfl) (ksG103 _ _ _ _) (ksA103 _ _ _ _) (hG.I.2.1 103) rfl (oz3 fi_6405.1) (oz912 c2 kn121) ?_
    intro a3 ea3 fa3
    have hJ3 := kG_a3 hG 103 rfl ea3 fa3 (kd_bd _)
    have s4 : ((i 6405) + 1).toInt = (i 6405).toInt + (1 : Int32).toInt := kd_add (oz12 fi_6405.1 kn1) (oz913 fi_6405.2 kn1)
    have hJ5 := kG_i hJ3 6405 rfl (v := ((i 6405) + 1)) ⟨(oz14 fi_6405.1 s4 kn1), (oz914 c2 s4 kn121 kn1)⟩
    refine ko_steps mi_in19 6 _ (29, [(0, .ref 100), (1, .int x1)], [], (0, 0), ks (ku i 6405 ((i 6405) + 1)) a3 q r) (by rfl) ?_
    exact ko_ret mi_in19 (by rfl) (hP  _ _ _ _ hJ5 trivial)
def w20_100 : kW := ([6405], [], [], [])
set_option maxRecDepth 100000 in
theorem kc20_100 {i : Nat → Int32} {a : Nat → List Int32} {q : Nat → List Int64} {r : Nat → Nat} (hI : kI i a q) (hr : kr r)  : km 1 20 [.ref 100] (ks i a q r) (kVI w20_100 i a q r (fun v i1 a1 q1 r1 => True)) := by
  have hG := kG_self w20_100 hI hr
  refine km_ofI (q := (mi_h20, mi_c20)) rfl (by decide) (Nat.le_of_ble_eq_true rfl) ?_
  intro P hP
  have fi_6405 : ((0 : Int) ≤ (i 6405).toInt) ∧ ((i 6405).toInt ≤ 121) := hG.I.1 6405
  refine ko_steps mi_in20 2 _ (4, [(0, .ref 100)], [.int (i 6405)], (0, 0), ks i a q r) (by rfl) ?_
  refine ko_if mi_in20 (decide (0 < (i 6405))) 9 7 ([(0, .ref 100)], [], (0, 0), ks i a q r) (by rfl) (fun c => ?_) (fun c => ?_)
  ·
    have c1 : (0 : Int32).toInt < (i 6405).toInt := kd_lt c; clear c
    have s2 : ((i 6405) - 1).toInt = (i 6405).toInt - (1 : Int32).toInt := kd_sub (oz1040 c1 kn0 kn1) (oz911 fi_6405.2 kn1)
    have hJ3 := kG_i hG 6405 rfl (v := ((i 6405) - 1)) ⟨(oz1041 c1 s2 kn0 kn1), (oz1042 fi_6405.2 s2 kn1)⟩
    refine ko_steps mi_in20 10 _ (27, [(0, .ref 100)], [.int ((i 6405) - 1), .ref 103], (0, 0), ks (ku i 6405 ((i 6405) - 1)) a q r) (by rfl) ?_
    refine ko_iald3 mi_in20 (n := 121) (c := 121) (ax := (0, 0, 0, 0, 0)) (by rfl) (by rfl) (ksG103 _ _ _ _) (hJ3.I.2.1 103) rfl (oz1041 c1 s2 kn0 kn1) (oz1043 fi_6405.2 s2 kn1) ?_
    exact ko_ret mi_in20 (by rfl) (hP ((a 103).getD ((i 6405) - 1).toNatClampNeg 0) _ _ _ _ hJ3 trivial)
  ·
    have c4 : (i 6405).toInt ≤ (0 : Int32).toInt := kd_ltF c; clear c
    refine ko_steps mi_in20 1 _ (8, [(0, .ref 100)], [.int 0], (0, 0), ks i a q r) (by rfl) ?_
    exact ko_ret mi_in20 (by rfl) (hP 0 _ _ _ _ hG trivial)
def w21_100_73 : kW := ([6405], [103], [], [])
def w21_100_73_L9 : kW := ([6405], [103], [], [])
set_option maxRecDepth 100000 in
theorem kc21_100_73 {i : Nat → Int32} {a : Nat → List Int32} {q : Nat → List Int64} {r : Nat → Nat} (hI : kI i a q) (hr : kr r)  : km 3 21 [.ref 100, .ref 73] (ks i a q r) (kVI w21_100_73 i a q r (fun v i1 a1 q1 r1 => True)) := by
  have hG := kG_self w21_100_73 hI hr
  refine km_ofI (q := (mi_h21, mi_c21)) rfl (by decide) (Nat.le_of_ble_eq_true rfl) ?_
  intro P hP
  have hJ1 := kG_i hG 6405 rfl (v := 0) ⟨(oz46 kn0), (oz1033 kn0)⟩
  refine ko_steps mi_in21 7 _ (9, [(3, .int 0), (2, .int 0), (0, .ref 100), (1, .ref 73)], [], (0, 0), ks (ku i 6405 0) a q r) (by rfl) ?_
  have lp2 : ∀ (n : Nat) (i2 : Nat → Int32) (a2 : Nat → List Int32) (q2 : Nat → List Int64) (r2 : Nat → Nat) (l3_2 : Int32) (l2_2 : Int32), kG w21_100_73_L9 (ku i 6405 0) a q r i2 a2 q2 r2 → (0 : Int) ≤ l3_2.toInt → ((121 - l3_2.toInt)).toNat < n → ko 3 (mi_h21, mi_c21) P (9, [(3, .int l3_2), (2, .int l2_2), (0, .ref 100), (1, .ref 73)], [], (0, 0), ks i2 a2 q2 r2) := by
    intro n
    induction n with
    | zero =>
      intro _ _ _ _ _ _ _ _ hm
      exact absurd hm (Nat.not_lt_zero _)
    | succ n ih2 =>
      intro i2 a2 q2 r2 l3_2 l2_2 hL2 p2_0 hm2
      refine ko_steps mi_in21 2 _ (12, [(3, .int l3_2), (2, .int l2_2), (0, .ref 100), (1, .ref 73)], [.int 121, .int l3_2], (0, 0), ks i2 a2 q2 r2) (by rfl) ?_
      refine ko_if mi_in21 (decide (121 ≤ l3_2)) 220 15 ([(3, .int l3_2), (2, .int l2_2), (0, .ref 100), (1, .ref 73)], [], (0, 0), ks i2 a2 q2 r2) (by rfl) (fun c => ?_) (fun c => ?_)
      ·
        have c3 : (121 : Int32).toInt ≤ l3_2.toInt := kd_le c; clear c
        have hG4 := kG_call hJ1 hL2 (by decide +kernel)
        refine ko_steps mi_in21 1 _ (221, [(3, .int l3_2), (2, .int l2_2), (0, .ref 100), (1, .ref 73)], [.int 0], (0, 0), ks i2 a2 q2 r2) (by rfl) ?_
        exact ko_ret mi_in21 (by rfl) (hP 0 _ _ _ _ hG4 trivial)
      ·
        have c5 : l3_2.toInt < (121 : Int32).toInt := kd_leF c; clear c
        refine ko_steps mi_in21 1 _ (16, [(3, .int l3_2), (2, .int l2_2), (0, .ref 100), (1, .ref 73)], [.int l2_2], (0, 0), ks i2 a2 q2 r2) (by rfl) ?_
        refine ko_if mi_in21 (decide (l2_2 < 0)) 220 19 ([(3, .int l3_2), (2, .int l2_2), (0, .ref 100), (1, .ref 73)], [], (0, 0), ks i2 a2 q2 r2) (by rfl) (fun c => ?_) (fun c => ?_)
        ·
          have c6 : l2_2.toInt < (0 : Int32).toInt := kd_lt c; clear c
          have hG7 := kG_call hJ1 hL2 (by decide +kernel)
          refine ko_steps mi_in21 1 _ (221, [(3, .int l3_2), (2, .int l2_2), (0, .ref 100), (1, .ref 73)], [.int 0], (0, 0), ks i2 a2 q2 r2) (by rfl) ?_
          exact ko_ret mi_in21 (by rfl) (hP 0 _ _ _ _ hG7 trivial)
        ·
          have c8 : (0 : Int32).toInt ≤ l2_2.toInt := kd_ltF c; clear c
          have fi2_6403 : ((0 : Int) ≤ (i2 6403).toInt) ∧ ((i2 6403).toInt ≤ 121) := hL2.I.1 6403
          have fi_6403 : ((0 : Int) ≤ (i 6403).toInt) ∧ ((i 6403).toInt ≤ 121) := hJ1.I.1 6403
          have efi2_6403 : (i2 6403).toInt = (i 6403).toInt := hL2.ti 6403 rfl
          refine ko_steps mi_in21 3 _ (24, [(3, .int l3_2), (2, .int l2_2), (0, .ref 100), (1, .ref 73)], [.int (i2 6403), .int l2_2], (0, 0), ks i2 a2 q2 r2) (by rfl) ?_
          refine ko_if mi_in21 (decide ((i2 6403) ≤ l2_2)) 220 27 ([(3, .int l3_2), (2, .int l2_2), (0, .ref 100), (1, .ref 73)], [], (0, 0), ks i2 a2 q2 r2) (by rfl) (fun c => ?_) (fun c => ?_)
          ·
            have c9 : (i2 6403).toInt ≤ l2_2.toInt := kd_le c; clear c
            have hG10 := kG_call hJ1 hL2 (by decide +kernel)
            refine ko_steps mi_in21 1 _ (221, [(3, .int l3_2), (2, .int l2_2), (0, .ref 100), (1, .ref 73)], [.int 0], (0, 0), ks i2 a2 q2 r2) (by rfl) ?_
            exact ko_ret mi_in21 (by rfl) (hP 0 _ _ _ _ hG10 trivial)
          ·
            have c11 : l2_2.toInt < (i2 6403).toInt := kd_leF c; clear c
            refine ko_steps mi_in21 3 _ (32, [(3, .int l3_2), (2, .int l2_2), (0, .ref 100), (1, .ref 73)], [.int l2_2, .ref 101], (0, 0), ks i2 a2 q2 r2) (by rfl) ?_
            refine ko_iald3 mi_in21 (n := 121) (c := 121) (ax := (0, 0, 0, 0, 0)) (by rfl) (by rfl) (ksG101 _ _ _ _) (hL2.I.2.1 101) rfl (oz389 c8 kn0) (oz1034 c11 fi2_6403.2) ?_
            refine ko_steps mi_in21 4 _ (40, [(4, .int ((a2 101).getD l2_2.toNatClampNeg 0)), (3, .int l3_2), (2, .int l2_2), (0, .ref 100), (1, .ref 73)], [.int l2_2, .ref 102], (0, 0), ks i2 a2 q2 r2) (by rfl) ?_
            refine ko_iald3 mi_in21 (n := 121) (c := 121) (ax := (0, 0, 0, 0, 0)) (by rfl) (by rfl) (ksG102 _ _ _ _) (hL2.I.2.1 102) rfl (oz389 c8 kn0) (oz1034 c11 fi2_6403.2) ?_
            have s12 : (l2_2 + 1).toInt = l2_2.toInt + (1 : Int32).toInt := kd_add (oz950 c8 kn0 kn1) (oz1035 c11 fi2_6403.2 kn1)
            refine ko_steps mi_in21 3 _ (48, [(2, .int (l2_2 + 1)), (5, .int ((a2 102).getD l2_2.toNatClampNeg 0)), (4, .int ((a2 101).getD l2_2.toNatClampNeg 0)), (3, .int l3_2), (0, .ref 100), (1, .ref 73)], [.int ((a2 101).getD l2_2.toNatClampNeg 0)], (0, 0), ks i2 a2 q2 r2) (by rfl) ?_
            by_cases w13 : ((a2 101).getD l2_2.toNatClampNeg 0).toInt = 0
            ·
              refine ko_eq (x1 := (48, [(2, .int (l2_2 + 1)), (5, .int ((a2 102).getD l2_2.toNatClampNeg 0)), (4, .int ((a2 101).getD l2_2.toNatClampNeg 0)), (3, .int l3_2), (0, .ref 100), (1, .ref 73)], [.int 0], (0, 0), ks i2 a2 q2 r2)) (by rw [(kj_eq w13 (by decide) : ((a2 101).getD l2_2.toNatClampNeg 0) = 0)]) ?_
              refine ko_steps mi_in21 3 _ (111, [(2, .int (l2_2 + 1)), (5, .int ((a2 102).getD l2_2.toNatClampNeg 0)), (4, .int ((a2 101).getD l2_2.toNatClampNeg 0)), (3, .int l3_2), (0, .ref 100), (1, .ref 73)], [.int ((a2 102).getD l2_2.toNatClampNeg 0), .ref 100], (0, 0), ks i2 a2 q2 r2) (by rfl) ?_
              refine ko_callN mi_in21 (pc := 111) (ls := [(2, .int (l2_2 + 1)), (5, .int ((a2 102).getD l2_2.toNatClampNeg 0)), (4, .int ((a2 101).getD l2_2.toNatClampNeg 0)), (3, .int l3_2), (0, .ref 100), (1, .ref 73)]) (st := [.int ((a2 102).getD l2_2.toNatClampNeg 0), .ref 100]) (h := ks i2 a2 q2 r2) (i := (.invokevirtual 32, 3, 19, 0, 9, 0, 225)) (by rfl) (by rfl) (cy := mi_c19) rfl rfl (kc19_100 hL2.I hL2.R ((a2 102).getD l2_2.toNatClampNeg 0)) (by decide) ?_
              intro ig14 ag14 qg14 rg14 kg14 hg14
              have hGg14 := kG_call hL2 kg14 (by decide +kernel)
              have s15 : (l3_2 + 1).toInt = l3_2.toInt + (1 : Int32).toInt := kd_add (oz12 p2_0 kn1) (oz1036 c5 kn121 kn1)
              refine ko_steps mi_in21 3 _ (9, [(3, .int (l3_2 + 1)), (2, .int (l2_2 + 1)), (5, .int ((a2 102).getD l2_2.toNatClampNeg 0)), (4, .int ((a2 101).getD l2_2.toNatClampNeg 0)), (0, .ref 100), (1, .ref 73)], [], (0, 0), ks ig14 ag14 qg14 rg14) (by rfl) ?_
              refine ko_perm [(3, .int (l3_2 + 1)), (2, .int (l2_2 + 1)), (0, .ref 100), (1, .ref 73)] (List.forall_mem_cons.mpr ⟨(List.Mem.head _), (List.forall_mem_cons.mpr ⟨(List.Mem.tail _ (List.Mem.head _)), (List.forall_mem_cons.mpr ⟨(List.Mem.tail _ (List.Mem.tail _ (List.Mem.tail _ (List.Mem.tail _ (List.Mem.head _))))), (List.forall_mem_cons.mpr ⟨(List.Mem.tail _ (List.Mem.tail _ (List.Mem.tail _ (List.Mem.tail _ (List.Mem.tail _ (List.Mem.head _)))))), (fun _ h => absurd h List.not_mem_nil)⟩)⟩)⟩)⟩) ?_
              exact ih2 _ _ _ _ _ _ hGg14 (oz14 p2_0 s15 kn1) (kj_meas (oz1037 s15 kn1) (oz1038 c5 kn121) hm2)
            by_cases w16 : ((a2 101).getD l2_2.toNatClampNeg 0).toInt = 1
            ·
              refine ko_eq (x1 := (48, [(2, .int (l2_2 + 1)), (5, .int ((a2 102).getD l2_2.toNatClampNeg 0)), (4, .int ((a2 101).getD l2_2.toNatClampNeg 0)), (3, .int l3_2), (0, .ref 100), (1, .ref 73)], [.int 1], (0, 0), ks i2 a2 q2 r2)) (by rw [(kj_eq w16 (by decide) : ((a2 101).getD l2_2.toNatClampNeg 0) = 1)]) ?_
              refine ko_steps mi_in21 3 _ (120, [(2, .int (l2_2 + 1)), (5, .int ((a2 102).getD l2_2.toNatClampNeg 0)), (4, .int ((a2 101).getD l2_2.toNatClampNeg 0)), (3, .int l3_2), (0, .ref 100), (1, .ref 73)], [.int ((a2 102).getD l2_2.toNatClampNeg 0), .ref 100], (0, 0), ks i2 a2 q2 r2) (by rfl) ?_
              refine ko_if mi_in21 (decide (((a2 102).getD l2_2.toNatClampNeg 0) < 0)) 137 123 ([(2, .int (l2_2 + 1)), (5, .int ((a2 102).getD l2_2.toNatClampNeg 0)), (4, .int ((a2 101).getD l2_2.toNatClampNeg 0)), (3, .int l3_2), (0, .ref 100), (1, .ref 73)], [.ref 100], (0, 0), ks i2 a2 q2 r2) (by rfl) (fun c => ?_) (fun c => ?_)
              ·
                have c17 : ((a2 102).getD l2_2.toNatClampNeg 0).toInt < (0 : Int32).toInt := kd_lt c; clear c
                refine ko_steps mi_in21 1 _ (138, [(2, .int (l2_2 + 1)), (5, .int ((a2 102).getD l2_2.toNatClampNeg 0)), (4, .int ((a2 101).getD l2_2.toNatClampNeg 0)), (3, .int l3_2), (0, .ref 100), (1, .ref 73)], [.int 0, .ref 100], (0, 0), ks i2 a2 q2 r2) (by rfl) ?_
                refine ko_callN mi_in21 (pc := 138) (ls := [(2, .int (l2_2 + 1)), (5, .int ((a2 102).getD l2_2.toNatClampNeg 0)), (4, .int ((a2 101).getD l2_2.toNatClampNeg 0)), (3, .int l3_2), (0, .ref 100), (1, .ref 73)]) (st := [.int 0, .ref 100]) (h := ks i2 a2 q2 r2) (i := (.invokevirtual 32, 3, 19, 0, 9, 0, 225)) (by rfl) (by rfl) (cy := mi_c19) rfl rfl (kc19_100 hL2.I hL2.R 0) (by decide) ?_
                intro ig18 ag18 qg18 rg18 kg18 hg18
                have hGg18 := kG_call hL2 kg18 (by decide +kernel)
                have s19 : (l3_2 + 1).toInt = l3_2.toInt + (1 : Int32).toInt := kd_add (oz12 p2_0 kn1) (oz1036 c5 kn121 kn1)
                refine ko_steps mi_in21 3 _ (9, [(3, .int (l3_2 + 1)), (2, .int (l2_2 + 1)), (5, .int ((a2 102).getD l2_2.toNatClampNeg 0)), (4, .int ((a2 101).getD l2_2.toNatClampNeg 0)), (0, .ref 100), (1, .ref 73)], [], (0, 0), ks ig18 ag18 qg18 rg18) (by rfl) ?_
                refine ko_perm [(3, .int (l3_2 + 1)), (2, .int (l2_2 + 1)), (0, .ref 100), (1, .ref 73)] (List.forall_mem_cons.mpr ⟨(List.Mem.head _), (List.forall_mem_cons.mpr ⟨(List.Mem.tail _ (List.Mem.head _)), (List.forall_mem_cons.mpr ⟨(List.Mem.tail _ (List.Mem.tail _ (List.Mem.tail _ (List.Mem.tail _ (List.Mem.head _))))), (List.forall_mem_cons.mpr ⟨(List.Mem.tail _ (List.Mem.tail _ (List.Mem.tail _ (List.Mem.tail _ (List.Mem.tail _ (List.Mem.head _)))))), (fun _ h => absurd h List.not_mem_nil)⟩)⟩)⟩)⟩) ?_
                exact ih2 _ _ _ _ _ _ hGg18 (oz14 p2_0 s19 kn1) (kj_meas (oz1037 s19 kn1) (oz1038 c5 kn121) hm2)
              ·
                have c20 : (0 : Int32).toInt ≤ ((a2 102).getD l2_2.toNatClampNeg 0).toInt := kd_ltF c; clear c
                refine ko_steps mi_in21 2 _ (126, [(2, .int (l2_2 + 1)), (5, .int ((a2 102).getD l2_2.toNatClampNeg 0)), (4, .int ((a2 101).getD l2_2.toNatClampNeg 0)), (3, .int l3_2), (0, .ref 100), (1, .ref 73)], [.ref 73, .int ((a2 102).getD l2_2.toNatClampNeg 0), .ref 100], (0, 0), ks i2 a2 q2 r2) (by rfl) ?_
                refine ko_alen mi_in21 (l := a2 73) (ax := (0, 0, 0, 0, 0)) (x := 6) (by rfl) (by rfl) (by rfl) (by rw [(hL2.I.2.1 73 : (a2 73).length = _)]; rfl) ?_
                refine ko_if mi_in21 (decide (6 ≤ ((a2 102).getD l2_2.toNatClampNeg 0))) 137 130 ([(2, .int (l2_2 + 1)), (5, .int ((a2 102).getD l2_2.toNatClampNeg 0)), (4, .int ((a2 101).getD l2_2.toNatClampNeg 0)), (3, .int l3_2), (0, .ref 100), (1, .ref 73)], [.ref 100], (0, 0), ks i2 a2 q2 r2) (by rfl) (fun c => ?_) (fun c => ?_)
                ·
                  have c21 : (6 : Int32).toInt ≤ ((a2 102).getD l2_2.toNatClampNeg 0).toInt := kd_le c; clear c
                  refine ko_steps mi_in21 1 _ (138, [(2, .int (l2_2 + 1)), (5, .int ((a2 102).getD l2_2.toNatClampNeg 0)), (4, .int ((a2 101).getD l2_2.toNatClampNeg 0)), (3, .int l3_2), (0, .ref 100), (1, .ref 73)], [.int 0, .ref 100], (0, 0), ks i2 a2 q2 r2) (by rfl) ?_
                  refine ko_callN mi_in21 (pc := 138) (ls := [(2, .int (l2_2 + 1)), (5, .int ((a2 102).getD l2_2.toNatClampNeg 0)), (4, .int ((a2 101).getD l2_2.toNatClampNeg 0)), (3, .int l3_2), (0, .ref 100), (1, .ref 73)]) (st := [.int 0, .ref 100]) (h := ks i2 a2 q2 r2) (i := (.invokevirtual 32, 3, 19, 0, 9, 0, 225)) (by rfl) (by rfl) (cy := mi_c19) rfl rfl (kc19_100 hL2.I hL2.R 0) (by decide) ?_
                  intro ig22 ag22 qg22 rg22 kg22 hg22
                  have hGg22 := kG_call hL2 kg22 (by decide +kernel)
                  have s23 : (l3_2 + 1).toInt = l3_2.toInt + (1 : Int32).toInt := kd_add (oz12 p2_0 kn1) (oz1036 c5 kn121 kn1)
                  refine ko_steps mi_in21 3 _ (9, [(3, .int (l3_2 + 1)), (2, .int (l2_2 + 1)), (5, .int ((a2 102).getD l2_2.toNatClampNeg 0)), (4, .int ((a2 101).getD l2_2.toNatClampNeg 0)), (0, .ref 100), (1, .ref 73)], [], (0, 0), ks ig22 ag22 qg22 rg22) (by rfl) ?_
                  refine ko_perm [(3, .int (l3_2 + 1)), (2, .int (l2_2 + 1)), (0, .ref 100), (1, .ref 73)] (List.forall_mem_cons.mpr ⟨(List.Mem.head _), (List.forall_mem_cons.mpr ⟨(List.Mem.tail _ (List.Mem.head _)), (List.forall_mem_cons.mpr ⟨(List.Mem.tail _ (List.Mem.tail _ (List.Mem.tail _ (List.Mem.tail _ (List.Mem.head _))))), (List.forall_mem_cons.mpr ⟨(List.Mem.tail _ (List.Mem.tail _ (List.Mem.tail _ (List.Mem.tail _ (List.Mem.tail _ (List.Mem.head _)))))), (fun _ h => absurd h List.not_mem_nil)⟩)⟩)⟩)⟩) ?_
                  exact ih2 _ _ _ _ _ _ hGg22 (oz14 p2_0 s23 kn1) (kj_meas (oz1037 s23 kn1) (oz1038 c5 kn121) hm2)
                ·
                  have c24 : ((a2 102).getD l2_2.toNatClampNeg 0).toInt < (6 : Int32).toInt := kd_leF c; clear c
                  refine ko_steps mi_in21 2 _ (133, [(2, .int (l2_2 + 1)), (5, .int ((a2 102).getD l2_2.toNatClampNeg 0)), (4, .int ((a2 101).getD l2_2.toNatClampNeg 0)), (3, .int l3_2), (0, .ref 100), (1, .ref 73)], [.int ((a2 102).getD l2_2.toNatClampNeg 0), .ref 73, .ref 100], (0, 0), ks i2 a2 q2 r2) (by rfl) ?_
                  refine ko_iald3 mi_in21 (n := 6) (c := 6) (ax := (0, 0, 0, 0, 0)) (by rfl) (by rfl) (ksG73 _ _ _ _) (hL2.I.2.1 73) rfl (oz389 c20 kn0) (oz1039 c24 kn6) ?_
                  refine ko_steps mi_in21 1 _ (138, [(2, .int (l2_2 + 1)), (5, .int ((a2 102).getD l2_2.toNatClampNeg 0)), (4, .int ((a2 101).getD l2_2.toNatClampNeg 0)), (3, .int l3_2), (0, .ref 100), (1, .ref 73)], [.int ((a2 73).getD ((a2 102).getD l2_2.toNatClampNeg 0).toNatClampNeg 0), .ref 100], (0, 0), ks i2 a2 q2 r2) (by rfl) ?_
                  refine ko_callN mi_in21 (pc := 138) (ls := [(2, .int (l2_2 + 1)), (5, .int ((a2 102).getD l2_2.toNatClampNeg 0)), (4, .int ((a2 101).getD l2_2.toNatClampNeg 0)), (3, .int l3_2), (0, .ref 100), (1, .ref 73)]) (st := [.int ((a2 73).getD ((a2 102).getD l2_2.toNatClampNeg 0).toNatClampNeg 0), .ref 100]) (h := ks i2 a2 q2 r2) (i := (.invokevirtual 32, 3, 19, 0, 9, 0, 225)) (by rfl) (by rfl) (cy := mi_c19) rfl rfl (kc19_100 hL2.I hL2.R ((a2 73).getD ((a2 102).getD l2_2.toNatClampNeg 0).toNatClampNeg 0)) (by decide) ?_
                  intro ig25 ag25 qg25 rg25 kg25 hg25
                  have hGg25 := kG_call hL2 kg25 (by decide +kernel)
                  have s26 : (l3_2 + 1).toInt = l3_2.toInt + (1 : Int32).toInt := kd_add (oz12 p2_0 kn1) (oz1036 c5 kn121 kn1)
                  refine ko_steps mi_in21 3 _ (9, [(3, .int (l3_2 + 1)), (2, .int (l2_2 + 1)), (5, .int ((a2 102).getD l2_2.toNatClampNeg 0)), (4, .int ((a2 101).getD l2_2.toNatClampNeg 0)), (0, .ref 100), (1, .ref 73)], [], (0, 0), ks ig25 ag25 qg25 rg25) (by rfl) ?_
                  refine ko_perm [(3, .int (l3_2 + 1)), (2, .int (l2_2 + 1)), (0, .ref 100), (1, .ref 73)] (List.forall_mem_cons.mpr ⟨(List.Mem.head _), (List.forall_mem_cons.mpr ⟨(List.Mem.tail _ (List.Mem.head _)), (List.forall_mem_cons.mpr ⟨(List.Mem.tail _ (List.Mem.tail _ (List.Mem.tail _ (List.Mem.tail _ (List.Mem.head _))))), (List.forall_mem_cons.mpr ⟨(List.Mem.tail _ (List.Mem.tail _ (List.Mem.tail _ (List.Mem.tail _ (List.Mem.tail _ (List.Mem.head _)))))), (fun _ h => absurd h List.not_mem_nil)⟩)⟩)⟩)⟩) ?_
                  exact ih2 _ _ _ _ _ _ hGg25 (oz14 p2_0 s26 kn1) (kj_meas (oz1037 s26 kn1) (oz1038 c5 kn121) hm2)
            by_cases w27 : ((a2 101).getD l2_2.toNatClampNeg 0).toInt = 2
            ·
              refine ko_eq (x1 := (48, [(2, .int (l2_2 + 1)), (5, .int ((a2 102).getD l2_2.toNatClampNeg 0)), (4, .int ((a2 101).getD l2_2.toNatClampNeg 0)), (3, .int l3_2), (0, .ref 100), (1, .ref 73)], [.int 2], (0, 0), ks i2 a2 q2 r2)) (by rw [(kj_eq w27 (by decide) : ((a2 101).getD l2_2.toNatClampNeg 0) = 2)]) ?_
              refine ko_steps mi_in21 1 _ (144, [(2, .int (l2_2 + 1)), (5, .int ((a2 102).getD l2_2.toNatClampNeg 0)), (4, .int ((a2 101).getD l2_2.toNatClampNeg 0)), (3, .int l3_2), (0, .ref 100), (1, .ref 73)], [], (0, 0), ks i2 a2 q2 r2) (by rfl) ?_
              have hG28 := kG_call hJ1 hL2 (by decide +kernel)
              refine ko_steps mi_in21 1 _ (145, [(2, .int (l2_2 + 1)), (5, .int ((a2 102).getD l2_2.toNatClampNeg 0)), (4, .int ((a2 101).getD l2_2.toNatClampNeg 0)), (3, .int l3_2), (0, .ref 100), (1, .ref 73)], [.ref 100], (0, 0), ks i2 a2 q2 r2) (by rfl) ?_
              refine ko_callI mi_in21 (pc := 145) (ls := [(2, .int (l2_2 + 1)), (5, .int ((a2 102).getD l2_2.toNatClampNeg 0)), (4, .int ((a2 101).getD l2_2.toNatClampNeg 0)), (3, .int l3_2), (0, .ref 100), (1, .ref 73)]) (st := [.ref 100]) (h := ks i2 a2 q2 r2) (i := (.invokevirtual 36, 3, 20, 0, 9, 0, 226)) (by rfl) (by rfl) (cy := mi_c20) rfl rfl (kc20_100 hG28.I hG28.R ) (by decide) ?_
              intro vg29 ig29 ag29 qg29 rg29 kg29 hg29
              have hGg29 := kG_call hG28 kg29 (by decide +kernel)
              exact ko_ret mi_in21 (by rfl) (hP vg29 _ _ _ _ hGg29 trivial)
            by_cases w30 : ((a2 101).getD l2_2.toNatClampNeg 0).toInt = 3
            ·
              refine ko_eq (x1 := (48, [(2, .int (l2_2 + 1)), (5, .int ((a2 102).getD l2_2.toNatClampNeg 0)), (4, .int ((a2 101).getD l2_2.toNatClampNeg 0)), (3, .int l3_2), (0, .ref 100), (1, .ref 73)], [.int 3], (0, 0), ks i2 a2 q2 r2)) (by rw [(kj_eq w30 (by decide) : ((a2 101).getD l2_2.toNatClampNeg 0) = 3)]) ?_
              refine ko_steps mi_in21 2 _ (150, [(2, .int (l2_2 + 1)), (5, .int ((a2 102).getD l2_2.toNatClampNeg 0)), (4, .int ((a2 101).getD l2_2.toNatClampNeg 0)), (3, .int l3_2), (0, .ref 100), (1, .ref 73)], [.ref 100], (0, 0), ks i2 a2 q2 r2) (by rfl) ?_
              refine ko_callI mi_in21 (pc := 150) (ls := [(2, .int (l2_2 + 1)), (5, .int ((a2 102).getD l2_2.toNatClampNeg 0)), (4, .int ((a2 101).getD l2_2.toNatClampNeg 0)), (3, .int l3_2), (0, .ref 100), (1, .ref 73)]) (st := [.ref 100]) (h := ks i2 a2 q2 r2) (i := (.invokevirtual 36, 3, 20, 0, 9, 0, 226)) (by rfl) (by rfl) (cy := mi_c20) rfl rfl (kc20_100 hL2.I hL2.R ) (by decide) ?_
              intro vg31 ig31 ag31 qg31 rg31 kg31 hg31
              have hGg31 := kG_call hL2 kg31 (by decide +kernel)
              refine ko_if mi_in21 (vg31 != 0) 214 156 ([(2, .int (l2_2 + 1)), (5, .int ((a2 102).getD l2_2.toNatClampNeg 0)), (4, .int ((a2 101).getD l2_2.toNatClampNeg 0)), (3, .int l3_2), (0, .ref 100), (1, .ref 73)], [], (0, 0), ks ig31 ag31 qg31 rg31) (by rfl) (fun c => ?_) (fun c => ?_)
              ·
                have c32 : vg31.toInt ≠ (0 : Int32).toInt := kd_ne c; clear c
                have s33 : (l3_2 + 1).toInt = l3_2.toInt + (1 : Int32).toInt := kd_add (oz12 p2_0 kn1) (oz1036 c5 kn121 kn1)
                refine ko_steps mi_in21 2 _ (9, [(3, .int (l3_2 + 1)), (2, .int (l2_2 + 1)), (5, .int ((a2 102).getD l2_2.toNatClampNeg 0)), (4, .int ((a2 101).getD l2_2.toNatClampNeg 0)), (0, .ref 100), (1, .ref 73)], [], (0, 0), ks ig31 ag31 qg31 rg31) (by rfl) ?_
                refine ko_perm [(3, .int (l3_2 + 1)), (2, .int (l2_2 + 1)), (0, .ref 100), (1, .ref 73)] (List.forall_mem_cons.mpr ⟨(List.Mem.head _), (List.forall_mem_cons.mpr ⟨(List.Mem.tail _ (List.Mem.head _)), (List.forall_mem_cons.mpr ⟨(List.Mem.tail _ (List.Mem.tail _ (List.Mem.tail _ (List.Mem.tail _ (List.Mem.head _))))), (List.forall_mem_cons.mpr ⟨(List.Mem.tail _ (List.Mem.tail _ (List.Mem.tail _ (List.Mem.tail _ (List.Mem.tail _ (List.Mem.head _)))))), (fun _ h => absurd h List.not_mem_nil)⟩)⟩)⟩)⟩) ?_
                exact ih2 _ _ _ _ _ _ hGg31 (oz14 p2_0 s33 kn1) (kj_meas (oz1037 s33 kn1) (oz1038 c5 kn121) hm2)
              ·
                have c34 : vg31.toInt = (0 : Int32).toInt := kd_neF c; clear c
                have s35 : (l3_2 + 1).toInt = l3_2.toInt + (1 : Int32).toInt := kd_add (oz12 p2_0 kn1) (oz1036 c5 kn121 kn1)
                refine ko_steps mi_in21 5 _ (9, [(3, .int (l3_2 + 1)), (2, .int ((a2 102).getD l2_2.toNatClampNeg 0)), (5, .int ((a2 102).getD l2_2.toNatClampNeg 0)), (4, .int ((a2 101).getD l2_2.toNatClampNeg 0)), (0, .ref 100), (1, .ref 73)], [], (0, 0), ks ig31 ag31 qg31 rg31) (by rfl) ?_
                refine ko_perm [(3, .int (l3_2 + 1)), (2, .int ((a2 102).getD l2_2.toNatClampNeg 0)), (0, .ref 100), (1, .ref 73)] (List.forall_mem_cons.mpr ⟨(List.Mem.head _), (List.forall_mem_cons.mpr ⟨(List.Mem.tail _ (List.Mem.head _)), (List.forall_mem_cons.mpr ⟨(List.Mem.tail _ (List.Mem.tail _ (List.Mem.tail _ (List.Mem.tail _ (List.Mem.head _))))), (List.forall_mem_cons.mpr ⟨(List.Mem.tail _ (List.Mem.tail _ (List.Mem.tail _ (List.Mem.tail _ (List.Mem.tail _ (List.Mem.head _)))))), (fun _ h => absurd h List.not_mem_nil)⟩)⟩)⟩)⟩) ?_
                exact ih2 _ _ _ _ _ _ hGg31 (oz14 p2_0 s35 kn1) (kj_meas (oz1037 s35 kn1) (oz1038 c5 kn121) hm2)
            by_cases w36 : ((a2 101).getD l2_2.toNatClampNeg 0).toInt = 33
            ·
              refine ko_eq (x1 := (48, [(2, .int (l2_2 + 1)), (5, .int ((a2 102).getD l2_2.toNatClampNeg 0)), (4, .int ((a2 101).getD l2_2.toNatClampNeg 0)), (3, .int l3_2), (0, .ref 100), (1, .ref 73)], [.int 33], (0, 0), ks i2 a2 q2 r2)) (by rw [(kj_eq w36 (by decide) : ((a2 101).getD l2_2.toNatClampNeg 0) = 33)]) ?_
              refine ko_steps mi_in21 3 _ (164, [(2, .int (l2_2 + 1)), (5, .int ((a2 102).getD l2_2.toNatClampNeg 0)), (4, .int ((a2 101).getD l2_2.toNatClampNeg 0)), (3, .int l3_2), (0, .ref 100), (1, .ref 73)], [.ref 100, .ref 100], (0, 0), ks i2 a2 q2 r2) (by rfl) ?_
              refine ko_callI mi_in21 (pc := 164) (ls := [(2, .int (l2_2 + 1)), (5, .int ((a2 102).getD l2_2.toNatClampNeg 0)), (4, .int ((a2 101).getD l2_2.toNatClampNeg 0)), (3, .int l3_2), (0, .ref 100), (1, .ref 73)]) (st := [.ref 100, .ref 100]) (h := ks i2 a2 q2 r2) (i := (.invokevirtual 36, 3, 20, 0, 9, 0, 226)) (by rfl) (by rfl) (cy := mi_c20) rfl rfl (kc20_100 hL2.I hL2.R ) (by decide) ?_
              intro vg37 ig37 ag37 qg37 rg37 kg37 hg37
              have hGg37 := kG_call hL2 kg37 (by decide +kernel)
              refine ko_if mi_in21 (vg37 != 0) 174 170 ([(2, .int (l2_2 + 1)), (5, .int ((a2 102).getD l2_2.toNatClampNeg 0)), (4, .int ((a2 101).getD l2_2.toNatClampNeg 0)), (3, .int l3_2), (0, .ref 100), (1, .ref 73)], [.ref 100], (0, 0), ks ig37 ag37 qg37 rg37) (by rfl) (fun c => ?_) (fun c => ?_)
              ·
                have c38 : vg37.toInt ≠ (0 : Int32).toInt := kd_ne c; clear c
                refine ko_steps mi_in21 1 _ (175, [(2, .int (l2_2 + 1)), (5, .int ((a2 102).getD l2_2.toNatClampNeg 0)), (4, .int ((a2 101).getD l2_2.toNatClampNeg 0)), (3, .int l3_2), (0, .ref 100), (1, .ref 73)], [.int 0, .ref 100], (0, 0), ks ig37 ag37 qg37 rg37) (by rfl) ?_
                refine ko_callN mi_in21 (pc := 175) (ls := [(2, .int (l2_2 + 1)), (5, .int ((a2 102).getD l2_2.toNatClampNeg 0)), (4, .int ((a2 101).getD l2_2.toNatClampNeg 0)), (3, .int l3_2), (0, .ref 100), (1, .ref 73)]) (st := [.int 0, .ref 100]) (h := ks ig37 ag37 qg37 rg37) (i := (.invokevirtual 32, 3, 19, 0, 9, 0, 225)) (by rfl) (by rfl) (cy := mi_c19) rfl rfl (kc19_100 hGg37.I hGg37.R 0) (by decide) ?_
                intro ig39 ag39 qg39 rg39 kg39 hg39
                have hGg39 := kG_call hGg37 kg39 (by decide +kernel)
                have s40 : (l3_2 + 1).toInt = l3_2.toInt + (1 : Int32).toInt := kd_add (oz12 p2_0 kn1) (oz1036 c5 kn121 kn1)
                refine ko_steps mi_in21 3 _ (9, [(3, .int (l3_2 + 1)), (2, .int (l2_2 + 1)), (5, .int ((a2 102).getD l2_2.toNatClampNeg 0)), (4, .int ((a2 101).getD l2_2.toNatClampNeg 0)), (0, .ref 100), (1, .ref 73)], [], (0, 0), ks ig39 ag39 qg39 rg39) (by rfl) ?_
                refine ko_perm [(3, .int (l3_2 + 1)), (2, .int (l2_2 + 1)), (0, .ref 100), (1, .ref 73)] (List.forall_mem_cons.mpr ⟨(List.Mem.head _), (List.forall_mem_cons.mpr ⟨(List.Mem.tail _ (List.Mem.head _)), (List.forall_mem_cons.mpr ⟨(List.Mem.tail _ (List.Mem.tail _ (List.Mem.tail _ (List.Mem.tail _ (List.Mem.head _))))), (List.forall_mem_cons.mpr ⟨(List.Mem.tail _ (List.Mem.tail _ (List.Mem.tail _ (List.Mem.tail _ (List.Mem.tail _ (List.Mem.head _)))))), (fun _ h => absurd h List.not_mem_nil)⟩)⟩)⟩)⟩) ?_
                exact ih2 _ _ _ _ _ _ hGg39 (oz14 p2_0 s40 kn1) (kj_meas (oz1037 s40 kn1) (oz1038 c5 kn121) hm2)
              ·
                have c41 : vg37.toInt = (0 : Int32).toInt := kd_neF c; clear c
                refine ko_steps mi_in21 2 _ (175, [(2, .int (l2_2 + 1)), (5, .int ((a2 102).getD l2_2.toNatClampNeg 0)), (4, .int ((a2 101).getD l2_2.toNatClampNeg 0)), (3, .int l3_2), (0, .ref 100), (1, .ref 73)], [.int 1, .ref 100], (0, 0), ks ig37 ag37 qg37 rg37) (by rfl) ?_
                refine ko_callN mi_in21 (pc := 175) (ls := [(2, .int (l2_2 + 1)), (5, .int ((a2 102).getD l2_2.toNatClampNeg 0)), (4, .int ((a2 101).getD l2_2.toNatClampNeg 0)), (3, .int l3_2), (0, .ref 100), (1, .ref 73)]) (st := [.int 1, .ref 100]) (h := ks ig37 ag37 qg37 rg37) (i := (.invokevirtual 32, 3, 19, 0, 9, 0, 225)) (by rfl) (by rfl) (cy := mi_c19) rfl rfl (kc19_100 hGg37.I hGg37.R 1) (by decide) ?_
                intro ig42 ag42 qg42 rg42 kg42 hg42
                have hGg42 := kG_call hGg37 kg42 (by decide +kernel)
                have s43 : (l3_2 + 1).toInt = l3_2.toInt + (1 : Int32).toInt := kd_add (oz12 p2_0 kn1) (oz1036 c5 kn121 kn1)
                refine ko_steps mi_in21 3 _ (9, [(3, .int (l3_2 + 1)), (2, .int (l2_2 + 1)), (5, .int ((a2 102).getD l2_2.toNatClampNeg 0)), (4, .int ((a2 101).getD l2_2.toNatClampNeg 0)), (0, .ref 100), (1, .ref 73)], [], (0, 0), ks ig42 ag42 qg42 rg42) (by rfl) ?_
                refine ko_perm [(3, .int (l3_2 + 1)), (2, .int (l2_2 + 1)), (0, .ref 100), (1, .ref 73)] (List.forall_mem_cons.mpr ⟨(List.Mem.head _), (List.forall_mem_cons.mpr ⟨(List.Mem.tail _ (List.Mem.head _)), (List.forall_mem_cons.mpr ⟨(List.Mem.tail _ (List.Mem.tail _ (List.Mem.tail _ (List.Mem.tail _ (List.Mem.head _))))), (List.forall_mem_cons.mpr ⟨(List.Mem.tail _ (List.Mem.tail _ (List.Mem.tail _ (List.Mem.tail _ (List.Mem.tail _ (List.Mem.head _)))))), (fun _ h => absurd h List.not_mem_nil)⟩)⟩)⟩)⟩) ?_
                exact ih2 _ _ _ _ _ _ hGg42 (oz14 p2_0 s43 kn1) (kj_meas (oz1037 s43 kn1) (oz1038 c5 kn121) hm2)
            by_cases w44 : ((a2 101).getD l2_2.toNatClampNeg 0).toInt = 126
            ·
              refine ko_eq (x1 := (48, [(2, .int (l2_2 + 1)), (5, .int ((a2 102).getD l2_2.toNatClampNeg 0)), (4, .int ((a2 101).getD l2_2.toNatClampNeg 0)), (3, .int l3_2), (0, .ref 100), (1, .ref 73)], [.int 126], (0, 0), ks i2 a2 q2 r2)) (by rw [(kj_eq w44 (by decide) : ((a2 101).getD l2_2.toNatClampNeg 0) = 126)]) ?_
              refine ko_steps mi_in21 3 _ (183, [(2, .int (l2_2 + 1)), (5, .int ((a2 102).getD l2_2.toNatClampNeg 0)), (4, .int ((a2 101).getD l2_2.toNatClampNeg 0)), (3, .int l3_2), (0, .ref 100), (1, .ref 73)], [.ref 100, .ref 100], (0, 0), ks i2 a2 q2 r2) (by rfl) ?_
              refine ko_callI mi_in21 (pc := 183) (ls := [(2, .int (l2_2 + 1)), (5, .int ((a2 102).getD l2_2.toNatClampNeg 0)), (4, .int ((a2 101).getD l2_2.toNatClampNeg 0)), (3, .int l3_2), (0, .ref 100), (1, .ref 73)]) (st := [.ref 100, .ref 100]) (h := ks i2 a2 q2 r2) (i := (.invokevirtual 36, 3, 20, 0, 9, 0, 226)) (by rfl) (by rfl) (cy := mi_c20) rfl rfl (kc20_100 hL2.I hL2.R ) (by decide) ?_
              intro vg45 ig45 ag45 qg45 rg45 kg45 hg45
              have hGg45 := kG_call hL2 kg45 (by decide +kernel)
              refine ko_steps mi_in21 1 _ (187, [(2, .int (l2_2 + 1)), (5, .int ((a2 102).getD l2_2.toNatClampNeg 0)), (4, .int ((a2 101).getD l2_2.toNatClampNeg 0)), (3, .int l3_2), (0, .ref 100), (1, .ref 73)], [.int (-vg45), .ref 100], (0, 0), ks ig45 ag45 qg45 rg45) (by rfl) ?_
              refine ko_callN mi_in21 (pc := 187) (ls := [(2, .int (l2_2 + 1)), (5, .int ((a2 102).getD l2_2.toNatClampNeg 0)), (4, .int ((a2 101).getD l2_2.toNatClampNeg 0)), (3, .int l3_2), (0, .ref 100), (1, .ref 73)]) (st := [.int (-vg45), .ref 100]) (h := ks ig45 ag45 qg45 rg45) (i := (.invokevirtual 32, 3, 19, 0, 9, 0, 225)) (by rfl) (by rfl) (cy := mi_c19) rfl rfl (kc19_100 hGg45.I hGg45.R (-vg45)) (by decide) ?_
              intro ig46 ag46 qg46 rg46 kg46 hg46
              have hGg46 := kG_call hGg45 kg46 (by decide +kernel)
              have s47 : (l3_2 + 1).toInt = l3_2.toInt + (1 : Int32).toInt := kd_add (oz12 p2_0 kn1) (oz1036 c5 kn121 kn1)
              refine ko_steps mi_in21 3 _ (9, [(3, .int (l3_2 + 1)), (2, .int (l2_2 + 1)), (5, .int ((a2 102).getD l2_2.toNatClampNeg 0)), (4, .int ((a2 101).getD l2_2.toNatClampNeg 0)), (0, .ref 100), (1, .ref 73)], [], (0, 0), ks ig46 ag46 qg46 rg46) (by rfl) ?_
              refine ko_perm [(3, .int (l3_2 + 1)), (2, .int (l2_2 + 1)), (0, .ref 100), (1, .ref 73)] (List.forall_mem_cons.mpr ⟨(List.Mem.head _), (List.forall_mem_cons.mpr ⟨(List.Mem.tail _ (List.Mem.head _)), (List.forall_mem_cons.mpr ⟨(List.Mem.tail _ (List.Mem.tail _ (List.Mem.tail _ (List.Mem.tail _ (List.Mem.head _))))), (List.forall_mem_cons.mpr ⟨(List.Mem.tail _ (List.Mem.tail _ (List.Mem.tail _ (List.Mem.tail _ (List.Mem.tail _ (List.Mem.head _)))))), (fun _ h => absurd h List.not_mem_nil)⟩)⟩)⟩)⟩) ?_
              exact ih2 _ _ _ _ _ _ hGg46 (oz14 p2_0 s47 kn1) (kj_meas (oz1037 s47 kn1) (oz1038 c5 kn121) hm2)
            refine ko_lsw (ls := [(2, .int (l2_2 + 1)), (5, .int ((a2 102).getD l2_2.toNatClampNeg 0)), (4, .int ((a2 101).getD l2_2.toNatClampNeg 0)), (3, .int l3_2), (0, .ref 100), (1, .ref 73)]) (r := []) (h := ks i2 a2 q2 r2) mi_in21 (v := ((a2 101).getD l2_2.toNatClampNeg 0)) (i := (.lookupswitch 145 #[(0, 60), (1, 69), (2, 96), (3, 101), (33, 114), (126, 133)], 60, 0, 0, 0, 0, 0)) (by rfl) rfl (by simp only [Op.lookupswitch.offset, if_neg (Ne.symm w13), if_neg (Ne.symm w16), if_neg (Ne.symm w27), if_neg (Ne.symm w30), if_neg (Ne.symm w36), if_neg (Ne.symm w44)] <;> rfl) 193 (by rfl) ?_
            refine ko_steps mi_in21 1 _ (194, [(2, .int (l2_2 + 1)), (5, .int ((a2 102).getD l2_2.toNatClampNeg 0)), (4, .int ((a2 101).getD l2_2.toNatClampNeg 0)), (3, .int l3_2), (0, .ref 100), (1, .ref 73)], [.ref 100], (0, 0), ks i2 a2 q2 r2) (by rfl) ?_
            refine ko_callI mi_in21 (pc := 194) (ls := [(2, .int (l2_2 + 1)), (5, .int ((a2 102).getD l2_2.toNatClampNeg 0)), (4, .int ((a2 101).getD l2_2.toNatClampNeg 0)), (3, .int l3_2), (0, .ref 100), (1, .ref 73)]) (st := [.ref 100]) (h := ks i2 a2 q2 r2) (i := (.invokevirtual 36, 3, 20, 0, 9, 0, 226)) (by rfl) (by rfl) (cy := mi_c20) rfl rfl (kc20_100 hL2.I hL2.R ) (by decide) ?_
            intro vg48 ig48 ag48 qg48 rg48 kg48 hg48
            have hGg48 := kG_call hL2 kg48 (by decide +kernel)
            refine ko_steps mi_in21 4 _ (203, [(6, .int vg48), (2, .int (l2_2 + 1)), (5, .int ((a2 102).getD l2_2.toNatClampNeg 0)), (4, .int ((a2 101).getD l2_2.toNatClampNeg 0)), (3, .int l3_2), (0, .ref 100), (1, .ref 73)], [.ref 100, .int ((a2 101).getD l2_2.toNatClampNeg 0), .ref 100], (0, 0), ks ig48 ag48 qg48 rg48) (by rfl) ?_
            refine ko_callI mi_in21 (pc := 203) (ls := [(6, .int vg48), (2, .int (l2_2 + 1)), (5, .int ((a2 102).getD l2_2.toNatClampNeg 0)), (4, .int ((a2 101).getD l2_2.toNatClampNeg 0)), (3, .int l3_2), (0, .ref 100), (1, .ref 73)]) (st := [.ref 100, .int ((a2 101).getD l2_2.toNatClampNeg 0), .ref 100]) (h := ks ig48 ag48 qg48 rg48) (i := (.invokevirtual 36, 3, 20, 0, 9, 0, 226)) (by rfl) (by rfl) (cy := mi_c20) rfl rfl (kc20_100 hGg48.I hGg48.R ) (by decide) ?_
            intro vg49 ig49 ag49 qg49 rg49 kg49 hg49
            have hGg49 := kG_call hGg48 kg49 (by decide +kernel)
            refine ko_steps mi_in21 1 _ (208, [(6, .int vg48), (2, .int (l2_2 + 1)), (5, .int ((a2 102).getD l2_2.toNatClampNeg 0)), (4, .int ((a2 101).getD l2_2.toNatClampNeg 0)), (3, .int l3_2), (0, .ref 100), (1, .ref 73)], [.int vg48, .int vg49, .int ((a2 101).getD l2_2.toNatClampNeg 0), .ref 100], (0, 0), ks ig49 ag49 qg49 rg49) (by rfl) ?_
            refine ko_callPI mi_in21 (pc := 208) (ls := [(6, .int vg48), (2, .int (l2_2 + 1)), (5, .int ((a2 102).getD l2_2.toNatClampNeg 0)), (4, .int ((a2 101).getD l2_2.toNatClampNeg 0)), (3, .int l3_2), (0, .ref 100), (1, .ref 73)]) (st := [.int vg48, .int vg49, .int ((a2 101).getD l2_2.toNatClampNeg 0), .ref 100]) (h := ks ig49 ag49 qg49 rg49) (i := (.invokestatic 40, 3, 22, 0, 9, 0, 227)) (by rfl) (by rfl) (cy := mi_c22) rfl rfl (kc22 hGg49.I hGg49.R ((a2 101).getD l2_2.toNatClampNeg 0) vg49 vg48) (by decide) ?_
            intro vg50 hg50
            refine ko_callN mi_in21 (pc := 211) (ls := [(6, .int vg48), (2, .int (l2_2 + 1)), (5, .int ((a2 102).getD l2_2.toNatClampNeg 0)), (4, .int ((a2 101).getD l2_2.toNatClampNeg 0)), (3, .int l3_2), (0, .ref 100), (1, .ref 73)]) (st := [.int vg50, .ref 100]) (h := ks ig49 ag49 qg49 rg49) (i := (.invokevirtual 32, 3, 19, 0, 9, 0, 225)) (by rfl) (by rfl) (cy := mi_c19) rfl rfl (kc19_100 hGg49.I hGg49.R vg50) (by decide) ?_
            intro ig51 ag51 qg51 rg51 kg51 hg51
            have hGg51 := kG_call hGg49 kg51 (by decide +kernel)
            have s52 : (l3_2 + 1).toInt = l3_2.toInt + (1 : Int32).toInt := kd_add (oz12 p2_0 kn1) (oz1036 c5 kn121 kn1)
            refine ko_steps mi_in21 2 _ (9, [(3, .int (l3_2 + 1)), (6, .int vg48), (2, .int (l2_2 + 1)), (5, .int ((a2 102).getD l2_2.toNatClampNeg 0)), (4, .int ((a2 101).getD l2_2.toNatClampNeg 0)), (0, .ref 100), (1, .ref 73)], [], (0, 0), ks ig51 ag51 qg51 rg51) (by rfl) ?_
            refine ko_perm [(3, .int (l3_2 + 1)), (2, .int (l2_2 + 1)), (0, .ref 100), (1, .ref 73)] (List.forall_mem_cons.mpr ⟨(List.Mem.head _), (List.forall_mem_cons.mpr ⟨(List.Mem.tail _ (List.Mem.tail _ (List.Mem.head _))), (List.forall_mem_cons.mpr ⟨(List.Mem.tail _ (List.Mem.tail _ (List.Mem.tail _ (List.Mem.tail _ (List.Mem.tail _ (List.Mem.head _)))))), (List.forall_mem_cons.mpr ⟨(List.Mem.tail _ (List.Mem.tail _ (List.Mem.tail _ (List.Mem.tail _ (List.Mem.tail _ (List.Mem.tail _ (List.Mem.head _))))))), (fun _ h => absurd h List.not_mem_nil)⟩)⟩)⟩)⟩) ?_
            exact ih2 _ _ _ _ _ _ hGg51 (oz14 p2_0 s52 kn1) (kj_meas (oz1037 s52 kn1) (oz1038 c5 kn121) hm2)
  exact lp2 _ _ _ _ _ _ _ (kG_self _ hJ1.I hJ1.R) (oz46 kn0) (Nat.lt_succ_self _)
def w31_50 : kW := ([645, 3781, 6405], [13, 62, 73, 103], [], [])
set_option maxRecDepth 100000 in
theorem kc31_50 {i : Nat → Int32} {a : Nat → List Int32} {q : Nat → List Int64} {r : Nat → Nat} (hI : kI i a q) (hr : kr r) (x1 : Int32) (x2 : Int32) (hp0 : ((0 : Int) ≤ x1.toInt) ∧ (x1.toInt ≤ 7)) : km 5 31 [.ref 50, .int x1, .int x2] (ks i a q r) (kVI w31_50 i a q r (fun v i1 a1 q1 r1 => True)) := by
  have hG := kG_self w31_50 hI hr
  refine km_ofI (q := (mi_h31, mi_c31)) rfl (by decide) (Nat.le_of_ble_eq_true rfl) ?_
  intro P hP
  refine ko_steps mi_in31 4 _ (6, [(0, .ref 50), (1, .int x1), (2, .int x2)], [.int x1, .ref 52, .int 5], (0, 0), ks i a q r) (by rfl) ?_
  refine ko_iald3 mi_in31 (n := 8) (c := 8) (ax := (0, 0, 0, 0, 0)) (by rfl) (by rfl) (ksG52 _ _ _ _) (hG.I.2.1 52) rfl (oz3 hp0.1) (oz1032 hp0.2) ?_
  have b1 : ((-2147483648 : Int) ≤ ((a 52).getD x1.toNatClampNeg 0).toInt) ∧ (((a 52).getD x1.toNatClampNeg 0).toInt ≤ 2147483647) := kd_bd ((a 52).getD x1.toNatClampNeg 0)
  refine ko_steps mi_in31 4 _ (13, [(0, .ref 50), (1, .int x1), (2, .int x2)], [.int x1, .ref 53, .int (5 * ((a 52).getD x1.toNatClampNeg 0))], (0, 0), ks i a q r) (by rfl) ?_
  refine ko_iald3 mi_in31 (n := 8) (c := 8) (ax := (0, 0, 0, 0, 0)) (by rfl) (by rfl) (ksG53 _ _ _ _) (hG.I.2.1 53) rfl (oz3 hp0.1) (oz1032 hp0.2) ?_
  have b2 : ((-2147483648 : Int) ≤ (5 * ((a 52).getD x1.toNatClampNeg 0)).toInt) ∧ ((5 * ((a 52).getD x1.toNatClampNeg 0)).toInt ≤ 2147483647) := kd_bd (5 * ((a 52).getD x1.toNatClampNeg 0))
  have b3 : ((-2147483648 : Int) ≤ ((a 53).getD x1.toNatClampNeg 0).toInt) ∧ (((a 53).getD x1.toNatClampNeg 0).toInt ≤ 2147483647) := kd_bd ((a 53).getD x1.toNatClampNeg 0)
  refine ko_steps mi_in31 5 _ (21, [(0, .ref 50), (1, .int x1), (2, .int x2)], [.int x1, .ref 55, .int 2, .int ((5 * ((a 52).getD x1.toNatClampNeg 0)) + ((a 53).getD x1.toNatClampNeg 0))], (0, 0), ks i a q r) (by rfl) ?_
  refine ko_iald3 mi_in31 (n := 8) (c := 8) (ax := (0, 0, 0, 0, 0)) (by rfl) (by rfl) (ksG55 _ _ _ _) (hG.I.2.1 55) rfl (oz3 hp0.1) (oz1032 hp0.2) ?_
  have b4 : ((-2147483648 : Int) ≤ ((a 55).getD x1.toNatClampNeg 0).toInt) ∧ (((a 55).getD x1.toNatClampNeg 0).toInt ≤ 2147483647) := kd_bd ((a 55).getD x1.toNatClampNeg 0)
  have b5 : ((-2147483648 : Int) ≤ ((5 * ((a 52).getD x1.toNatClampNeg 0)) + ((a 53).getD x1.toNatClampNeg 0)).toInt) ∧ (((5 * ((a 52).getD x1.toNatClampNeg 0)) + ((a 53).getD x1.toNatClampNeg 0)).toInt ≤ 2147483647) := kd_bd ((5 * ((a 52).getD x1.toNatClampNeg 0)) + ((a 53).getD x1.toNatClampNeg 0))
  have b6 : ((-2147483648 : Int) ≤ (2 * ((a 55).getD x1.toNatClampNeg 0)).toInt) ∧ ((2 * ((a 55).getD x1.toNatClampNeg 0)).toInt ≤ 2147483647) := kd_bd (2 * ((a 55).getD x1.toNatClampNeg 0))
  refine ko_steps mi_in31 5 _ (29, [(3, .int (((5 * ((a 52).getD x1.toNatClampNeg 0)) + ((a 53).getD x1.toNatClampNeg 0)) - (2 * ((a 55).getD x1.toNatClampNeg 0)))), (0, .ref 50), (1, .int x1), (2, .int x2)], [.ref (r 1)], (0, 0), ks i a q r) (by rfl) ?_
  rcases hG.R.2 with eRr_1 | eRr_1 | eRr_1
  ·
    have eRr_1 : r 1 = 59 := eRr_1
    refine ko_eq (x1 := (29, [(3, .int (((5 * ((a 52).getD x1.toNatClampNeg 0)) + ((a 53).getD x1.toNatClampNeg 0)) - (2 * ((a 55).getD x1.toNatClampNeg 0)))), (0, .ref 50), (1, .int x1), (2, .int x2)], [.ref 59], (0, 0), ks i a q r)) (by rw [eRr_1]) ?_
    have fi_3776 : ((0 : Int) ≤ (i 3776).toInt) ∧ ((i 3776).toInt ≤ 1) := hG.I.1 3776
    refine ko_steps mi_in31 1 _ (32, [(3, .int (((5 * ((a 52).getD x1.toNatClampNeg 0)) + ((a 53).getD x1.toNatClampNeg 0)) - (2 * ((a 55).getD x1.toNatClampNeg 0)))), (0, .ref 50), (1, .int x1), (2, .int x2)], [.int (i 3776)], (0, 0), ks i a q r) (by rfl) ?_
    refine ko_if mi_in31 ((i 3776) == 0) 110 35 ([(3, .int (((5 * ((a 52).getD x1.toNatClampNeg 0)) + ((a 53).getD x1.toNatClampNeg 0)) - (2 * ((a 55).getD x1.toNatClampNeg 0)))), (0, .ref 50), (1, .int x1), (2, .int x2)], [], (0, 0), ks i a q r) (by rfl) (fun c => ?_) (fun c => ?_)
    ·
      have c7 : (i 3776).toInt = (0 : Int32).toInt := kd_eq c; clear c
      refine ko_steps mi_in31 3 _ (114, [(3, .int (((5 * ((a 52).getD x1.toNatClampNeg 0)) + ((a 53).getD x1.toNatClampNeg 0)) - (2 * ((a 55).getD x1.toNatClampNeg 0)))), (0, .ref 50), (1, .int x1), (2, .int x2)], [.int (((5 * ((a 52).getD x1.toNatClampNeg 0)) + ((a 53).getD x1.toNatClampNeg 0)) - (2 * ((a 55).getD x1.toNatClampNeg 0))), .int 99, .int 0], (0, 0), ks i a q r) (by rfl) ?_
      have m9 : (((bif decide ((((5 * ((a 52).getD x1.toNatClampNeg 0)) + ((a 53).getD x1.toNatClampNeg 0)) - (2 * ((a 55).getD x1.toNatClampNeg 0))) < 99) then (((5 * ((a 52).getD x1.toNatClampNeg 0)) + ((a 53).getD x1.toNatClampNeg 0)) - (2 * ((a 55).getD x1.toNatClampNeg 0))) else 99).toInt ≤ (99 : Int32).toInt) ∧ ((bif decide ((((5 * ((a 52).getD x1.toNatClampNeg 0)) + ((a 53).getD x1.toNatClampNeg 0)) - (2 * ((a 55).getD x1.toNatClampNeg 0))) < 99) then (((5 * ((a 52).getD x1.toNatClampNeg 0)) + ((a 53).getD x1.toNatClampNeg 0)) - (2 * ((a 55).getD x1.toNatClampNeg 0))) else 99).toInt ≤ (((5 * ((a 52).getD x1.toNatClampNeg 0)) + ((a 53).getD x1.toNatClampNeg 0)) - (2 * ((a 55).getD x1.toNatClampNeg 0))).toInt)) ∧ ((bif decide ((((5 * ((a 52).getD x1.toNatClampNeg 0)) + ((a 53).getD x1.toNatClampNeg 0)) - (2 * ((a 55).getD x1.toNatClampNeg 0))) < 99) then (((5 * ((a 52).getD x1.toNatClampNeg 0)) + ((a 53).getD x1.toNatClampNeg 0)) - (2 * ((a 55).getD x1.toNatClampNeg 0))) else 99).toInt = (99 : Int32).toInt ∨ (bif decide ((((5 * ((a 52).getD x1.toNatClampNeg 0)) + ((a 53).getD x1.toNatClampNeg 0)) - (2 * ((a 55).getD x1.toNatClampNeg 0))) < 99) then (((5 * ((a 52).getD x1.toNatClampNeg 0)) + ((a 53).getD x1.toNatClampNeg 0)) - (2 * ((a 55).getD x1.toNatClampNeg 0))) else 99).toInt = (((5 * ((a 52).getD x1.toNatClampNeg 0)) + ((a 53).getD x1.toNatClampNeg 0)) - (2 * ((a 55).getD x1.toNatClampNeg 0))).toInt) := kd_min
      refine ko_steps mi_in31 1 _ (117, [(3, .int (((5 * ((a 52).getD x1.toNatClampNeg 0)) + ((a 53).getD x1.toNatClampNeg 0)) - (2 * ((a 55).getD x1.toNatClampNeg 0)))), (0, .ref 50), (1, .int x1), (2, .int x2)], [.int (bif decide ((((5 * ((a 52).getD x1.toNatClampNeg 0)) + ((a 53).getD x1.toNatClampNeg 0)) - (2 * ((a 55).getD x1.toNatClampNeg 0))) < 99) then (((5 * ((a 52).getD x1.toNatClampNeg 0)) + ((a 53).getD x1.toNatClampNeg 0)) - (2 * ((a 55).getD x1.toNatClampNeg 0))) else 99), .int 0], (0, 0), ks i a q r) (by rfl) ?_
      generalize (bif decide ((((5 * ((a 52).getD x1.toNatClampNeg 0)) + ((a 53).getD x1.toNatClampNeg 0)) - (2 * ((a 55).getD x1.toNatClampNeg 0))) < 99) then (((5 * ((a 52).getD x1.toNatClampNeg 0)) + ((a 53).getD x1.toNatClampNeg 0)) - (2 * ((a 55).getD x1.toNatClampNeg 0))) else 99) = m8 at m9 ⊢
      have m11 : (((0 : Int32).toInt ≤ (bif decide (0 < m8) then m8 else 0).toInt) ∧ (m8.toInt ≤ (bif decide (0 < m8) then m8 else 0).toInt)) ∧ ((bif decide (0 < m8) then m8 else 0).toInt = (0 : Int32).toInt ∨ (bif decide (0 < m8) then m8 else 0).toInt = m8.toInt) := kd_max
      refine ko_steps mi_in31 1 _ (120, [(3, .int (((5 * ((a 52).getD x1.toNatClampNeg 0)) + ((a 53).getD x1.toNatClampNeg 0)) - (2 * ((a 55).getD x1.toNatClampNeg 0)))), (0, .ref 50), (1, .int x1), (2, .int x2)], [.int (bif decide (0 < m8) then m8 else 0)], (0, 0), ks i a q r) (by rfl) ?_
      generalize (bif decide (0 < m8) then m8 else 0) = m10 at m11 ⊢
      exact ko_ret mi_in31 (by rfl) (hP m10 _ _ _ _ hG trivial)
    ·
      have c12 : (i 3776).toInt ≠ (0 : Int32).toInt := kd_eqF c; clear c
      refine ko_steps mi_in31 6 _ (45, [(3, .int (((5 * ((a 52).getD x1.toNatClampNeg 0)) + ((a 53).getD x1.toNatClampNeg 0)) - (2 * ((a 55).getD x1.toNatClampNeg 0)))), (0, .ref 50), (1, .int x1), (2, .int x2)], [.int x1, .ref 52, .int 0, .ref 73], (0, 0), ks i a q r) (by rfl) ?_
      refine ko_iald3 mi_in31 (n := 8) (c := 8) (ax := (0, 0, 0, 0, 0)) (by rfl) (by rfl) (ksG52 _ _ _ _) (hG.I.2.1 52) rfl (oz3 hp0.1) (oz1032 hp0.2) ?_
      refine ko_iast3 mi_in31 (n := 6) (c := 6) (ax := (0, 0, 0, 0, 0)) (by rfl) (by rfl) (ksG73 _ _ _ _) (ksA73 _ _ _ _) (hG.I.2.1 73) rfl (oz46 kn0) (oz255 kn0) ?_
      intro a13 ea13 fa13
      have hJ13 := kG_a3 hG 73 rfl ea13 fa13 (kd_bd _)
      refine ko_steps mi_in31 4 _ (53, [(3, .int (((5 * ((a 52).getD x1.toNatClampNeg 0)) + ((a 53).getD x1.toNatClampNeg 0)) - (2 * ((a 55).getD x1.toNatClampNeg 0)))), (0, .ref 50), (1, .int x1), (2, .int x2)], [.int x2, .int 1, .ref 73], (0, 0), ks i a13 q r) (by rfl) ?_
      refine ko_iast3 mi_in31 (n := 6) (c := 6) (ax := (0, 0, 0, 0, 0)) (by rfl) (by rfl) (ksG73 _ _ _ _) (ksA73 _ _ _ _) (hJ13.I.2.1 73) rfl (oz246 kn1) (oz247 kn1) ?_
      intro a14 ea14 fa14
      have hJ14 := kG_a3 hJ13 73 rfl ea14 fa14 (kd_bd _)
      refine ko_steps mi_in31 6 _ (64, [(3, .int (((5 * ((a 52).getD x1.toNatClampNeg 0)) + ((a 53).getD x1.toNatClampNeg 0)) - (2 * ((a 55).getD x1.toNatClampNeg 0)))), (0, .ref 50), (1, .int x1), (2, .int x2)], [.int x1, .ref 53, .int 2, .ref 73], (0, 0), ks i a14 q r) (by rfl) ?_
      refine ko_iald3 mi_in31 (n := 8) (c := 8) (ax := (0, 0, 0, 0, 0)) (by rfl) (by rfl) (ksG53 _ _ _ _) (hJ14.I.2.1 53) rfl (oz3 hp0.1) (oz1032 hp0.2) ?_
      refine ko_iast3 mi_in31 (n := 6) (c := 6) (ax := (0, 0, 0, 0, 0)) (by rfl) (by rfl) (ksG73 _ _ _ _) (ksA73 _ _ _ _) (hJ14.I.2.1 73) rfl (oz256 kn2) (oz257 kn2) ?_
      intro a15 ea15 fa15
      have hJ15 := kG_a3 hJ14 73 rfl ea15 fa15 (kd_bd _)
      refine ko_steps mi_in31 5 _ (75, [(3, .int (((5 * ((a 52).getD x1.toNatClampNeg 0)) + ((a 53).getD x1.toNatClampNeg 0)) - (2 * ((a 55).getD x1.toNatClampNeg 0)))), (0, .ref 50), (1, .int x1), (2, .int x2)], [.int (i 3209), .int 3, .ref 73], (0, 0), ks i a15 q r) (by rfl) ?_
      refine ko_iast3 mi_in31 (n := 6) (c := 6) (ax := (0, 0, 0, 0, 0)) (by rfl) (by rfl) (ksG73 _ _ _ _) (ksA73 _ _ _ _) (hJ15.I.2.1 73) rfl (oz260 kn3) (oz261 kn3) ?_
      intro a16 ea16 fa16
      have hJ16 := kG_a3 hJ15 73 rfl ea16 fa16 (kd_bd _)
      refine ko_steps mi_in31 6 _ (86, [(3, .int (((5 * ((a 52).getD x1.toNatClampNeg 0)) + ((a 53).getD x1.toNatClampNeg 0)) - (2 * ((a 55).getD x1.toNatClampNeg 0)))), (0, .ref 50), (1, .int x1), (2, .int x2)], [.int x1, .ref 55, .int 4, .ref 73], (0, 0), ks i a16 q r) (by rfl) ?_
      refine ko_iald3 mi_in31 (n := 8) (c := 8) (ax := (0, 0, 0, 0, 0)) (by rfl) (by rfl) (ksG55 _ _ _ _) (hJ16.I.2.1 55) rfl (oz3 hp0.1) (oz1032 hp0.2) ?_
      refine ko_iast3 mi_in31 (n := 6) (c := 6) (ax := (0, 0, 0, 0, 0)) (by rfl) (by rfl) (ksG73 _ _ _ _) (ksA73 _ _ _ _) (hJ16.I.2.1 73) rfl (oz262 kn4) (oz263 kn4) ?_
      intro a17 ea17 fa17
      have hJ17 := kG_a3 hJ16 73 rfl ea17 fa17 (kd_bd _)
      refine ko_steps mi_in31 5 _ (97, [(3, .int (((5 * ((a 52).getD x1.toNatClampNeg 0)) + ((a 53).getD x1.toNatClampNeg 0)) - (2 * ((a 55).getD x1.toNatClampNeg 0)))), (0, .ref 50), (1, .int x1), (2, .int x2)], [.int (i 3208), .int 5, .ref 73], (0, 0), ks i a17 q r) (by rfl) ?_
      refine ko_iast3 mi_in31 (n := 6) (c := 6) (ax := (0, 0, 0, 0, 0)) (by rfl) (by rfl) (ksG73 _ _ _ _) (ksA73 _ _ _ _) (hJ17.I.2.1 73) rfl (oz264 kn5) (oz265 kn5) ?_
      intro a18 ea18 fa18
      have hJ18 := kG_a3 hJ17 73 rfl ea18 fa18 (kd_bd _)
      refine ko_steps mi_in31 2 _ (102, [(3, .int (((5 * ((a 52).getD x1.toNatClampNeg 0)) + ((a 53).getD x1.toNatClampNeg 0)) - (2 * ((a 55).getD x1.toNatClampNeg 0)))), (0, .ref 50), (1, .int x1), (2, .int x2)], [.ref (r 1)], (0, 0), ks i a18 q r) (by rfl) ?_
      refine ko_eq (x1 := (102, [(3, .int (((5 * ((a 52).getD x1.toNatClampNeg 0)) + ((a 53).getD x1.toNatClampNeg 0)) - (2 * ((a 55).getD x1.toNatClampNeg 0)))), (0, .ref 50), (1, .int x1), (2, .int x2)], [.ref 59], (0, 0), ks i a18 q r)) (by rw [eRr_1]) ?_
      refine ko_steps mi_in31 2 _ (106, [(3, .int (((5 * ((a 52).getD x1.toNatClampNeg 0)) + ((a 53).getD x1.toNatClampNeg 0)) - (2 * ((a 55).getD x1.toNatClampNeg 0)))), (0, .ref 50), (1, .int x1), (2, .int x2)], [.ref 73, .ref 59], (0, 0), ks i a18 q r) (by rfl) ?_
      refine ko_callI mi_in31 (pc := 106) (ls := [(3, .int (((5 * ((a 52).getD x1.toNatClampNeg 0)) + ((a 53).getD x1.toNatClampNeg 0)) - (2 * ((a 55).getD x1.toNatClampNeg 0)))), (0, .ref 50), (1, .int x1), (2, .int x2)]) (st := [.ref 73, .ref 59]) (h := ks i a18 q r) (i := (.invokevirtual 126, 3, 21, 0, 9, 0, 224)) (by rfl) (by rfl) (cy := mi_c21) rfl rfl (kc21_59_73 hJ18.I hJ18.R ) (by decide) ?_
      intro vg19 ig19 ag19 qg19 rg19 kg19 hg19
      have hGg19 := kG_call hJ18 kg19 (by decide +kernel)
      have eRrg19_1 : rg19 1 = 59 := (kg19.fr 1 rfl).trans eRr_1
      refine ko_steps mi_in31 4 _ (114, [(3, .int vg19), (0, .ref 50), (1, .int x1), (2, .int x2)], [.int vg19, .int 99, .int 0], (0, 0), ks ig19 ag19 qg19 rg19) (by rfl) ?_
      have m21 : (((bif decide (vg19 < 99) then vg19 else 99).toInt ≤ (99 : Int32).toInt) ∧ ((bif decide (vg19 < 99) then vg19 else 99).toInt ≤ vg19.toInt)) ∧ ((bif decide (vg19 < 99) then vg19 else 99).toInt = (99 : Int32).toInt ∨ (bif decide (vg19 < 99) then vg19 else 99).toInt = vg19.toInt) := kd_min
      refine ko_steps mi_in31 1 _ (117, [(3, .int vg19), (0, .ref 50), (1, .int x1), (2, .int x2)], [.int (bif decide (vg19 < 99) then vg19 else 99), .int 0], (0, 0), ks ig19 ag19 qg19 rg19) (by rfl) ?_
      generalize (bif decide (vg19 < 99) then vg19 else 99) = m20 at m21 ⊢
      have m23 : (((0 : Int32).toInt ≤ (bif decide (0 < m20) then m20 else 0).toInt) ∧ (m20.toInt ≤ (bif decide (0 < m20) then m20 else 0).toInt)) ∧ ((bif decide (0 < m20) then m20 else 0).toInt = (0 : Int32).toInt ∨ (bif decide (0 < m20) then m20 else 0).toInt = m20.toInt) := kd_max
      refine ko_steps mi_in31 1 _ (120, [(3, .int vg19), (0, .ref 50), (1, .int x1), (2, .int x2)], [.int (bif decide (0 < m20) then m20 else 0)], (0, 0), ks ig19 ag19 qg19 rg19) (by rfl) ?_
      generalize (bif decide (0 < m20) then m20 else 0) = m22 at m23 ⊢
      exact ko_ret mi_in31 (by rfl) (hP m22 _ _ _ _ hGg19 trivial)
  ·
    have eRr_1 : r 1 = 10 := eRr_1
    refine ko_eq (x1 := (29, [(3, .int (((5 * ((a 52).getD x1.toNatClampNeg 0)) + ((a 53).getD x1.toNatClampNeg 0)) - (2 * ((a 55).getD x1.toNatClampNeg 0)))), (0, .ref 50), (1, .int x1), (2, .int x2)], [.ref 10], (0, 0), ks i a q r)) (by rw [eRr_1]) ?_
    have fi_640 : ((0 : Int) ≤ (i 640).toInt) ∧ ((i 640).toInt ≤ 1) := hG.I.1 640
    refine ko_steps mi_in31 1 _ (32, [(3, .int (((5 * ((a 52).getD x1.toNatClampNeg 0)) + ((a 53).getD x1.toNatClampNeg 0)) - (2 * ((a 55).getD x1.toNatClampNeg 0)))), (0, .ref 50), (1, .int x1), (2, .int x2)], [.int (i 640)], (0, 0), ks i a q r) (by rfl) ?_
    refine ko_if mi_in31 ((i 640) == 0) 110 35 ([(3, .int (((5 * ((a 52).getD x1.toNatClampNeg 0)) + ((a 53).getD x1.toNatClampNeg 0)) - (2 * ((a 55).getD x1.toNatClampNeg 0)))), (0, .ref 50), (1, .int x1), (2, .int x2)], [], (0, 0), ks i a q r) (by rfl) (fun c => ?_) (fun c => ?_)
    ·
      have c24 : (i 640).toInt = (0 : Int32).toInt := kd_eq c; clear c
      refine ko_steps mi_in31 3 _ (114, [(3, .int (((5 * ((a 52).getD x1.toNatClampNeg 0)) + ((a 53).getD x1.toNatClampNeg 0)) - (2 * ((a 55).getD x1.toNatClampNeg 0)))), (0, .ref 50), (1, .int x1), (2, .int x2)], [.int (((5 * ((a 52).getD x1.toNatClampNeg 0)) + ((a 53).getD x1.toNatClampNeg 0)) - (2 * ((a 55).getD x1.toNatClampNeg 0))), .int 99, .int 0], (0, 0), ks i a q r) (by rfl) ?_
      have m26 : (((bif decide ((((5 * ((a 52).getD x1.toNatClampNeg 0)) + ((a 53).getD x1.toNatClampNeg 0)) - (2 * ((a 55).getD x1.toNatClampNeg 0))) < 99) then (((5 * ((a 52).getD x1.toNatClampNeg 0)) + ((a 53).getD x1.toNatClampNeg 0)) - (2 * ((a 55).getD x1.toNatClampNeg 0))) else 99).toInt ≤ (99 : Int32).toInt) ∧ ((bif decide ((((5 * ((a 52).getD x1.toNatClampNeg 0)) + ((a 53).getD x1.toNatClampNeg 0)) - (2 * ((a 55).getD x1.toNatClampNeg 0))) < 99) then (((5 * ((a 52).getD x1.toNatClampNeg 0)) + ((a 53).getD x1.toNatClampNeg 0)) - (2 * ((a 55).getD x1.toNatClampNeg 0))) else 99).toInt ≤ (((5 * ((a 52).getD x1.toNatClampNeg 0)) + ((a 53).getD x1.toNatClampNeg 0)) - (2 * ((a 55).getD x1.toNatClampNeg 0))).toInt)) ∧ ((bif decide ((((5 * ((a 52).getD x1.toNatClampNeg 0)) + ((a 53).getD x1.toNatClampNeg 0)) - (2 * ((a 55).getD x1.toNatClampNeg 0))) < 99) then (((5 * ((a 52).getD x1.toNatClampNeg 0)) + ((a 53).getD x1.toNatClampNeg 0)) - (2 * ((a 55).getD x1.toNatClampNeg 0))) else 99).toInt = (99 : Int32).toInt ∨ (bif decide ((((5 * ((a 52).getD x1.toNatClampNeg 0)) + ((a 53).getD x1.toNatClampNeg 0)) - (2 * ((a 55).getD x1.toNatClampNeg 0))) < 99) then (((5 * ((a 52).getD x1.toNatClampNeg 0)) + ((a 53).getD x1.toNatClampNeg 0)) - (2 * ((a 55).getD x1.toNatClampNeg 0))) else 99).toInt = (((5 * ((a 52).getD x1.toNatClampNeg 0)) + ((a 53).getD x1.toNatClampNeg 0)) - (2 * ((a 55).getD x1.toNatClampNeg 0))).toInt) := kd_min
      refine ko_steps mi_in31 1 _ (117, [(3, .int (((5 * ((a 52).getD x1.toNatClampNeg 0)) + ((a 53).getD x1.toNatClampNeg 0)) - (2 * ((a 55).getD x1.toNatClampNeg 0)))), (0, .ref 50), (1, .int x1), (2, .int x2)], [.int (bif decide ((((5 * ((a 52).getD x1.toNatClampNeg 0)) + ((a 53).getD x1.toNatClampNeg 0)) - (2 * ((a 55).getD x1.toNatClampNeg 0))) < 99) then (((5 * ((a 52).getD x1.toNatClampNeg 0)) + ((a 53).getD x1.toNatClampNeg 0)) - (2 * ((a 55).getD x1.toNatClampNeg 0))) else 99), .int 0], (0, 0), ks i a q r) (by rfl) ?_
      generalize (bif decide ((((5 * ((a 52).getD x1.toNatClampNeg 0)) + ((a 53).getD x1.toNatClampNeg 0)) - (2 * ((a 55).getD x1.toNatClampNeg 0))) < 99) then (((5 * ((a 52).getD x1.toNatClampNeg 0)) + ((a 53).getD x1.toNatClampNeg 0)) - (2 * ((a 55).getD x1.toNatClampNeg 0))) else 99) = m25 at m26 ⊢
      have m28 : (((0 : Int32).toInt ≤ (bif decide (0 < m25) then m25 else 0).toInt) ∧ (m25.toInt ≤ (bif decide (0 < m25) then m25 else 0).toInt)) ∧ ((bif decide (0 < m25) then m25 else 0).toInt = (0 : Int32).toInt ∨ (bif decide (0 < m25) then m25 else 0).toInt = m25.toInt) := kd_max
      refine ko_steps mi_in31 1 _ (120, [(3, .int (((5 * ((a 52).getD x1.toNatClampNeg 0)) + ((a 53).getD x1.toNatClampNeg 0)) - (2 * ((a 55).getD x1.toNatClampNeg 0)))), (0, .ref 50), (1, .int x1), (2, .int x2)], [.int (bif decide (0 < m25) then m25 else 0)], (0, 0), ks i a q r) (by rfl) ?_
      generalize (bif decide (0 < m25) then m25 else 0) = m27 at m28 ⊢
      exact ko_ret mi_in31 (by rfl) (hP m27 _ _ _ _ hG trivial)
    ·
      have c29 : (i 640).toInt ≠ (0 : Int32).toInt := kd_eqF c; clear c
      refine ko_steps mi_in31 6 _ (45, [(3, .int (((5 * ((a 52).getD x1.toNatClampNeg 0)) + ((a 53).getD x1.toNatClampNeg 0)) - (2 * ((a 55).getD x1.toNatClampNeg 0)))), (0, .ref 50), (1, .int x1), (2, .int x2)], [.int x1, .ref 52, .int 0, .ref 73], (0, 0), ks i a q r) (by rfl) ?_
      refine ko_iald3 mi_in31 (n := 8) (c := 8) (ax := (0, 0, 0, 0, 0)) (by rfl) (by rfl) (ksG52 _ _ _ _) (hG.I.2.1 52) rfl (oz3 hp0.1) (oz1032 hp0.2) ?_
      refine ko_iast3 mi_in31 (n := 6) (c := 6) (ax := (0, 0, 0, 0, 0)) (by rfl) (by rfl) (ksG73 _ _ _ _) (ksA73 _ _ _ _) (hG.I.2.1 73) rfl (oz46 kn0) (oz255 kn0) ?_
      intro a30 ea30 fa30
      have hJ30 := kG_a3 hG 73 rfl ea30 fa30 (kd_bd _)
      refine ko_steps mi_in31 4 _ (53, [(3, .int (((5 * ((a 52).getD x1.toNatClampNeg 0)) + ((a 53).getD x1.toNatClampNeg 0)) - (2 * ((a 55).getD x1.toNatClampNeg 0)))), (0, .ref 50), (1, .int x1), (2, .int x2)], [.int x2, .int 1, .ref 73], (0, 0), ks i a30 q r) (by rfl) ?_
      refine ko_iast3 mi_in31 (n := 6) (c := 6) (ax := (0, 0, 0, 0, 0)) (by rfl) (by rfl) (ksG73 _ _ _ _) (ksA73 _ _ _ _) (hJ30.I.2.1 73) rfl (oz246 kn1) (oz247 kn1) ?_
      intro a31 ea31 fa31
      have hJ31 := kG_a3 hJ30 73 rfl ea31 fa31 (kd_bd _)
      refine ko_steps mi_in31 6 _ (64, [(3, .int (((5 * ((a 52).getD x1.toNatClampNeg 0)) + ((a 53).getD x1.toNatClampNeg 0)) - (2 * ((a 55).getD x1.toNatClampNeg 0)))), (0, .ref 50), (1, .int x1), (2, .int x2)], [.int x1, .ref 53, .int 2, .ref 73], (0, 0), ks i a31 q r) (by rfl) ?_
      refine ko_iald3 mi_in31 (n := 8) (c := 8) (ax := (0, 0, 0, 0, 0)) (by rfl) (by rfl) (ksG53 _ _ _ _) (hJ31.I.2.1 53) rfl (oz3 hp0.1) (oz1032 hp0.2) ?_
      refine ko_iast3 mi_in31 (n := 6) (c := 6) (ax := (0, 0, 0, 0, 0)) (by rfl) (by rfl) (ksG73 _ _ _ _) (ksA73 _ _ _ _) (hJ31.I.2.1 73) rfl (oz256 kn2) (oz257 kn2) ?_
      intro a32 ea32 fa32
      have hJ32 := kG_a3 hJ31 73 rfl ea32 fa32 (kd_bd _)
      refine ko_steps mi_in31 5 _ (75, [(3, .int (((5 * ((a 52).getD x1.toNatClampNeg 0)) + ((a 53).getD x1.toNatClampNeg 0)) - (2 * ((a 55).getD x1.toNatClampNeg 0)))), (0, .ref 50), (1, .int x1), (2, .int x2)], [.int (i 3209), .int 3, .ref 73], (0, 0), ks i a32 q r) (by rfl) ?_
      refine ko_iast3 mi_in31 (n := 6) (c := 6) (ax := (0, 0, 0, 0, 0)) (by rfl) (by rfl) (ksG73 _ _ _ _) (ksA73 _ _ _ _) (hJ32.I.2.1 73) rfl (oz260 kn3) (oz261 kn3) ?_
      intro a33 ea33 fa33
      have hJ33 := kG_a3 hJ32 73 rfl ea33 fa33 (kd_bd _)
      refine ko_steps mi_in31 6 _ (86, [(3, .int (((5 * ((a 52).getD x1.toNatClampNeg 0)) + ((a 53).getD x1.toNatClampNeg 0)) - (2 * ((a 55).getD x1.toNatClampNeg 0)))), (0, .ref 50), (1, .int x1), (2, .int x2)], [.int x1, .ref 55, .int 4, .ref 73], (0, 0), ks i a33 q r) (by rfl) ?_
      refine ko_iald3 mi_in31 (n := 8) (c := 8) (ax := (0, 0, 0, 0, 0)) (by rfl) (by rfl) (ksG55 _ _ _ _) (hJ33.I.2.1 55) rfl (oz3 hp0.1) (oz1032 hp0.2) ?_
      refine ko_iast3 mi_in31 (n := 6) (c := 6) (ax := (0, 0, 0, 0, 0)) (by rfl) (by rfl) (ksG73 _ _ _ _) (ksA73 _ _ _ _) (hJ33.I.2.1 73) rfl (oz262 kn4) (oz263 kn4) ?_
      intro a34 ea34 fa34
      have hJ34 := kG_a3 hJ33 73 rfl ea34 fa34 (kd_bd _)
      refine ko_steps mi_in31 5 _ (97, [(3, .int (((5 * ((a 52).getD x1.toNatClampNeg 0)) + ((a 53).getD x1.toNatClampNeg 0)) - (2 * ((a 55).getD x1.toNatClampNeg 0)))), (0, .ref 50), (1, .int x1), (2, .int x2)], [.int (i 3208), .int 5, .ref 73], (0, 0), ks i a34 q r) (by rfl) ?_
      refine ko_iast3 mi_in31 (n := 6) (c := 6) (ax := (0, 0, 0, 0, 0)) (by rfl) (by rfl) (ksG73 _ _ _ _) (ksA73 _ _ _ _) (hJ34.I.2.1 73) rfl (oz264 kn5) (oz265 kn5) ?_
      intro a35 ea35 fa35
      have hJ35 := kG_a3 hJ34 73 rfl ea35 fa35 (kd_bd _)
      refine ko_steps mi_in31 2 _ (102, [(3, .int (((5 * ((a 52).getD x1.toNatClampNeg 0)) + ((a 53).getD x1.toNatClampNeg 0)) - (2 * ((a 55).getD x1.toNatClampNeg 0)))), (0, .ref 50), (1, .int x1), (2, .int x2)], [.ref (r 1)], (0, 0), ks i a35 q r) (by rfl) ?_
      refine ko_eq (x1 := (102, [(3, .int (((5 * ((a 52).getD x1.toNatClampNeg 0)) + ((a 53).getD x1.toNatClampNeg 0)) - (2 * ((a 55).getD x1.toNatClampNeg 0)))), (0, .ref 50), (1, .int x1), (2, .int x2)], [.ref 10], (0, 0), ks i a35 q r)) (by rw [eRr_1]) ?_
      refine ko_steps mi_in31 2 _ (106, [(3, .int (((5 * ((a 52).getD x1.toNatClampNeg 0)) + ((a 53).getD x1.toNatClampNeg 0)) - (2 * ((a 55).getD x1.toNatClampNeg 0)))), (0, .ref 50), (1, .int x1), (2, .int x2)], [.ref 73, .ref 10], (0, 0), ks i a35 q r) (by rfl) ?_
      refine ko_callI mi_in31 (pc := 106) (ls := [(3, .int (((5 * ((a 52).getD x1.toNatClampNeg 0)) + ((a 53).getD x1.toNatClampNeg 0)) - (2 * ((a 55).getD x1.toNatClampNeg 0)))), (0, .ref 50), (1, .int x1), (2, .int x2)]) (st := [.ref 73, .ref 10]) (h := ks i a35 q r) (i := (.invokevirtual 126, 3, 21, 0, 9, 0, 224)) (by rfl) (by rfl) (cy := mi_c21) rfl rfl (kc21_10_73 hJ35.I hJ35.R ) (by decide) ?_
      intro vg36 ig36 ag36 qg36 rg36 kg36 hg36
      have hGg36 := kG_call hJ35 kg36 (by decide +kernel)
      have eRrg36_1 : rg36 1 = 10 := (kg36.fr 1 rfl).trans eRr_1
      refine ko_steps mi_in31 4 _ (114, [(3, .int vg36), (0, .ref 50), (1, .int x1), (2, .int x2)], [.int vg36, .int 99, .int 0], (0, 0), ks ig36 ag36 qg36 rg36) (by rfl) ?_
      have m38 : (((bif decide (vg36 < 99) then vg36 else 99).toInt ≤ (99 : Int32).toInt) ∧ ((bif decide (vg36 < 99) then vg36 else 99).toInt ≤ vg36.toInt)) ∧ ((bif decide (vg36 < 99) then vg36 else 99).toInt = (99 : Int32).toInt ∨ (bif decide (vg36 < 99) then vg36 else 99).toInt = vg36.toInt) := kd_min
      refine ko_steps mi_in31 1 _ (117, [(3, .int vg36), (0, .ref 50), (1, .int x1), (2, .int x2)], [.int (bif decide (vg36 < 99) then vg36 else 99), .int 0], (0, 0), ks ig36 ag36 qg36 rg36) (by rfl) ?_
      generalize (bif decide (vg36 < 99) then vg36 else 99) = m37 at m38 ⊢
      have m40 : (((0 : Int32).toInt ≤ (bif decide (0 < m37) then m37 else 0).toInt) ∧ (m37.toInt ≤ (bif decide (0 < m37) then m37 else 0).toInt)) ∧ ((bif decide (0 < m37) then m37 else 0).toInt = (0 : Int32).toInt ∨ (bif decide (0 < m37) then m37 else 0).toInt = m37.toInt) := kd_max
      refine ko_steps mi_in31 1 _ (120, [(3, .int vg36), (0, .ref 50), (1, .int x1), (2, .int x2)], [.int (bif decide (0 < m37) then m37 else 0)], (0, 0), ks ig36 ag36 qg36 rg36) (by rfl) ?_
      generalize (bif decide (0 < m37) then m37 else 0) = m39 at m40 ⊢
      exact ko_ret mi_in31 (by rfl) (hP m39 _ _ _ _ hGg36 trivial)
  ·
    have eRr_1 : r 1 = 100 := eRr_1
    refine ko_eq (x1 := (29, [(3, .int (((5 * ((a 52).getD x1.toNatClampNeg 0)) + ((a 53).getD x1.toNatClampNeg 0)) - (2 * ((a 55).getD x1.toNatClampNeg 0)))), (0, .ref 50), (1, .int x1), (2, .int x2)], [.ref 100], (0, 0), ks i a q r)) (by rw [eRr_1]) ?_
    have fi_6400 : ((0 : Int) ≤ (i 6400).toInt) ∧ ((i 6400).toInt ≤ 1) := hG.I.1 6400
    refine ko_steps mi_in31 1 _ (32, [(3, .int (((5 * ((a 52).getD x1.toNatClampNeg 0)) + ((a 53).getD x1.toNatClampNeg 0)) - (2 * ((a 55).getD x1.toNatClampNeg 0)))), (0, .ref 50), (1, .int x1), (2, .int x2)], [.int (i 6400)], (0, 0), ks i a q r) (by rfl) ?_
    refine ko_if mi_in31 ((i 6400) == 0) 110 35 ([(3, .int (((5 * ((a 52).getD x1.toNatClampNeg 0)) + ((a 53).getD x1.toNatClampNeg 0)) - (2 * ((a 55).getD x1.toNatClampNeg 0)))), (0, .ref 50), (1, .int x1), (2, .int x2)], [], (0, 0), ks i a q r) (by rfl) (fun c => ?_) (fun c => ?_)
    ·
      have c41 : (i 6400).toInt = (0 : Int32).toInt := kd_eq c; clear c
      refine ko_steps mi_in31 3 _ (114, [(3, .int (((5 * ((a 52).getD x1.toNatClampNeg 0)) + ((a 53).getD x1.toNatClampNeg 0)) - (2 * ((a 55).getD x1.toNatClampNeg 0)))), (0, .ref 50), (1, .int x1), (2, .int x2)], [.int (((5 * ((a 52).getD x1.toNatClampNeg 0)) + ((a 53).getD x1.toNatClampNeg 0)) - (2 * ((a 55).getD x1.toNatClampNeg 0))), .int 99, .int 0], (0, 0), ks i a q r) (by rfl) ?_
      have m43 : (((bif decide ((((5 * ((a 52).getD x1.toNatClampNeg 0)) + ((a 53).getD x1.toNatClampNeg 0)) - (2 * ((a 55).getD x1.toNatClampNeg 0))) < 99) then (((5 * ((a 52).getD x1.toNatClampNeg 0)) + ((a 53).getD x1.toNatClampNeg 0)) - (2 * ((a 55).getD x1.toNatClampNeg 0))) else 99).toInt ≤ (99 : Int32).toInt) ∧ ((bif decide ((((5 * ((a 52).getD x1.toNatClampNeg 0)) + ((a 53).getD x1.toNatClampNeg 0)) - (2 * ((a 55).getD x1.toNatClampNeg 0))) < 99) then (((5 * ((a 52).getD x1.toNatClampNeg 0)) + ((a 53).getD x1.toNatClampNeg 0)) - (2 * ((a 55).getD x1.toNatClampNeg 0))) else 99).toInt ≤ (((5 * ((a 52).getD x1.toNatClampNeg 0)) + ((a 53).getD x1.toNatClampNeg 0)) - (2 * ((a 55).getD x1.toNatClampNeg 0))).toInt)) ∧ ((bif decide ((((5 * ((a 52).getD x1.toNatClampNeg 0)) + ((a 53).getD x1.toNatClampNeg 0)) - (2 * ((a 55).getD x1.toNatClampNeg 0))) < 99) then (((5 * ((a 52).getD x1.toNatClampNeg 0)) + ((a 53).getD x1.toNatClampNeg 0)) - (2 * ((a 55).getD x1.toNatClampNeg 0))) else 99).toInt = (99 : Int32).toInt ∨ (bif decide ((((5 * ((a 52).getD x1.toNatClampNeg 0)) + ((a 53).getD x1.toNatClampNeg 0)) - (2 * ((a 55).getD x1.toNatClampNeg 0))) < 99) then (((5 * ((a 52).getD x1.toNatClampNeg 0)) + ((a 53).getD x1.toNatClampNeg 0)) - (2 * ((a 55).getD x1.toNatClampNeg 0))) else 99).toInt = (((5 * ((a 52).getD x1.toNatClampNeg 0)) + ((a 53).getD x1.toNatClampNeg 0)) - (2 * ((a 55).getD x1.toNatClampNeg 0))).toInt) := kd_min
      refine ko_steps mi_in31 1 _ (117, [(3, .int (((5 * ((a 52).getD x1.toNatClampNeg 0)) + ((a 53).getD x1.toNatClampNeg 0)) - (2 * ((a 55).getD x1.toNatClampNeg 0)))), (0, .ref 50), (1, .int x1), (2, .int x2)], [.int (bif decide ((((5 * ((a 52).getD x1.toNatClampNeg 0)) + ((a 53).getD x1.toNatClampNeg 0)) - (2 * ((a 55).getD x1.toNatClampNeg 0))) < 99) then (((5 * ((a 52).getD x1.toNatClampNeg 0)) + ((a 53).getD x1.toNatClampNeg 0)) - (2 * ((a 55).getD x1.toNatClampNeg 0))) else 99), .int 0], (0, 0), ks i a q r) (by rfl) ?_
      generalize (bif decide ((((5 * ((a 52).getD x1.toNatClampNeg 0)) + ((a 53).getD x1.toNatClampNeg 0)) - (2 * ((a 55).getD x1.toNatClampNeg 0))) < 99) then (((5 * ((a 52).getD x1.toNatClampNeg 0)) + ((a 53).getD x1.toNatClampNeg 0)) - (2 * ((a 55).getD x1.toNatClampNeg 0))) else 99) = m42 at m43 ⊢
      have m45 : (((0 : Int32).toInt ≤ (bif decide (0 < m42) then m42 else 0).toInt) ∧ (m42.toInt ≤ (bif decide (0 < m42) then m42 else 0).toInt)) ∧ ((bif decide (0 < m42) then m42 else 0).toInt = (0 : Int32).toInt ∨ (bif decide (0 < m42) then m42 else 0).toInt = m42.toInt) := kd_max
      refine ko_steps mi_in31 1 _ (120, [(3, .int (((5 * ((a 52).getD x1.toNatClampNeg 0)) + ((a 53).getD x1.toNatClampNeg 0)) - (2 * ((a 55).getD x1.toNatClampNeg 0)))), (0, .ref 50), (1, .int x1), (2, .int x2)], [.int (bif decide (0 < m42) then m42 else 0)], (0, 0), ks i a q r) (by rfl) ?_
      generalize (bif decide (0 < m42) then m42 else 0) = m44 at m45 ⊢
      exact ko_ret mi_in31 (by rfl) (hP m44 _ _ _ _ hG trivial)
    ·
      have c46 : (i 6400).toInt ≠ (0 : Int32).toInt := kd_eqF c; clear c
      refine ko_steps mi_in31 6 _ (45, [(3, .int (((5 * ((a 52).getD x1.toNatClampNeg 0)) + ((a 53).getD x1.toNatClampNeg 0)) - (2 * ((a 55).getD x1.toNatClampNeg 0)))), (0, .ref 50), (1, .int x1), (2, .int x2)], [.int x1, .ref 52, .int 0, .ref 73], (0, 0), ks i a q r) (by rfl) ?_
      refine ko_iald3 mi_in31 (n := 8) (c := 8) (ax := (0, 0, 0, 0, 0)) (by rfl) (by rfl) (ksG52 _ _ _ _) (hG.I.2.1 52) rfl (oz3 hp0.1) (oz1032 hp0.2) ?_
      refine ko_iast3 mi_in31 (n := 6) (c := 6) (ax := (0, 0, 0, 0, 0)) (by rfl) (by rfl) (ksG73 _ _ _ _) (ksA73 _ _ _ _) (hG.I.2.1 73) rfl (oz46 kn0) (oz255 kn0) ?_
      intro a47 ea47 fa47
      have hJ47 := kG_a3 hG 73 rfl ea47 fa47 (kd_bd _)
      refine ko_steps mi_in31 4 _ (53, [(3, .int (((5 * ((a 52).getD x1.toNatClampNeg 0)) + ((a 53).getD x1.toNatClampNeg 0)) - (2 * ((a 55).getD x1.toNatClampNeg 0)))), (0, .ref 50), (1, .int x1), (2, .int x2)], [.int x2, .int 1, .ref 73], (0, 0), ks i a47 q r) (by rfl) ?_
      refine ko_iast3 mi_in31 (n := 6) (c := 6) (ax := (0, 0, 0, 0, 0)) (by rfl) (by rfl) (ksG73 _ _ _ _) (ksA73 _ _ _ _) (hJ47.I.2.1 73) rfl (oz246 kn1) (oz247 kn1) ?_
      intro a48 ea48 fa48
      have hJ48 := kG_a3 hJ47 73 rfl ea48 fa48 (kd_bd _)
      refine ko_steps mi_in31 6 _ (64, [(3, .int (((5 * ((a 52).getD x1.toNatClampNeg 0)) + ((a 53).getD x1.toNatClampNeg 0)) - (2 * ((a 55).getD x1.toNatClampNeg 0)))), (0, .ref 50), (1, .int x1), (2, .int x2)], [.int x1, .ref 53, .int 2, .ref 73], (0, 0), ks i a48 q r) (by rfl) ?_
      refine ko_iald3 mi_in31 (n := 8) (c := 8) (ax := (0, 0, 0, 0, 0)) (by rfl) (by rfl) (ksG53 _ _ _ _) (hJ48.I.2.1 53) rfl (oz3 hp0.1) (oz1032 hp0.2) ?_
      refine ko_iast3 mi_in31 (n := 6) (c := 6) (ax := (0, 0, 0, 0, 0)) (by rfl) (by rfl) (ksG73 _ _ _ _) (ksA73 _ _ _ _) (hJ48.I.2.1 73) rfl (oz256 kn2) (oz257 kn2) ?_
      intro a49 ea49 fa49
      have hJ49 := kG_a3 hJ48 73 rfl ea49 fa49 (kd_bd _)
      refine ko_steps mi_in31 5 _ (75, [(3, .int (((5 * ((a 52).getD x1.toNatClampNeg 0)) + ((a 53).getD x1.toNatClampNeg 0)) - (2 * ((a 55).getD x1.toNatClampNeg 0)))), (0, .ref 50), (1, .int x1), (2, .int x2)], [.int (i 3209), .int 3, .ref 73], (0, 0), ks i a49 q r) (by rfl) ?_
      refine ko_iast3 mi_in31 (n := 6) (c := 6) (ax := (0, 0, 0, 0, 0)) (by rfl) (by rfl) (ksG73 _ _ _ _) (ksA73 _ _ _ _) (hJ49.I.2.1 73) rfl (oz260 kn3) (oz261 kn3) ?_
      intro a50 ea50 fa50
      have hJ50 := kG_a3 hJ49 73 rfl ea50 fa50 (kd_bd _)
      refine ko_steps mi_in31 6 _ (86, [(3, .int (((5 * ((a 52).getD x1.toNatClampNeg 0)) + ((a 53).getD x1.toNatClampNeg 0)) - (2 * ((a 55).getD x1.toNatClampNeg 0)))), (0, .ref 50), (1, .int x1), (2, .int x2)], [.int x1, .ref 55, .int 4, .ref 73], (0, 0), ks i a50 q r) (by rfl) ?_
      refine ko_iald3 mi_in31 (n := 8) (c := 8) (ax := (0, 0, 0, 0, 0)) (by rfl) (by rfl) (ksG55 _ _ _ _) (hJ50.I.2.1 55) rfl (oz3 hp0.1) (oz1032 hp0.2) ?_
      refine ko_iast3 mi_in31 (n := 6) (c := 6) (ax := (0, 0, 0, 0, 0)) (by rfl) (by rfl) (ksG73 _ _ _ _) (ksA73 _ _ _ _) (hJ50.I.2.1 73) rfl (oz262 kn4) (oz263 kn4) ?_
      intro a51 ea51 fa51
      have hJ51 := kG_a3 hJ50 73 rfl ea51 fa51 (kd_bd _)
      refine ko_steps mi_in31 5 _ (97, [(3, .int (((5 * ((a 52).getD x1.toNatClampNeg 0)) + ((a 53).getD x1.toNatClampNeg 0)) - (2 * ((a 55).getD x1.toNatClampNeg 0)))), (0, .ref 50), (1, .int x1), (2, .int x2)], [.int (i 3208), .int 5, .ref 73], (0, 0), ks i a51 q r) (by rfl) ?_
      refine ko_iast3 mi_in31 (n := 6) (c := 6) (ax := (0, 0, 0, 0, 0)) (by rfl) (by rfl) (ksG73 _ _ _ _) (ksA73 _ _ _ _) (hJ51.I.2.1 73) rfl (oz264 kn5) (oz265 kn5) ?_
      intro a52 ea52 fa52
      have hJ52 := kG_a3 hJ51 73 rfl ea52 fa52 (kd_bd _)
      refine ko_steps mi_in31 2 _ (102, [(3, .int (((5 * ((a 52).getD x1.toNatClampNeg 0)) + ((a 53).getD x1.toNatClampNeg 0)) - (2 * ((a 55).getD x1.toNatClampNeg 0)))), (0, .ref 50), (1, .int x1), (2, .int x2)], [.ref (r 1)], (0, 0), ks i a52 q r) (by rfl) ?_
      refine ko_eq (x1 := (102, [(3, .int (((5 * ((a 52).getD x1.toNatClampNeg 0)) + ((a 53).getD x1.toNatClampNeg 0)) - (2 * ((a 55).getD x1.toNatClampNeg 0)))), (0, .ref 50), (1, .int x1), (2, .int x2)], [.ref 100], (0, 0), ks i a52 q r)) (by rw [eRr_1]) ?_
      refine ko_steps mi_in31 2 _ (106, [(3, .int (((5 * ((a 52).getD x1.toNatClampNeg 0)) + ((a 53).getD x1.toNatClampNeg 0)) - (2 * ((a 55).getD x1.toNatClampNeg 0)))), (0, .ref 50), (1, .int x1), (2, .int x2)], [.ref 73, .ref 100], (0, 0), ks i a52 q r) (by rfl) ?_
      refine ko_callI mi_in31 (pc := 106) (ls := [(3, .int (((5 * ((a 52).getD x1.toNatClampNeg 0)) + ((a 53).getD x1.toNatClampNeg 0)) - (2 * ((a 55).getD x1.toNatClampNeg 0)))), (0, .ref 50), (1, .int x1), (2, .int x2)]) (st := [.ref 73, .ref 100]) (h := ks i a52 q r) (i := (.invokevirtual 126, 3, 21, 0, 9, 0, 224)) (by rfl) (by rfl) (cy := mi_c21) rfl rfl (kc21_100_73 hJ52.I hJ52.R ) (by decide) ?_
      intro vg53 ig53 ag53 qg53 rg53 kg53 hg53
      have hGg53 := kG_call hJ52 kg53 (by decide +kernel)
      have eRrg53_1 : rg53 1 = 100 := (kg53.fr 1 rfl).trans eRr_1
      refine ko_steps mi_in31 4 _ (114, [(3, .int vg53), (0, .ref 50), (1, .int x1), (2, .int x2)], [.int vg53, .int 99, .int 0], (0, 0), ks ig53 ag53 qg53 rg53) (by rfl) ?_
      have m55 : (((bif decide (vg53 < 99) then vg53 else 99).toInt ≤ (99 : Int32).toInt) ∧ ((bif decide (vg53 < 99) then vg53 else 99).toInt ≤ vg53.toInt)) ∧ ((bif decide (vg53 < 99) then vg53 else 99).toInt = (99 : Int32).toInt ∨ (bif decide (vg53 < 99) then vg53 else 99).toInt = vg53.toInt) := kd_min
      refine ko_steps mi_in31 1 _ (117, [(3, .int vg53), (0, .ref 50), (1, .int x1), (2, .int x2)], [.int (bif decide (vg53 < 99) then vg53 else 99), .int 0], (0, 0), ks ig53 ag53 qg53 rg53) (by rfl) ?_
      generalize (bif decide (vg53 < 99) then vg53 else 99) = m54 at m55 ⊢
      have m57 : (((0 : Int32).toInt ≤ (bif decide (0 < m54) then m54 else 0).toInt) ∧ (m54.toInt ≤ (bif decide (0 < m54) then m54 else 0).toInt)) ∧ ((bif decide (0 < m54) then m54 else 0).toInt = (0 : Int32).toInt ∨ (bif decide (0 < m54) then m54 else 0).toInt = m54.toInt) := kd_max
      refine ko_steps mi_in31 1 _ (120, [(3, .int vg53), (0, .ref 50), (1, .int x1), (2, .int x2)], [.int (bif decide (0 < m54) then m54 else 0)], (0, 0), ks ig53 ag53 qg53 rg53) (by rfl) ?_
      generalize (bif decide (0 < m54) then m54 else 0) = m56 at m57 ⊢
      exact ko_ret mi_in31 (by rfl) (hP m56 _ _ _ _ hGg53 trivial)
def w1_56 : kW := ([3586], [57, 58], [], [])
set_option maxRecDepth 100000 in
theorem kc1_56 {i : Nat → Int32} {a : Nat → List Int32} {q : Nat → List Int64} {r : Nat → Nat} (hI : kI i a q) (hr : kr r) (x1 : Int32) (x2 : Int32) : km 1 1 [.ref 56, .int x1, .int x2] (ks i a q r) (kVN w1_56 i a q r (fun i1 a1 q1 r1 => True)) := by
  have hG := kG_self w1_56 hI hr
  refine km_ofN (q := (mi_h1, mi_c1)) rfl (by decide) (Nat.le_of_ble_eq_true rfl) ?_
  intro P hP
  have fi_3586 : ((0 : Int) ≤ (i 3586).toInt) ∧ ((i 3586).toInt ≤ 5) := hG.I.1 3586
  refine ko_steps mi_in1 3 _ (5, [(0, .ref 56), (1, .int x1), (2, .int x2)], [.int 5, .int (i 3586)], (0, 0), ks i a q r) (by rfl) ?_
  refine ko_if mi_in1 (decide (5 ≤ (i 3586))) 38 8 ([(0, .ref 56), (1, .int x1), (2, .int x2)], [], (0, 0), ks i a q r) (by rfl) (fun c => ?_) (fun c => ?_)
  ·
    have c1 : (5 : Int32).toInt ≤ (i 3586).toInt := kd_le c; clear c
    exact ko_ret mi_in1 (by rfl) (hP  _ _ _ _ hG trivial)
  ·
    have c2 : (i 3586).toInt < (5 : Int32).toInt := kd_leF c; clear c
    refine ko_steps mi_in1 5 _ (17, [(0, .ref 56), (1, .int x1), (2, .int x2)], [.int x1, .int (i 3586), .ref 57], (0, 0), ks i a q r) (by rfl) ?_
    refine ko_iast3 mi_in1 (n := 5) (c := 5) (ax := (0, 0, 0, 0, 0)) (by rfl) (by rfl) (ksG57 _ _ _ _) (ksA57 _ _ _ _) (hG.I.2.1 57) rfl (oz3 fi_3586.1) (oz560 c2 kn5) ?_
    intro a3 ea3 fa3
    have hJ3 := kG_a3 hG 57 rfl ea3 fa3 (kd_bd _)
    refine ko_steps mi_in1 5 _ (27, [(0, .ref 56), (1, .int x1), (2, .int x2)], [.int x2, .int (i 3586), .ref 58], (0, 0), ks i a3 q r) (by rfl) ?_
    refine ko_iast3 mi_in1 (n := 5) (c := 5) (ax := (0, 0, 0, 0, 0)) (by rfl) (by rfl) (ksG58 _ _ _ _) (ksA58 _ _ _ _) (hJ3.I.2.1 58) rfl (oz3 fi_3586.1) (oz560 c2 kn5) ?_
    intro a4 ea4 fa4
    have hJ4 := kG_a3 hJ3 58 rfl ea4 fa4 (kd_bd _)
    have s5 : ((i 3586) + 1).toInt = (i 3586).toInt + (1 : Int32).toInt := kd_add (oz12 fi_3586.1 kn1) (oz323 fi_3586.2 kn1)
    have hJ6 := kG_i hJ4 3586 rfl (v := ((i 3586) + 1)) ⟨(oz14 fi_3586.1 s5 kn1), (oz1044 c2 s5 kn5 kn1)⟩
    refine ko_steps mi_in1 6 _ (38, [(0, .ref 56), (1, .int x1), (2, .int x2)], [], (0, 0), ks (ku i 3586 ((i 3586) + 1)) a4 q r) (by rfl) ?_
    exact ko_ret mi_in1 (by rfl) (hP  _ _ _ _ hJ6 trivial)
def w2_56 : kW := ([3586], [57, 58], [], [])
set_option maxRecDepth 100000 in
theorem kc2_56 {i : Nat → Int32} {a : Nat → List Int32} {q : Nat → List Int64} {r : Nat → Nat} (hI : kI i a q) (hr : kr r)  : km 1 2 [.ref 56] (ks i a q r) (kVN w2_56 i a q r (fun i1 a1 q1 r1 => True)) := by
  have hG := kG_self w2_56 hI hr
  refine km_ofN (q := (mi_h2, mi_c2)) rfl (by decide) (Nat.le_of_ble_eq_true rfl) ?_
  intro P hP
  have fi_3586 : ((0 : Int) ≤ (i 3586).toInt) ∧ ((i 3586).toInt ≤ 5) := hG.I.1 3586
  refine ko_steps mi_in2 2 _ (4, [(0, .ref 56)], [.int (i 3586)], (0, 0), ks i a q r) (by rfl) ?_
  refine ko_if mi_in2 (decide ((i 3586) ≤ 0)) 51 7 ([(0, .ref 56)], [], (0, 0), ks i a q r) (by rfl) (fun c => ?_) (fun c => ?_)
  ·
    have c1 : (i 3586).toInt ≤ (0 : Int32).toInt := kd_le c; clear c
    exact ko_ret mi_in2 (by rfl) (hP  _ _ _ _ hG trivial)
  ·
    have c2 : (0 : Int32).toInt < (i 3586).toInt := kd_leF c; clear c
    have s3 : ((i 3586) - 1).toInt = (i 3586).toInt - (1 : Int32).toInt := kd_sub (oz1040 c2 kn0 kn1) (oz342 fi_3586.2 kn1)
    have hJ4 := kG_i hG 3586 rfl (v := ((i 3586) - 1)) ⟨(oz1041 c2 s3 kn0 kn1), (oz1047 fi_3586.2 s3 kn1)⟩
    refine ko_steps mi_in2 14 _ (31, [(0, .ref 56)], [.int ((i 3586) - 1), .int 0, .ref 57, .int 1, .ref 57], (0, 0), ks (ku i 3586 ((i 3586) - 1)) a q r) (by rfl) ?_
    refine ko_copyI3 mi_in2 (n := 5) (c := 5) (m := 5) (b := 5) (by rfl) (by rfl) (by rfl) (by rfl) (ksG57 _ _ _ _) (ksG57 _ _ _ _) (ksA57 _ _ _ _) (hJ4.I.2.1 57) rfl (hJ4.I.2.1 57) rfl (oz1041 c2 s3 kn0 kn1) (oz246 kn1) (oz46 kn0) (oz1048 fi_3586.2 s3 kn1) (oz1049 fi_3586.2 s3 kn1 kn0) ?_
    intro a6 ea6 fa6
    have hJ6 := kG_al3 hJ4 57 rfl ea6 fa6 (kcpy_len2 (n := 5) (c := 5) (m := 5) (b := 5) (sp := 1) (dp := 0) (n1 := ((i 3586) - 1)) (hJ4.I.2.1 57) rfl (hJ4.I.2.1 57) rfl (oz1041 c2 s3 kn0 kn1) (oz246 kn1) (oz46 kn0) (oz1048 fi_3586.2 s3 kn1) (oz1049 fi_3586.2 s3 kn1 kn0)) (fun _ => kd_bd _)
    refine ko_steps mi_in2 8 _ (48, [(0, .ref 56)], [.int ((i 3586) - 1), .int 0, .ref 58, .int 1, .ref 58], (0, 0), ks (ku i 3586 ((i 3586) - 1)) a6 q r) (by rfl) ?_
    refine ko_copyI3 mi_in2 (n := 5) (c := 5) (m := 5) (b := 5) (by rfl) (by rfl) (by rfl) (by rfl) (ksG58 _ _ _ _) (ksG58 _ _ _ _) (ksA58 _ _ _ _) (hJ6.I.2.1 58) rfl (hJ6.I.2.1 58) rfl (oz1041 c2 s3 kn0 kn1) (oz246 kn1) (oz46 kn0) (oz1048 fi_3586.2 s3 kn1) (oz1049 fi_3586.2 s3 kn1 kn0) ?_
    intro a8 ea8 fa8
    have hJ8 := kG_al3 hJ6 58 rfl ea8 fa8 (kcpy_len2 (n := 5) (c := 5) (m := 5) (b := 5) (sp := 1) (dp := 0) (n1 := ((i 3586) - 1)) (hJ6.I.2.1 58) rfl (hJ6.I.2.1 58) rfl (oz1041 c2 s3 kn0 kn1) (oz246 kn1) (oz46 kn0) (oz1048 fi_3586.2 s3 kn1) (oz1049 fi_3586.2 s3 kn1 kn0)) (fun _ => kd_bd _)
    exact ko_ret mi_in2 (by rfl) (hP  _ _ _ _ hJ8 trivial)
def w30_50 : kW := ([3214, 3215, 3586], [51, 57, 58, 63, 65, 66, 67, 68, 69, 70, 71, 72], [], [])
set_option maxRecDepth 100000 in
theorem kc30_50 {i : Nat → Int32} {a : Nat → List Int32} {q : Nat → List Int64} {r : Nat → Nat} (hI : kI i a q) (hr : kr r) (x1 : Int32) (hp0 : ((0 : Int) ≤ x1.toInt) ∧ (x1.toInt ≤ 7)) : km 3 30 [.ref 50, .int x1] (ks i a q r) (kVN w30_50 i a q r (fun i1 a1 q1 r1 => True)) := by
  have hG := kG_self w30_50 hI hr
  refine km_ofN (q := (mi_h30, mi_c30)) rfl (by decide) (Nat.le_of_ble_eq_true rfl) ?_
  intro P hP
  refine ko_steps mi_in30 4 _ (8, [(0, .ref 50), (1, .int x1)], [.int 0, .ref 57], (0, 0), ks i a q r) (by rfl) ?_
  refine ko_iald3 mi_in30 (n := 5) (c := 5) (ax := (0, 0, 0, 0, 0)) (by rfl) (by rfl) (ksG57 _ _ _ _) (hG.I.2.1 57) rfl (oz46 kn0) (oz547 kn0) ?_
  refine ko_steps mi_in30 5 _ (18, [(2, .int ((a 57).getD (0 : Int32).toNatClampNeg 0)), (0, .ref 50), (1, .int x1)], [.int 0, .ref 58], (0, 0), ks i a q r) (by rfl) ?_
  refine ko_iald3 mi_in30 (n := 5) (c := 5) (ax := (0, 0, 0, 0, 0)) (by rfl) (by rfl) (ksG58 _ _ _ _) (hG.I.2.1 58) rfl (oz46 kn0) (oz547 kn0) ?_
  refine ko_steps mi_in30 3 _ (24, [(3, .int ((a 58).getD (0 : Int32).toNatClampNeg 0)), (2, .int ((a 57).getD (0 : Int32).toNatClampNeg 0)), (0, .ref 50), (1, .int x1)], [.ref 56], (0, 0), ks i a q r) (by rfl) ?_
  refine ko_callN mi_in30 (pc := 24) (ls := [(3, .int ((a 58).getD (0 : Int32).toNatClampNeg 0)), (2, .int ((a 57).getD (0 : Int32).toNatClampNeg 0)), (0, .ref 50), (1, .int x1)]) (st := [.ref 56]) (h := ks i a q r) (i := (.invokevirtual 114, 3, 2, 0, 9, 0, 222)) (by rfl) (by rfl) (cy := mi_c2) rfl rfl (kc2_56 hG.I hG.R ) (by decide) ?_
  intro ig1 ag1 qg1 rg1 kg1 hg1
  have hGg1 := kG_call hG kg1 (by decide +kernel)
  have efig1_3214 : (ig1 3214).toInt = (i 3214).toInt := kg1.ti 3214 rfl
  refine ko_steps mi_in30 3 _ (33, [(3, .int ((a 58).getD (0 : Int32).toNatClampNeg 0)), (2, .int ((a 57).getD (0 : Int32).toNatClampNeg 0)), (0, .ref 50), (1, .int x1)], [.int 8, .int (ig1 3214)], (0, 0), ks ig1 ag1 qg1 rg1) (by rfl) ?_
  refine ko_if mi_in30 ((ig1 3214) != 8) 41 36 ([(3, .int ((a 58).getD (0 : Int32).toNatClampNeg 0)), (2, .int ((a 57).getD (0 : Int32).toNatClampNeg 0)), (0, .ref 50), (1, .int x1)], [], (0, 0), ks ig1 ag1 qg1 rg1) (by rfl) (fun c => ?_) (fun c => ?_)
  ·
    have c2 : (ig1 3214).toInt ≠ (8 : Int32).toInt := kd_ne c; clear c
    refine ko_steps mi_in30 2 _ (43, [(3, .int ((a 58).getD (0 : Int32).toNatClampNeg 0)), (2, .int ((a 57).getD (0 : Int32).toNatClampNeg 0)), (0, .ref 50), (1, .int x1)], [.int x1, .int ((a 57).getD (0 : Int32).toNatClampNeg 0)], (0, 0), ks ig1 ag1 qg1 rg1) (by rfl) ?_
    refine ko_if mi_in30 (((a 57).getD (0 : Int32).toNatClampNeg 0) == x1) 54 46 ([(3, .int ((a 58).getD (0 : Int32).toNatClampNeg 0)), (2, .int ((a 57).getD (0 : Int32).toNatClampNeg 0)), (0, .ref 50), (1, .int x1)], [], (0, 0), ks ig1 ag1 qg1 rg1) (by rfl) (fun c => ?_) (fun c => ?_)
    ·
      have c3 : ((a 57).getD (0 : Int32).toNatClampNeg 0).toInt = x1.toInt := kd_eq c; clear c
      exact ko_ret mi_in30 (by rfl) (hP  _ _ _ _ hGg1 trivial)
    ·
      have c4 : ((a 57).getD (0 : Int32).toNatClampNeg 0).toInt ≠ x1.toInt := kd_eqF c; clear c
      refine ko_steps mi_in30 2 _ (48, [(3, .int ((a 58).getD (0 : Int32).toNatClampNeg 0)), (2, .int ((a 57).getD (0 : Int32).toNatClampNeg 0)), (0, .ref 50), (1, .int x1)], [.int ((a 57).getD (0 : Int32).toNatClampNeg 0), .ref 50], (0, 0), ks ig1 ag1 qg1 rg1) (by rfl) ?_
      refine ko_callPI mi_in30 (pc := 48) (ls := [(3, .int ((a 58).getD (0 : Int32).toNatClampNeg 0)), (2, .int ((a 57).getD (0 : Int32).toNatClampNeg 0)), (0, .ref 50), (1, .int x1)]) (st := [.int ((a 57).getD (0 : Int32).toNatClampNeg 0), .ref 50]) (h := ks ig1 ag1 qg1 rg1) (i := (.invokevirtual 85, 3, 24, 0, 9, 0, 165)) (by rfl) (by rfl) (cy := mi_c24) rfl rfl (kc24_50 hGg1.I hGg1.R ((a 57).getD (0 : Int32).toNatClampNeg 0)) (by decide) ?_
      intro vg5 hg5
      rcases hg5 with ⟨eg5, hg5⟩ | ⟨eg5, hg5⟩
      ·
        subst eg5
        have fig1_3200 : ((0 : Int) ≤ (ig1 3200).toInt) ∧ ((ig1 3200).toInt ≤ 8) := hGg1.I.1 3200
        have fi_3200 : ((0 : Int) ≤ (i 3200).toInt) ∧ ((i 3200).toInt ≤ 8) := hG.I.1 3200
        have efig1_3200 : (ig1 3200).toInt = (i 3200).toInt := kg1.ti 3200 rfl
        have z6 : ((0 : Int) ≤ ((a 57).getD (0 : Int32).toNatClampNeg 0).toInt) ∧ (((a 57).getD (0 : Int32).toNatClampNeg 0).toInt < (ig1 3200).toInt) := hg5
        refine ko_steps mi_in30 5 _ (61, [(3, .int ((a 58).getD (0 : Int32).toNatClampNeg 0)), (2, .int ((a 57).getD (0 : Int32).toNatClampNeg 0)), (0, .ref 50), (1, .int x1)], [.int ((a 57).getD (0 : Int32).toNatClampNeg 0), .ref 51, .int ((a 58).getD (0 : Int32).toNatClampNeg 0)], (0, 0), ks ig1 ag1 qg1 rg1) (by rfl) ?_
        refine ko_iald3 mi_in30 (n := 8) (c := 8) (ax := (0, 0, 0, 0, 0)) (by rfl) (by rfl) (ksG51 _ _ _ _) (hGg1.I.2.1 51) rfl (oz3 z6.1) (oz974 fig1_3200.2 z6.2) ?_
        have m8 : (((bif decide (((ag1 51).getD ((a 57).getD (0 : Int32).toNatClampNeg 0).toNatClampNeg 0) < ((a 58).getD (0 : Int32).toNatClampNeg 0)) then ((ag1 51).getD ((a 57).getD (0 : Int32).toNatClampNeg 0).toNatClampNeg 0) else ((a 58).getD (0 : Int32).toNatClampNeg 0)).toInt ≤ ((a 58).getD (0 : Int32).toNatClampNeg 0).toInt) ∧ ((bif decide (((ag1 51).getD ((a 57).getD (0 : Int32).toNatClampNeg 0).toNatClampNeg 0) < ((a 58).getD (0 : Int32).toNatClampNeg 0)) then ((ag1 51).getD ((a 57).getD (0 : Int32).toNatClampNeg 0).toNatClampNeg 0) else ((a 58).getD (0 : Int32).toNatClampNeg 0)).toInt ≤ ((ag1 51).getD ((a 57).getD (0 : Int32).toNatClampNeg 0).toNatClampNeg 0).toInt)) ∧ ((bif decide (((ag1 51).getD ((a 57).getD (0 : Int32).toNatClampNeg 0).toNatClampNeg 0) < ((a 58).getD (0 : Int32).toNatClampNeg 0)) then ((ag1 51).getD ((a 57).getD (0 : Int32).toNatClampNeg 0).toNatClampNeg 0) else ((a 58).getD (0 : Int32).toNatClampNeg 0)).toInt = ((a 58).getD (0 : Int32).toNatClampNeg 0).toInt ∨ (bif decide (((ag1 51).getD ((a 57).getD (0 : Int32).toNatClampNeg 0).toNatClampNeg 0) < ((a 58).getD (0 : Int32).toNatClampNeg 0)) then ((ag1 51).getD ((a 57).getD (0 : Int32).toNatClampNeg 0).toNatClampNeg 0) else ((a 58).getD (0 : Int32).toNatClampNeg 0)).toInt = ((ag1 51).getD ((a 57).getD (0 : Int32).toNatClampNeg 0).toNatClampNeg 0).toInt) := kd_min
        refine ko_steps mi_in30 1 _ (65, [(3, .int ((a 58).getD (0 : Int32).toNatClampNeg 0)), (2, .int ((a 57).getD (0 : Int32).toNatClampNeg 0)), (0, .ref 50), (1, .int x1)], [.int (bif decide (((ag1 51).getD ((a 57).getD (0 : Int32).toNatClampNeg 0).toNatClampNeg 0) < ((a 58).getD (0 : Int32).toNatClampNeg 0)) then ((ag1 51).getD ((a 57).getD (0 : Int32).toNatClampNeg 0).toNatClampNeg 0) else ((a 58).getD (0 : Int32).toNatClampNeg 0))], (0, 0), ks ig1 ag1 qg1 rg1) (by rfl) ?_
        generalize (bif decide (((ag1 51).getD ((a 57).getD (0 : Int32).toNatClampNeg 0).toNatClampNeg 0) < ((a 58).getD (0 : Int32).toNatClampNeg 0)) then ((ag1 51).getD ((a 57).getD (0 : Int32).toNatClampNeg 0).toNatClampNeg 0) else ((a 58).getD (0 : Int32).toNatClampNeg 0)) = m7 at m8 ⊢
        refine ko_steps mi_in30 5 _ (73, [(4, .int m7), (3, .int ((a 58).getD (0 : Int32).toNatClampNeg 0)), (2, .int ((a 57).getD (0 : Int32).toNatClampNeg 0)), (0, .ref 50), (1, .int x1)], [.int ((a 57).getD (0 : Int32).toNatClampNeg 0), .ref 51, .int ((a 57).getD (0 : Int32).toNatClampNeg 0), .ref 51], (0, 0), ks ig1 ag1 qg1 rg1) (by rfl) ?_
        refine ko_iald3 mi_in30 (n := 8) (c := 8) (ax := (0, 0, 0, 0, 0)) (by rfl) (by rfl) (ksG51 _ _ _ _) (hGg1.I.2.1 51) rfl (oz3 z6.1) (oz974 fig1_3200.2 z6.2) ?_
        have b9 : ((-2147483648 : Int) ≤ ((ag1 51).getD ((a 57).getD (0 : Int32).toNatClampNeg 0).toNatClampNeg 0).toInt) ∧ (((ag1 51).getD ((a 57).getD (0 : Int32).toNatClampNeg 0).toNatClampNeg 0).toInt ≤ 2147483647) := kd_bd ((ag1 51).getD ((a 57).getD (0 : Int32).toNatClampNeg 0).toNatClampNeg 0)
        have b10 : ((-2147483648 : Int) ≤ m7.toInt) ∧ (m7.toInt ≤ 2147483647) := kd_bd m7
        refine ko_steps mi_in30 2 _ (77, [(4, .int m7), (3, .int ((a 58).getD (0 : Int32).toNatClampNeg 0)), (2, .int ((a 57).getD (0 : Int32).toNatClampNeg 0)), (0, .ref 50), (1, .int x1)], [.int (((ag1 51).getD ((a 57).getD (0 : Int32).toNatClampNeg 0).toNatClampNeg 0) - m7), .int ((a 57).getD (0 : Int32).toNatClampNeg 0), .ref 51], (0, 0), ks ig1 ag1 qg1 rg1) (by rfl) ?_
        refine ko_iast3 mi_in30 (n := 8) (c := 8) (ax := (0, 0, 0, 0, 0)) (by rfl) (by rfl) (ksG51 _ _ _ _) (ksA51 _ _ _ _) (hGg1.I.2.1 51) rfl (oz3 z6.1) (oz974 fig1_3200.2 z6.2) ?_
        intro a11 ea11 fa11
        have hJ11 := kG_a3 hGg1 51 rfl ea11 fa11 (kd_bd _)
        refine ko_steps mi_in30 7 _ (91, [(4, .int m7), (3, .int ((a 58).getD (0 : Int32).toNatClampNeg 0)), (2, .int ((a 57).getD (0 : Int32).toNatClampNeg 0)), (0, .ref 50), (1, .int x1)], [.int x1, .ref 51, .int 999, .int x1, .ref 51], (0, 0), ks ig1 a11 qg1 rg1) (by rfl) ?_
        refine ko_iald3 mi_in30 (n := 8) (c := 8) (ax := (0, 0, 0, 0, 0)) (by rfl) (by rfl) (ksG51 _ _ _ _) (hJ11.I.2.1 51) rfl (oz3 hp0.1) (oz1032 hp0.2) ?_
        have b12 : ((-2147483648 : Int) ≤ ((a11 51).getD x1.toNatClampNeg 0).toInt) ∧ (((a11 51).getD x1.toNatClampNeg 0).toInt ≤ 2147483647) := kd_bd ((a11 51).getD x1.toNatClampNeg 0)
        refine ko_steps mi_in30 2 _ (95, [(4, .int m7), (3, .int ((a 58).getD (0 : Int32).toNatClampNeg 0)), (2, .int ((a 57).getD (0 : Int32).toNatClampNeg 0)), (0, .ref 50), (1, .int x1)], [.int (((a11 51).getD x1.toNatClampNeg 0) + m7), .int 999, .int x1, .ref 51], (0, 0), ks ig1 a11 qg1 rg1) (by rfl) ?_
        have m14 : (((bif decide ((((a11 51).getD x1.toNatClampNeg 0) + m7) < 999) then (((a11 51).getD x1.toNatClampNeg 0) + m7) else 999).toInt ≤ (999 : Int32).toInt) ∧ ((bif decide ((((a11 51).getD x1.toNatClampNeg 0) + m7) < 999) then (((a11 51).getD x1.toNatClampNeg 0) + m7) else 999).toInt ≤ (((a11 51).getD x1.toNatClampNeg 0) + m7).toInt)) ∧ ((bif decide ((((a11 51).getD x1.toNatClampNeg 0) + m7) < 999) then (((a11 51).getD x1.toNatClampNeg 0) + m7) else 999).toInt = (999 : Int32).toInt ∨ (bif decide ((((a11 51).getD x1.toNatClampNeg 0) + m7) < 999) then (((a11 51).getD x1.toNatClampNeg 0) + m7) else 999).toInt = (((a11 51).getD x1.toNatClampNeg 0) + m7).toInt) := kd_min
        refine ko_steps mi_in30 1 _ (98, [(4, .int m7), (3, .int ((a 58).getD (0 : Int32).toNatClampNeg 0)), (2, .int ((a 57).getD (0 : Int32).toNatClampNeg 0)), (0, .ref 50), (1, .int x1)], [.int (bif decide ((((a11 51).getD x1.toNatClampNeg 0) + m7) < 999) then (((a11 51).getD x1.toNatClampNeg 0) + m7) else 999), .int x1, .ref 51], (0, 0), ks ig1 a11 qg1 rg1) (by rfl) ?_
        generalize (bif decide ((((a11 51).getD x1.toNatClampNeg 0) + m7) < 999) then (((a11 51).getD x1.toNatClampNeg 0) + m7) else 999) = m13 at m14 ⊢
        refine ko_iast3 mi_in30 (n := 8) (c := 8) (ax := (0, 0, 0, 0, 0)) (by rfl) (by rfl) (ksG51 _ _ _ _) (ksA51 _ _ _ _) (hJ11.I.2.1 51) rfl (oz3 hp0.1) (oz1032 hp0.2) ?_
        intro a15 ea15 fa15
        have hJ15 := kG_a3 hJ11 51 rfl ea15 fa15 (kd_bd _)
        have efig1_3215 : (ig1 3215).toInt = (i 3215).toInt := kg1.ti 3215 rfl
        have b16 : ((-2147483648 : Int) ≤ (ig1 3215).toInt) ∧ ((ig1 3215).toInt ≤ 2147483647) := kd_bd (ig1 3215)
        have hJ17 := kG_i hJ15 3215 rfl (v := ((ig1 3215) + m7)) (kd_bd _)
        refine ko_steps mi_in30 10 _ (116, [(4, .int m7), (3, .int ((a 58).getD (0 : Int32).toNatClampNeg 0)), (2, .int ((a 57).getD (0 : Int32).toNatClampNeg 0)), (0, .ref 50), (1, .int x1)], [.int 2, .ref 63, .int 2, .ref 63], (0, 0), ks (ku ig1 3215 ((ig1 3215) + m7)) a15 qg1 rg1) (by rfl) ?_
        refine ko_iald3 mi_in30 (n := 5) (c := 5) (ax := (0, 0, 0, 0, 0)) (by rfl) (by rfl) (ksG63 _ _ _ _) (hJ17.I.2.1 63) rfl (oz256 kn2) (oz549 kn2) ?_
        have b18 : ((-2147483648 : Int) ≤ ((a 58).getD (0 : Int32).toNatClampNeg 0).toInt) ∧ (((a 58).getD (0 : Int32).toNatClampNeg 0).toInt ≤ 2147483647) := kd_bd ((a 58).getD (0 : Int32).toNatClampNeg 0)
        have b19 : ((-2147483648 : Int) ≤ ((a15 63).getD (2 : Int32).toNatClampNeg 0).toInt) ∧ (((a15 63).getD (2 : Int32).toNatClampNeg 0).toInt ≤ 2147483647) := kd_bd ((a15 63).getD (2 : Int32).toNatClampNeg 0)
        have b20 : ((-2147483648 : Int) ≤ (((a 58).getD (0 : Int32).toNatClampNeg 0) - m7).toInt) ∧ ((((a 58).getD (0 : Int32).toNatClampNeg 0) - m7).toInt ≤ 2147483647) := kd_bd (((a 58).getD (0 : Int32).toNatClampNeg 0) - m7)
        refine ko_steps mi_in30 4 _ (122, [(4, .int m7), (3, .int ((a 58).getD (0 : Int32).toNatClampNeg 0)), (2, .int ((a 57).getD (0 : Int32).toNatClampNeg 0)), (0, .ref 50), (1, .int x1)], [.int (((a15 63).getD (2 : Int32).toNatClampNeg 0) + (((a 58).getD (0 : Int32).toNatClampNeg 0) - m7)), .int 2, .ref 63], (0, 0), ks (ku ig1 3215 ((ig1 3215) + m7)) a15 qg1 rg1) (by rfl) ?_
        refine ko_iast3 mi_in30 (n := 5) (c := 5) (ax := (0, 0, 0, 0, 0)) (by rfl) (by rfl) (ksG63 _ _ _ _) (ksA63 _ _ _ _) (hJ17.I.2.1 63) rfl (oz256 kn2) (oz549 kn2) ?_
        intro a21 ea21 fa21
        have hJ21 := kG_a3 hJ17 63 rfl ea21 fa21 (kd_bd _)
        refine ko_steps mi_in30 3 _ (128, [(4, .int m7), (3, .int ((a 58).getD (0 : Int32).toNatClampNeg 0)), (2, .int ((a 57).getD (0 : Int32).toNatClampNeg 0)), (0, .ref 50), (1, .int x1)], [.int ((a 57).getD (0 : Int32).toNatClampNeg 0), .ref 64], (0, 0), ks (ku ig1 3215 ((ig1 3215) + m7)) a21 qg1 rg1) (by rfl) ?_
        by_cases w22 : ((a 57).getD (0 : Int32).toNatClampNeg 0).toInt = 0
        ·
          refine ko_eq (x1 := (128, [(4, .int m7), (3, .int ((a 58).getD (0 : Int32).toNatClampNeg 0)), (2, .int ((a 57).getD (0 : Int32).toNatClampNeg 0)), (0, .ref 50), (1, .int x1)], [.int 0, .ref 64], (0, 0), ks (ku ig1 3215 ((ig1 3215) + m7)) a21 qg1 rg1)) (by rw [(kj_eq w22 (by decide) : ((a 57).getD (0 : Int32).toNatClampNeg 0) = 0)]) ?_
          refine ko_steps mi_in30 3 _ (131, [(4, .int m7), (3, .int ((a 58).getD (0 : Int32).toNatClampNeg 0)), (2, .int ((a 57).getD (0 : Int32).toNatClampNeg 0)), (0, .ref 50), (1, .int x1)], [.int x1, .ref 65, .int x1, .ref 65], (0, 0), ks (ku ig1 3215 ((ig1 3215) + m7)) a21 qg1 rg1) (by rfl) ?_
          refine ko_iald3 mi_in30 (n := 8) (c := 8) (ax := (0, 0, 0, 0, 0)) (by rfl) (by rfl) (ksG65 _ _ _ _) (hJ21.I.2.1 65) rfl (oz3 hp0.1) (oz1032 hp0.2) ?_
          have b23 : ((-2147483648 : Int) ≤ ((a21 65).getD x1.toNatClampNeg 0).toInt) ∧ (((a21 65).getD x1.toNatClampNeg 0).toInt ≤ 2147483647) := kd_bd ((a21 65).getD x1.toNatClampNeg 0)
          refine ko_steps mi_in30 2 _ (135, [(4, .int m7), (3, .int ((a 58).getD (0 : Int32).toNatClampNeg 0)), (2, .int ((a 57).getD (0 : Int32).toNatClampNeg 0)), (0, .ref 50), (1, .int x1)], [.int (((a21 65).getD x1.toNatClampNeg 0) + m7), .int x1, .ref 65], (0, 0), ks (ku ig1 3215 ((ig1 3215) + m7)) a21 qg1 rg1) (by rfl) ?_
          refine ko_iast3 mi_in30 (n := 8) (c := 8) (ax := (0, 0, 0, 0, 0)) (by rfl) (by rfl) (ksG65 _ _ _ _) (ksA65 _ _ _ _) (hJ21.I.2.1 65) rfl (oz3 hp0.1) (oz1032 hp0.2) ?_
          intro a24 ea24 fa24
          have hJ24 := kG_a3 hJ21 65 rfl ea24 fa24 (kd_bd _)
          exact ko_ret mi_in30 (by rfl) (hP  _ _ _ _ hJ24 trivial)
        by_cases w25 : ((a 57).getD (0 : Int32).toNatClampNeg 0).toInt = 1
        ·
          refine ko_eq (x1 := (128, [(4, .int m7), (3, .int ((a 58).getD (0 : Int32).toNatClampNeg 0)), (2, .int ((a 57).getD (0 : Int32).toNatClampNeg 0)), (0, .ref 50), (1, .int x1)], [.int 1, .ref 64], (0, 0), ks (ku ig1 3215 ((ig1 3215) + m7)) a21 qg1 rg1)) (by rw [(kj_eq w25 (by decide) : ((a 57).getD (0 : Int32).toNatClampNeg 0) = 1)]) ?_
          refine ko_steps mi_in30 3 _ (131, [(4, .int m7), (3, .int ((a 58).getD (0 : Int32).toNatClampNeg 0)), (2, .int ((a 57).getD (0 : Int32).toNatClampNeg 0)), (0, .ref 50), (1, .int x1)], [.int x1, .ref 66, .int x1, .ref 66], (0, 0), ks (ku ig1 3215 ((ig1 3215) + m7)) a21 qg1 rg1) (by rfl) ?_
          refine ko_iald3 mi_in30 (n := 8) (c := 8) (ax := (0, 0, 0, 0, 0)) (by rfl) (by rfl) (ksG66 _ _ _ _) (hJ21.I.2.1 66) rfl (oz3 hp0.1) (oz1032 hp0.2) ?_
          have b26 : ((-2147483648 : Int) ≤ ((a21 66).getD x1.toNatClampNeg 0).toInt) ∧ (((a21 66).getD x1.toNatClampNeg 0).toInt ≤ 2147483647) := kd_bd ((a21 66).getD x1.toNatClampNeg 0)
          refine ko_steps mi_in30 2 _ (135, [(4, .int m7), (3, .int ((a 58).getD (0 : Int32).toNatClampNeg 0)), (2, .int ((a 57).getD (0 : Int32).toNatClampNeg 0)), (0, .ref 50), (1, .int x1)], [.int (((a21 66).getD x1.toNatClampNeg 0) + m7), .int x1, .ref 66], (0, 0), ks (ku ig1 3215 ((ig1 3215) + m7)) a21 qg1 rg1) (by rfl) ?_
          refine ko_iast3 mi_in30 (n := 8) (c := 8) (ax := (0, 0, 0, 0, 0)) (by rfl) (by rfl) (ksG66 _ _ _ _) (ksA66 _ _ _ _) (hJ21.I.2.1 66) rfl (oz3 hp0.1) (oz1032 hp0.2) ?_
          intro a27 ea27 fa27
          have hJ27 := kG_a3 hJ21 66 rfl ea27 fa27 (kd_bd _)
          exact ko_ret mi_in30 (by rfl) (hP  _ _ _ _ hJ27 trivial)
        by_cases w28 : ((a 57).getD (0 : Int32).toNatClampNeg 0).toInt = 2
        ·
          refine ko_eq (x1 := (128, [(4, .int m7), (3, .int ((a 58).getD (0 : Int32).toNatClampNeg 0)), (2, .int ((a 57).getD (0 : Int32).toNatClampNeg 0)), (0, .ref 50), (1, .int x1)], [.int 2, .ref 64], (0, 0), ks (ku ig1 3215 ((ig1 3215) + m7)) a21 qg1 rg1)) (by rw [(kj_eq w28 (by decide) : ((a 57).getD (0 : Int32).toNatClampNeg 0) = 2)]) ?_
          refine ko_steps mi_in30 3 _ (131, [(4, .int m7), (3, .int ((a 58).getD (0 : Int32).toNatClampNeg 0)), (2, .int ((a 57).getD (0 : Int32).toNatClampNeg 0)), (0, .ref 50), (1, .int x1)], [.int x1, .ref 67, .int x1, .ref 67], (0, 0), ks (ku ig1 3215 ((ig1 3215) + m7)) a21 qg1 rg1) (by rfl) ?_
          refine ko_iald3 mi_in30 (n := 8) (c := 8) (ax := (0, 0, 0, 0, 0)) (by rfl) (by rfl) (ksG67 _ _ _ _) (hJ21.I.2.1 67) rfl (oz3 hp0.1) (oz1032 hp0.2) ?_
          have b29 : ((-2147483648 : Int) ≤ ((a21 67).getD x1.toNatClampNeg 0).toInt) ∧ (((a21 67).getD x1.toNatClampNeg 0).toInt ≤ 2147483647) := kd_bd ((a21 67).getD x1.toNatClampNeg 0)
          refine ko_steps mi_in30 2 _ (135, [(4, .int m7), (3, .int ((a 58).getD (0 : Int32).toNatClampNeg 0)), (2, .int ((a 57).getD (0 : Int32).toNatClampNeg 0)), (0, .ref 50), (1, .int x1)], [.int (((a21 67).getD x1.toNatClampNeg 0) + m7), .int x1, .ref 67], (0, 0), ks (ku ig1 3215 ((ig1 3215) + m7)) a21 qg1 rg1) (by rfl) ?_
          refine ko_iast3 mi_in30 (n := 8) (c := 8) (ax := (0, 0, 0, 0, 0)) (by rfl) (by rfl) (ksG67 _ _ _ _) (ksA67 _ _ _ _) (hJ21.I.2.1 67) rfl (oz3 hp0.1) (oz1032 hp0.2) ?_
          intro a30 ea30 fa30
          have hJ30 := kG_a3 hJ21 67 rfl ea30 fa30 (kd_bd _)
          exact ko_ret mi_in30 (by rfl) (hP  _ _ _ _ hJ30 trivial)
        by_cases w31 : ((a 57).getD (0 : Int32).toNatClampNeg 0).toInt = 3
        ·
          refine ko_eq (x1 := (128, [(4, .int m7), (3, .int ((a 58).getD (0 : Int32).toNatClampNeg 0)), (2, .int ((a 57).getD (0 : Int32).toNatClampNeg 0)), (0, .ref 50), (1, .int x1)], [.int 3, .ref 64], (0, 0), ks (ku ig1 3215 ((ig1 3215) + m7)) a21 qg1 rg1)) (by rw [(kj_eq w31 (by decide) : ((a 57).getD (0 : Int32).toNatClampNeg 0) = 3)]) ?_
          refine ko_steps mi_in30 3 _ (131, [(4, .int m7), (3, .int ((a 58).getD (0 : Int32).toNatClampNeg 0)), (2, .int ((a 57).getD (0 : Int32).toNatClampNeg 0)), (0, .ref 50), (1, .int x1)], [.int x1, .ref 68, .int x1, .ref 68], (0, 0), ks (ku ig1 3215 ((ig1 3215) + m7)) a21 qg1 rg1) (by rfl) ?_
          refine ko_iald3 mi_in30 (n := 8) (c := 8) (ax := (0, 0, 0, 0, 0)) (by rfl) (by rfl) (ksG68 _ _ _ _) (hJ21.I.2.1 68) rfl (oz3 hp0.1) (oz1032 hp0.2) ?_
          have b32 : ((-2147483648 : Int) ≤ ((a21 68).getD x1.toNatClampNeg 0).toInt) ∧ (((a21 68).getD x1.toNatClampNeg 0).toInt ≤ 2147483647) := kd_bd ((a21 68).getD x1.toNatClampNeg 0)
          refine ko_steps mi_in30 2 _ (135, [(4, .int m7), (3, .int ((a 58).getD (0 : Int32).toNatClampNeg 0)), (2, .int ((a 57).getD (0 : Int32).toNatClampNeg 0)), (0, .ref 50), (1, .int x1)], [.int (((a21 68).getD x1.toNatClampNeg 0) + m7), .int x1, .ref 68], (0, 0), ks (ku ig1 3215 ((ig1 3215) + m7)) a21 qg1 rg1) (by rfl) ?_
          refine ko_iast3 mi_in30 (n := 8) (c := 8) (ax := (0, 0, 0, 0, 0)) (by rfl) (by rfl) (ksG68 _ _ _ _) (ksA68 _ _ _ _) (hJ21.I.2.1 68) rfl (oz3 hp0.1) (oz1032 hp0.2) ?_
          intro a33 ea33 fa33
          have hJ33 := kG_a3 hJ21 68 rfl ea33 fa33 (kd_bd _)
          exact ko_ret mi_in30 (by rfl) (hP  _ _ _ _ hJ33 trivial)
        by_cases w34 : ((a 57).getD (0 : Int32).toNatClampNeg 0).toInt = 4
        ·
          refine ko_eq (x1 := (128, [(4, .int m7), (3, .int ((a 58).getD (0 : Int32).toNatClampNeg 0)), (2, .int ((a 57).getD (0 : Int32).toNatClampNeg 0)), (0, .ref 50), (1, .int x1)], [.int 4, .ref 64], (0, 0), ks (ku ig1 3215 ((ig1 3215) + m7)) a21 qg1 rg1)) (by rw [(kj_eq w34 (by decide) : ((a 57).getD (0 : Int32).toNatClampNeg 0) = 4)]) ?_
          refine ko_steps mi_in30 3 _ (131, [(4, .int m7), (3, .int ((a 58).getD (0 : Int32).toNatClampNeg 0)), (2, .int ((a 57).getD (0 : Int32).toNatClampNeg 0)), (0, .ref 50), (1, .int x1)], [.int x1, .ref 69, .int x1, .ref 69], (0, 0), ks (ku ig1 3215 ((ig1 3215) + m7)) a21 qg1 rg1) (by rfl) ?_
          refine ko_iald3 mi_in30 (n := 8) (c := 8) (ax := (0, 0, 0, 0, 0)) (by rfl) (by rfl) (ksG69 _ _ _ _) (hJ21.I.2.1 69) rfl (oz3 hp0.1) (oz1032 hp0.2) ?_
          have b35 : ((-2147483648 : Int) ≤ ((a21 69).getD x1.toNatClampNeg 0).toInt) ∧ (((a21 69).getD x1.toNatClampNeg 0).toInt ≤ 2147483647) := kd_bd ((a21 69).getD x1.toNatClampNeg 0)
          refine ko_steps mi_in30 2 _ (135, [(4, .int m7), (3, .int ((a 58).getD (0 : Int32).toNatClampNeg 0)), (2, .int ((a 57).getD (0 : Int32).toNatClampNeg 0)), (0, .ref 50), (1, .int x1)], [.int (((a21 69).getD x1.toNatClampNeg 0) + m7), .int x1, .ref 69], (0, 0), ks (ku ig1 3215 ((ig1 3215) + m7)) a21 qg1 rg1) (by rfl) ?_
          refine ko_iast3 mi_in30 (n := 8) (c := 8) (ax := (0, 0, 0, 0, 0)) (by rfl) (by rfl) (ksG69 _ _ _ _) (ksA69 _ _ _ _) (hJ21.I.2.1 69) rfl (oz3 hp0.1) (oz1032 hp0.2) ?_
          intro a36 ea36 fa36
          have hJ36 := kG_a3 hJ21 69 rfl ea36 fa36 (kd_bd _)
          exact ko_ret mi_in30 (by rfl) (hP  _ _ _ _ hJ36 trivial)
        by_cases w37 : ((a 57).getD (0 : Int32).toNatClampNeg 0).toInt = 5
        ·
          refine ko_eq (x1 := (128, [(4, .int m7), (3, .int ((a 58).getD (0 : Int32).toNatClampNeg 0)), (2, .int ((a 57).getD (0 : Int32).toNatClampNeg 0)), (0, .ref 50), (1, .int x1)], [.int 5, .ref 64], (0, 0), ks (ku ig1 3215 ((ig1 3215) + m7)) a21 qg1 rg1)) (by rw [(kj_eq w37 (by decide) : ((a 57).getD (0 : Int32).toNatClampNeg 0) = 5)]) ?_
          refine ko_steps mi_in30 3 _ (131, [(4, .int m7), (3, .int ((a 58).getD (0 : Int32).toNatClampNeg 0)), (2, .int ((a 57).getD (0 : Int32).toNatClampNeg 0)), (0, .ref 50), (1, .int x1)], [.int x1, .ref 70, .int x1, .ref 70], (0, 0), ks (ku ig1 3215 ((ig1 3215) + m7)) a21 qg1 rg1) (by rfl) ?_
          refine ko_iald3 mi_in30 (n := 8) (c := 8) (ax := (0, 0, 0, 0, 0)) (by rfl) (by rfl) (ksG70 _ _ _ _) (hJ21.I.2.1 70) rfl (oz3 hp0.1) (oz1032 hp0.2) ?_
          have b38 : ((-2147483648 : Int) ≤ ((a21 70).getD x1.toNatClampNeg 0).toInt) ∧ (((a21 70).getD x1.toNatClampNeg 0).toInt ≤ 2147483647) := kd_bd ((a21 70).getD x1.toNatClampNeg 0)
          refine ko_steps mi_in30 2 _ (135, [(4, .int m7), (3, .int ((a 58).getD (0 : Int32).toNatClampNeg 0)), (2, .int ((a 57).getD (0 : Int32).toNatClampNeg 0)), (0, .ref 50), (1, .int x1)], [.int (((a21 70).getD x1.toNatClampNeg 0) + m7), .int x1, .ref 70], (0, 0), ks (ku ig1 3215 ((ig1 3215) + m7)) a21 qg1 rg1) (by rfl) ?_
          refine ko_iast3 mi_in30 (n := 8) (c := 8) (ax := (0, 0, 0, 0, 0)) (by rfl) (by rfl) (ksG70 _ _ _ _) (ksA70 _ _ _ _) (hJ21.I.2.1 70) rfl (oz3 hp0.1) (oz1032 hp0.2) ?_
          intro a39 ea39 fa39
          have hJ39 := kG_a3 hJ21 70 rfl ea39 fa39 (kd_bd _)
          exact ko_ret mi_in30 (by rfl) (hP  _ _ _ _ hJ39 trivial)
        by_cases w40 : ((a 57).getD (0 : Int32).toNatClampNeg 0).toInt = 6
        ·
          refine ko_eq (x1 := (128, [(4, .int m7), (3, .int ((a 58).getD (0 : Int32).toNatClampNeg 0)), (2, .int ((a 57).getD (0 : Int32).toNatClampNeg 0)), (0, .ref 50), (1, .int x1)], [.int 6, .ref 64], (0, 0), ks (ku ig1 3215 ((ig1 3215) + m7)) a21 qg1 rg1)) (by rw [(kj_eq w40 (by decide) : ((a 57).getD (0 : Int32).toNatClampNeg 0) = 6)]) ?_
          refine ko_steps mi_in30 3 _ (131, [(4, .int m7), (3, .int ((a 58).getD (0 : Int32).toNatClampNeg 0)), (2, .int ((a 57).getD (0 : Int32).toNatClampNeg 0)), (0, .ref 50), (1, .int x1)], [.int x1, .ref 71, .int x1, .ref 71], (0, 0), ks (ku ig1 3215 ((ig1 3215) + m7)) a21 qg1 rg1) (by rfl) ?_
          refine ko_iald3 mi_in30 (n := 8) (c := 8) (ax := (0, 0, 0, 0, 0)) (by rfl) (by rfl) (ksG71 _ _ _ _) (hJ21.I.2.1 71) rfl (oz3 hp0.1) (oz1032 hp0.2) ?_
          have b41 : ((-2147483648 : Int) ≤ ((a21 71).getD x1.toNatClampNeg 0).toInt) ∧ (((a21 71).getD x1.toNatClampNeg 0).toInt ≤ 2147483647) := kd_bd ((a21 71).getD x1.toNatClampNeg 0)
          refine ko_steps mi_in30 2 _ (135, [(4, .int m7), (3, .int ((a 58).getD (0 : Int32).toNatClampNeg 0)), (2, .int ((a 57).getD (0 : Int32).toNatClampNeg 0)), (0, .ref 50), (1, .int x1)], [.int (((a21 71).getD x1.toNatClampNeg 0) + m7), .int x1, .ref 71], (0, 0), ks (ku ig1 3215 ((ig1 3215) + m7)) a21 qg1 rg1) (by rfl) ?_
          refine ko_iast3 mi_in30 (n := 8) (c := 8) (ax := (0, 0, 0, 0, 0)) (by rfl) (by rfl) (ksG71 _ _ _ _) (ksA71 _ _ _ _) (hJ21.I.2.1 71) rfl (oz3 hp0.1) (oz1032 hp0.2) ?_
          intro a42 ea42 fa42
          have hJ42 := kG_a3 hJ21 71 rfl ea42 fa42 (kd_bd _)
          exact ko_ret mi_in30 (by rfl) (hP  _ _ _ _ hJ42 trivial)
        by_cases w43 : ((a 57).getD (0 : Int32).toNatClampNeg 0).toInt = 7
        ·
          refine ko_eq (x1 := (128, [(4, .int m7), (3, .int ((a 58).getD (0 : Int32).toNatClampNeg 0)), (2, .int ((a 57).getD (0 : Int32).toNatClampNeg 0)), (0, .ref 50), (1, .int x1)], [.int 7, .ref 64], (0, 0), ks (ku ig1 3215 ((ig1 3215) + m7)) a21 qg1 rg1)) (by rw [(kj_eq w43 (by decide) : ((a 57).getD (0 : Int32).toNatClampNeg 0) = 7)]) ?_
          refine ko_steps mi_in30 3 _ (131, [(4, .int m7), (3, .int ((a 58).getD (0 : Int32).toNatClampNeg 0)), (2, .int ((a 57).getD (0 : Int32).toNatClampNeg 0)), (0, .ref 50), (1, .int x1)], [.int x1, .ref 72, .int x1, .ref 72], (0, 0), ks (ku ig1 3215 ((ig1 3215) + m7)) a21 qg1 rg1) (by rfl) ?_
          refine ko_iald3 mi_in30 (n := 8) (c := 8) (ax := (0, 0, 0, 0, 0)) (by rfl) (by rfl) (ksG72 _ _ _ _) (hJ21.I.2.1 72) rfl (oz3 hp0.1) (oz1032 hp0.2) ?_
          have b44 : ((-2147483648 : Int) ≤ ((a21 72).getD x1.toNatClampNeg 0).toInt) ∧ (((a21 72).getD x1.toNatClampNeg 0).toInt ≤ 2147483647) := kd_bd ((a21 72).getD x1.toNatClampNeg 0)
          refine ko_steps mi_in30 2 _ (135, [(4, .int m7), (3, .int ((a 58).getD (0 : Int32).toNatClampNeg 0)), (2, .int ((a 57).getD (0 : Int32).toNatClampNeg 0)), (0, .ref 50), (1, .int x1)], [.int (((a21 72).getD x1.toNatClampNeg 0) + m7), .int x1, .ref 72], (0, 0), ks (ku ig1 3215 ((ig1 3215) + m7)) a21 qg1 rg1) (by rfl) ?_
          refine ko_iast3 mi_in30 (n := 8) (c := 8) (ax := (0, 0, 0, 0, 0)) (by rfl) (by rfl) (ksG72 _ _ _ _) (ksA72 _ _ _ _) (hJ21.I.2.1 72) rfl (oz3 hp0.1) (oz1032 hp0.2) ?_
          intro a45 ea45 fa45
          have hJ45 := kG_a3 hJ21 72 rfl ea45 fa45 (kd_bd _)
          exact ko_ret mi_in30 (by rfl) (hP  _ _ _ _ hJ45 trivial)
        exact (oz1051 fig1_3200.2 w22 w25 w28 w31 w34 w37 w40 w43 z6.1 z6.2).elim
      ·
        subst eg5
        have fig1_3200 : ((0 : Int) ≤ (ig1 3200).toInt) ∧ ((ig1 3200).toInt ≤ 8) := hGg1.I.1 3200
        have fi_3200 : ((0 : Int) ≤ (i 3200).toInt) ∧ ((i 3200).toInt ≤ 8) := hG.I.1 3200
        have efig1_3200 : (ig1 3200).toInt = (i 3200).toInt := kg1.ti 3200 rfl
        have z46 : ¬ (((0 : Int) ≤ ((a 57).getD (0 : Int32).toNatClampNeg 0).toInt) ∧ (((a 57).getD (0 : Int32).toNatClampNeg 0).toInt < (ig1 3200).toInt)) := hg5
        refine ko_steps mi_in30 1 _ (54, [(3, .int ((a 58).getD (0 : Int32).toNatClampNeg 0)), (2, .int ((a 57).getD (0 : Int32).toNatClampNeg 0)), (0, .ref 50), (1, .int x1)], [], (0, 0), ks ig1 ag1 qg1 rg1) (by rfl) ?_
        exact ko_ret mi_in30 (by rfl) (hP  _ _ _ _ hGg1 trivial)
  ·
    have c47 : (ig1 3214).toInt = (8 : Int32).toInt := kd_neF c; clear c
    have hJ48 := kG_i hGg1 3214 rfl (v := ((a 57).getD (0 : Int32).toNatClampNeg 0)) (kd_bd _)
    refine ko_steps mi_in30 5 _ (43, [(3, .int ((a 58).getD (0 : Int32).toNatClampNeg 0)), (2, .int ((a 57).getD (0 : Int32).toNatClampNeg 0)), (0, .ref 50), (1, .int x1)], [.int x1, .int ((a 57).getD (0 : Int32).toNatClampNeg 0)], (0, 0), ks (ku ig1 3214 ((a 57).getD (0 : Int32).toNatClampNeg 0)) ag1 qg1 rg1) (by rfl) ?_
    refine ko_if mi_in30 (((a 57).getD (0 : Int32).toNatClampNeg 0) == x1) 54 46 ([(3, .int ((a 58).getD (0 : Int32).toNatClampNeg 0)), (2, .int ((a 57).getD (0 : Int32).toNatClampNeg 0)), (0, .ref 50), (1, .int x1)], [], (0, 0), ks (ku ig1 3214 ((a 57).getD (0 : Int32).toNatClampNeg 0)) ag1 qg1 rg1) (by rfl) (fun c => ?_) (fun c => ?_)
    ·
      have c49 : ((a 57).getD (0 : Int32).toNatClampNeg 0).toInt = x1.toInt := kd_eq c; clear c
      exact ko_ret mi_in30 (by rfl) (hP  _ _ _ _ hJ48 trivial)
    ·
      have c50 : ((a 57).getD (0 : Int32).toNatClampNeg 0).toInt ≠ x1.toInt := kd_eqF c; clear c
      refine ko_steps mi_in30 2 _ (48, [(3, .int ((a 58).getD (0 : Int32).toNatClampNeg 0)), (2, .int ((a 57).getD (0 : Int32).toNatClampNeg 0)), (0, .ref 50), (1, .int x1)], [.int ((a 57).getD (0 : Int32).toNatClampNeg 0), .ref 50], (0, 0), ks (ku ig1 3214 ((a 57).getD (0 : Int32).toNatClampNeg 0)) ag1 qg1 rg1) (by rfl) ?_
      refine ko_callPI mi_in30 (pc := 48) (ls := [(3, .int ((a 58).getD (0 : Int32).toNatClampNeg 0)), (2, .int ((a 57).getD (0 : Int32).toNatClampNeg 0)), (0, .ref 50), (1, .int x1)]) (st := [.int ((a 57).getD (0 : Int32).toNatClampNeg 0), .ref 50]) (h := ks (ku ig1 3214 ((a 57).getD (0 : Int32).toNatClampNeg 0)) ag1 qg1 rg1) (i := (.invokevirtual 85, 3, 24, 0, 9, 0, 165)) (by rfl) (by rfl) (cy := mi_c24) rfl rfl (kc24_50 hJ48.I hJ48.R ((a 57).getD (0 : Int32).toNatClampNeg 0)) (by decide) ?_
      intro vg51 hg51
      rcases hg51 with ⟨eg51, hg51⟩ | ⟨eg51, hg51⟩
      ·
        subst eg51
        have fig1_3200 : ((0 : Int) ≤ (ig1 3200).toInt) ∧ ((ig1 3200).toInt ≤ 8) := hJ48.I.1 3200
        have fi_3200 : ((0 : Int) ≤ (i 3200).toInt) ∧ ((i 3200).toInt ≤ 8) := hG.I.1 3200
        have efig1_3200 : (ig1 3200).toInt = (i 3200).toInt := kg1.ti 3200 rfl
        have z52 : ((0 : Int) ≤ ((a 57).getD (0 : Int32).toNatClampNeg 0).toInt) ∧ (((a 57).getD (0 : Int32).toNatClampNeg 0).toInt < (ig1 3200).toInt) := hg51
        refine ko_steps mi_in30 5 _ (61, [(3, .int ((a 58).getD (0 : Int32).toNatClampNeg 0)), (2, .int ((a 57).getD (0 : Int32).toNatClampNeg 0)), (0, .ref 50), (1, .int x1)], [.int ((a 57).getD (0 : Int32).toNatClampNeg 0), .ref 51, .int ((a 58).getD (0 : Int32).toNatClampNeg 0)], (0, 0), ks (ku ig1 3214 ((a 57).getD (0 : Int32).toNatClampNeg 0)) ag1 qg1 rg1) (by rfl) ?_
        refine ko_iald3 mi_in30 (n := 8) (c := 8) (ax := (0, 0, 0, 0, 0)) (by rfl) (by rfl) (ksG51 _ _ _ _) (hJ48.I.2.1 51) rfl (oz3 z52.1) (oz974 fig1_3200.2 z52.2) ?_
        have m54 : (((bif decide (((ag1 51).getD ((a 57).getD (0 : Int32).toNatClampNeg 0).toNatClampNeg 0) < ((a 58).getD (0 : Int32).toNatClampNeg 0)) then ((ag1 51).getD ((a 57).getD (0 : Int32).toNatClampNeg 0).toNatClampNeg 0) else ((a 58).getD (0 : Int32).toNatClampNeg 0)).toInt ≤ ((a 58).getD (0 : Int32).toNatClampNeg 0).toInt) ∧ ((bif decide (((ag1 51).getD ((a 57).getD (0 : Int32).toNatClampNeg 0).toNatClampNeg 0) < ((a 58).getD (0 : Int32).toNatClampNeg 0)) then ((ag1 51).getD ((a 57).getD (0 : Int32).toNatClampNeg 0).toNatClampNeg 0) else ((a 58).getD (0 : Int32).toNatClampNeg 0)).toInt ≤ ((ag1 51).getD ((a 57).getD (0 : Int32).toNatClampNeg 0).toNatClampNeg 0).toInt)) ∧ ((bif decide (((ag1 51).getD ((a 57).getD (0 : Int32).toNatClampNeg 0).toNatClampNeg 0) < ((a 58).getD (0 : Int32).toNatClampNeg 0)) then ((ag1 51).getD ((a 57).getD (0 : Int32).toNatClampNeg 0).toNatClampNeg 0) else ((a 58).getD (0 : Int32).toNatClampNeg 0)).toInt = ((a 58).getD (0 : Int32).toNatClampNeg 0).toInt ∨ (bif decide (((ag1 51).getD ((a 57).getD (0 : Int32).toNatClampNeg 0).toNatClampNeg 0) < ((a 58).getD (0 : Int32).toNatClampNeg 0)) then ((ag1 51).getD ((a 57).getD (0 : Int32).toNatClampNeg 0).toNatClampNeg 0) else ((a 58).getD (0 : Int32).toNatClampNeg 0)).toInt = ((ag1 51).getD ((a 57).getD (0 : Int32).toNatClampNeg 0).toNatClampNeg 0).toInt) := kd_min
        refine ko_steps mi_in30 1 _ (65, [(3, .int ((a 58).getD (0 : Int32).toNatClampNeg 0)), (2, .int ((a 57).getD (0 : Int32).toNatClampNeg 0)), (0, .ref 50), (1, .int x1)], [.int (bif decide (((ag1 51).getD ((a 57).getD (0 : Int32).toNatClampNeg 0).toNatClampNeg 0) < ((a 58).getD (0 : Int32).toNatClampNeg 0)) then ((ag1 51).getD ((a 57).getD (0 : Int32).toNatClampNeg 0).toNatClampNeg 0) else ((a 58).getD (0 : Int32).toNatClampNeg 0))], (0, 0), ks (ku ig1 3214 ((a 57).getD (0 : Int32).toNatClampNeg 0)) ag1 qg1 rg1) (by rfl) ?_
        generalize (bif decide (((ag1 51).getD ((a 57).getD (0 : Int32).toNatClampNeg 0).toNatClampNeg 0) < ((a 58).getD (0 : Int32).toNatClampNeg 0)) then ((ag1 51).getD ((a 57).getD (0 : Int32).toNatClampNeg 0).toNatClampNeg 0) else ((a 58).getD (0 : Int32).toNatClampNeg 0)) = m53 at m54 ⊢
        refine ko_steps mi_in30 5 _ (73, [(4, .int m53), (3, .int ((a 58).getD (0 : Int32).toNatClampNeg 0)), (2, .int ((a 57).getD (0 : Int32).toNatClampNeg 0)), (0, .ref 50), (1, .int x1)], [.int ((a 57).getD (0 : Int32).toNatClampNeg 0), .ref 51, .int ((a 57).getD (0 : Int32).toNatClampNeg 0), .ref 51], (0, 0), ks (ku ig1 3214 ((a 57).getD (0 : Int32).toNatClampNeg 0)) ag1 qg1 rg1) (by rfl) ?_
        refine ko_iald3 mi_in30 (n := 8) (c := 8) (ax := (0, 0, 0, 0, 0)) (by rfl) (by rfl) (ksG51 _ _ _ _) (hJ48.I.2.1 51) rfl (oz3 z52.1) (oz974 fig1_3200.2 z52.2) ?_
        have b55 : ((-2147483648 : Int) ≤ ((ag1 51).getD ((a 57).getD (0 : Int32).toNatClampNeg 0).toNatClampNeg 0).toInt) ∧ (((ag1 51).getD ((a 57).getD (0 : Int32).toNatClampNeg 0).toNatClampNeg 0).toInt ≤ 2147483647) := kd_bd ((ag1 51).getD ((a 57).getD (0 : Int32).toNatClampNeg 0).toNatClampNeg 0)
        have b56 : ((-2147483648 : Int) ≤ m53.toInt) ∧ (m53.toInt ≤ 2147483647) := kd_bd m53
        refine ko_steps mi_in30 2 _ (77, [(4, .int m53), (3, .int ((a 58).getD (0 : Int32).toNatClampNeg 0)), (2, .int ((a 57).getD (0 : Int32).toNatClampNeg 0)), (0, .ref 50), (1, .int x1)], [.int (((ag1 51).getD ((a 57).getD (0 : Int32).toNatClampNeg 0).toNatClampNeg 0) - m53), .int ((a 57).getD (0 : Int32).toNatClampNeg 0), .ref 51], (0, 0), ks (ku ig1 3214 ((a 57).getD (0 : Int32).toNatClampNeg 0)) ag1 qg1 rg1) (by rfl) ?_
        refine ko_iast3 mi_in30 (n := 8) (c := 8) (ax := (0, 0, 0, 0, 0)) (by rfl) (by rfl) (ksG51 _ _ _ _) (ksA51 _ _ _ _) (hJ48.I.2.1 51) rfl (oz3 z52.1) (oz974 fig1_3200.2 z52.2) ?_
        intro a57 ea57 fa57
        have hJ57 := kG_a3 hJ48 51 rfl ea57 fa57 (kd_bd _)
        refine ko_steps mi_in30 7 _ (91, [(4, .int m53), (3, .int ((a 58).getD (0 : Int32).toNatClampNeg 0)), (2, .int ((a 57).getD (0 : Int32).toNatClampNeg 0)), (0, .ref 50), (1, .int x1)], [.int x1, .ref 51, .int 999, .int x1, .ref 51], (0, 0), ks (ku ig1 3214 ((a 57).getD (0 : Int32).toNatClampNeg 0)) a57 qg1 rg1) (by rfl) ?_
        refine ko_iald3 mi_in30 (n := 8) (c := 8) (ax := (0, 0, 0, 0, 0)) (by rfl) (by rfl) (ksG51 _ _ _ _) (hJ57.I.2.1 51) rfl (oz3 hp0.1) (oz1032 hp0.2) ?_
        have b58 : ((-2147483648 : Int) ≤ ((a57 51).getD x1.toNatClampNeg 0).toInt) ∧ (((a57 51).getD x1.toNatClampNeg 0).toInt ≤ 2147483647) := kd_bd ((a57 51).getD x1.toNatClampNeg 0)
        refine ko_steps mi_in30 2 _ (95, [(4, .int m53), (3, .int ((a 58).getD (0 : Int32).toNatClampNeg 0)), (2, .int ((a 57).getD (0 : Int32).toNatClampNeg 0)), (0, .ref 50), (1, .int x1)], [.int (((a57 51).getD x1.toNatClampNeg 0) + m53), .int 999, .int x1, .ref 51], (0, 0), ks (ku ig1 3214 ((a 57).getD (0 : Int32).toNatClampNeg 0)) a57 qg1 rg1) (by rfl) ?_
        have m60 : (((bif decide ((((a57 51).getD x1.toNatClampNeg 0) + m53) < 999) then (((a57 51).getD x1.toNatClampNeg 0) + m53) else 999).toInt ≤ (999 : Int32).toInt) ∧ ((bif decide ((((a57 51).getD x1.toNatClampNeg 0) + m53) < 999) then (((a57 51).getD x1.toNatClampNeg 0) + m53) else 999).toInt ≤ (((a57 51).getD x1.toNatClampNeg 0) + m53).toInt)) ∧ ((bif decide ((((a57 51).getD x1.toNatClampNeg 0) + m53) < 999) then (((a57 51).getD x1.toNatClampNeg 0) + m53) else 999).toInt = (999 : Int32).toInt ∨ (bif decide ((((a57 51).getD x1.toNatClampNeg 0) + m53) < 999) then (((a57 51).getD x1.toNatClampNeg 0) + m53) else 999).toInt = (((a57 51).getD x1.toNatClampNeg 0) + m53).toInt) := kd_min
        refine ko_steps mi_in30 1 _ (98, [(4, .int m53), (3, .int ((a 58).getD (0 : Int32).toNatClampNeg 0)), (2, .int ((a 57).getD (0 : Int32).toNatClampNeg 0)), (0, .ref 50), (1, .int x1)], [.int (bif decide ((((a57 51).getD x1.toNatClampNeg 0) + m53) < 999) then (((a57 51).getD x1.toNatClampNeg 0) + m53) else 999), .int x1, .ref 51], (0, 0), ks (ku ig1 3214 ((a 57).getD (0 : Int32).toNatClampNeg 0)) a57 qg1 rg1) (by rfl) ?_
        generalize (bif decide ((((a57 51).getD x1.toNatClampNeg 0) + m53) < 999) then (((a57 51).getD x1.toNatClampNeg 0) + m53) else 999) = m59 at m60 ⊢
        refine ko_iast3 mi_in30 (n := 8) (c := 8) (ax := (0, 0, 0, 0, 0)) (by rfl) (by rfl) (ksG51 _ _ _ _) (ksA51 _ _ _ _) (hJ57.I.2.1 51) rfl (oz3 hp0.1) (oz1032 hp0.2) ?_
        intro a61 ea61 fa61
        have hJ61 := kG_a3 hJ57 51 rfl ea61 fa61 (kd_bd _)
        have efig1_3215 : (ig1 3215).toInt = (i 3215).toInt := kg1.ti 3215 rfl
        have b62 : ((-2147483648 : Int) ≤ (ig1 3215).toInt) ∧ ((ig1 3215).toInt ≤ 2147483647) := kd_bd (ig1 3215)
        have hJ63 := kG_i hJ61 3215 rfl (v := ((ig1 3215) + m53)) (kd_bd _)
        refine ko_steps mi_in30 10 _ (116, [(4, .int m53), (3, .int ((a 58).getD (0 : Int32).toNatClampNeg 0)), (2, .int ((a 57).getD (0 : Int32).toNatClampNeg 0)), (0, .ref 50), (1, .int x1)], [.int 2, .ref 63, .int 2, .ref 63], (0, 0), ks (ku (ku ig1 3214 ((a 57).getD (0 : Int32).toNatClampNeg 0)) 3215 ((ig1 3215) + m53)) a61 qg1 rg1) (by rfl) ?_
        refine ko_iald3 mi_in30 (n := 5) (c := 5) (ax := (0, 0, 0, 0, 0)) (by rfl) (by rfl) (ksG63 _ _ _ _) (hJ63.I.2.1 63) rfl (oz256 kn2) (oz549 kn2) ?_
        have b64 : ((-2147483648 : Int) ≤ ((a 58).getD (0 : Int32).toNatClampNeg 0).toInt) ∧ (((a 58).getD (0 : Int32).toNatClampNeg 0).toInt ≤ 2147483647) := kd_bd ((a 58).getD (0 : Int32).toNatClampNeg 0)
        have b65 : ((-2147483648 : Int) ≤ ((a61 63).getD (2 : Int32).toNatClampNeg 0).toInt) ∧ (((a61 63).getD (2 : Int32).toNatClampNeg 0).toInt ≤ 2147483647) := kd_bd ((a61 63).getD (2 : Int32).toNatClampNeg 0)
        have b66 : ((-2147483648 : Int) ≤ (((a 58).getD (0 : Int32).toNatClampNeg 0) - m53).toInt) ∧ ((((a 58).getD (0 : Int32).toNatClampNeg 0) - m53).toInt ≤ 2147483647) := kd_bd (((a 58).getD (0 : Int32).toNatClampNeg 0) - m53)
        refine ko_steps mi_in30 4 _ (122, [(4, .int m53), (3, .int ((a 58).getD (0 : Int32).toNatClampNeg 0)), (2, .int ((a 57).getD (0 : Int32).toNatClampNeg 0)), (0, .ref 50), (1, .int x1)], [.int (((a61 63).getD (2 : Int32).toNatClampNeg 0) + (((a 58).getD (0 : Int32).toNatClampNeg 0) - m53)), .int 2, .ref 63], (0, 0), ks (ku (ku ig1 3214 ((a 57).getD (0 : Int32).toNatClampNeg 0)) 3215 ((ig1 3215) + m53)) a61 qg1 rg1) (by rfl) ?_
        refine ko_iast3 mi_in30 (n := 5) (c := 5) (ax := (0, 0, 0, 0, 0)) (by rfl) (by rfl) (ksG63 _ _ _ _) (ksA63 _ _ _ _) (hJ63.I.2.1 63) rfl (oz256 kn2) (oz549 kn2) ?_
        intro a67 ea67 fa67
        have hJ67 := kG_a3 hJ63 63 rfl ea67 fa67 (kd_bd _)
        refine ko_steps mi_in30 3 _ (128, [(4, .int m53), (3, .int ((a 58).getD (0 : Int32).toNatClampNeg 0)), (2, .int ((a 57).getD (0 : Int32).toNatClampNeg 0)), (0, .ref 50), (1, .int x1)], [.int ((a 57).getD (0 : Int32).toNatClampNeg 0), .ref 64], (0, 0), ks (ku (ku ig1 3214 ((a 57).getD (0 : Int32).toNatClampNeg 0)) 3215 ((ig1 3215) + m53)) a67 qg1 rg1) (by rfl) ?_
        by_cases w68 : ((a 57).getD (0 : Int32).toNatClampNeg 0).toInt = 0
        ·
          refine ko_eq (x1 := (128, [(4, .int m53), (3, .int ((a 58).getD (0 : Int32).toNatClampNeg 0)), (2, .int ((a 57).getD (0 : Int32).toNatClampNeg 0)), (0, .ref 50), (1, .int x1)], [.int 0, .ref 64], (0, 0), ks (ku (ku ig1 3214 ((a 57).getD (0 : Int32).toNatClampNeg 0)) 3215 ((ig1 3215) + m53)) a67 qg1 rg1)) (by rw [(kj_eq w68 (by decide) : ((a 57).getD (0 : Int32).toNatClampNeg 0) = 0)]) ?_
          refine ko_steps mi_in30 3 _ (131, [(4, .int m53), (3, .int ((a 58).getD (0 : Int32).toNatClampNeg 0)), (2, .int ((a 57).getD (0 : Int32).toNatClampNeg 0)), (0, .ref 50), (1, .int x1)], [.int x1, .ref 65, .int x1, .ref 65], (0, 0), ks (ku (ku ig1 3214 ((a 57).getD (0 : Int32).toNatClampNeg 0)) 3215 ((ig1 3215) + m53)) a67 qg1 rg1) (by rfl) ?_
          refine ko_iald3 mi_in30 (n := 8) (c := 8) (ax := (0, 0, 0, 0, 0)) (by rfl) (by rfl) (ksG65 _ _ _ _) (hJ67.I.2.1 65) rfl (oz3 hp0.1) (oz1032 hp0.2) ?_
          have b69 : ((-2147483648 : Int) ≤ ((a67 65).getD x1.toNatClampNeg 0).toInt) ∧ (((a67 65).getD x1.toNatClampNeg 0).toInt ≤ 2147483647) := kd_bd ((a67 65).getD x1.toNatClampNeg 0)
          refine ko_steps mi_in30 2 _ (135, [(4, .int m53), (3, .int ((a 58).getD (0 : Int32).toNatClampNeg 0)), (2, .int ((a 57).getD (0 : Int32).toNatClampNeg 0)), (0, .ref 50), (1, .int x1)], [.int (((a67 65).getD x1.toNatClampNeg 0) + m53), .int x1, .ref 65], (0, 0), ks (ku (ku ig1 3214 ((a 57).getD (0 : Int32).toNatClampNeg 0)) 3215 ((ig1 3215) + m53)) a67 qg1 rg1) (by rfl) ?_
          refine ko_iast3 mi_in30 (n := 8) (c := 8) (ax := (0, 0, 0, 0, 0)) (by rfl) (by rfl) (ksG65 _ _ _ _) (ksA65 _ _ _ _) (hJ67.I.2.1 65) rfl (oz3 hp0.1) (oz1032 hp0.2) ?_
          intro a70 ea70 fa70
          have hJ70 := kG_a3 hJ67 65 rfl ea70 fa70 (kd_bd _)
          exact ko_ret mi_in30 (by rfl) (hP  _ _ _ _ hJ70 trivial)
        by_cases w71 : ((a 57).getD (0 : Int32).toNatClampNeg 0).toInt = 1
        ·
          refine ko_eq (x1 := (128, [(4, .int m53), (3, .int ((a 58).getD (0 : Int32).toNatClampNeg 0)), (2, .int ((a 57).getD (0 : Int32).toNatClampNeg 0)), (0, .ref 50), (1, .int x1)], [.int 1, .ref 64], (0, 0), ks (ku (ku ig1 3214 ((a 57).getD (0 : Int32).toNatClampNeg 0)) 3215 ((ig1 3215) + m53)) a67 qg1 rg1)) (by rw [(kj_eq w71 (by decide) : ((a 57).getD (0 : Int32).toNatClampNeg 0) = 1)]) ?_
          refine ko_steps mi_in30 3 _ (131, [(4, .int m53), (3, .int ((a 58).getD (0 : Int32).toNatClampNeg 0)), (2, .int ((a 57).getD (0 : Int32).toNatClampNeg 0)), (0, .ref 50), (1, .int x1)], [.int x1, .ref 66, .int x1, .ref 66], (0, 0), ks (ku (ku ig1 3214 ((a 57).getD (0 : Int32).toNatClampNeg 0)) 3215 ((ig1 3215) + m53)) a67 qg1 rg1) (by rfl) ?_
          refine ko_iald3 mi_in30 (n := 8) (c := 8) (ax := (0, 0, 0, 0, 0)) (by rfl) (by rfl) (ksG66 _ _ _ _) (hJ67.I.2.1 66) rfl (oz3 hp0.1) (oz1032 hp0.2) ?_
          have b72 : ((-2147483648 : Int) ≤ ((a67 66).getD x1.toNatClampNeg 0).toInt) ∧ (((a67 66).getD x1.toNatClampNeg 0).toInt ≤ 2147483647) := kd_bd ((a67 66).getD x1.toNatClampNeg 0)
          refine ko_steps mi_in30 2 _ (135, [(4, .int m53), (3, .int ((a 58).getD (0 : Int32).toNatClampNeg 0)), (2, .int ((a 57).getD (0 : Int32).toNatClampNeg 0)), (0, .ref 50), (1, .int x1)], [.int (((a67 66).getD x1.toNatClampNeg 0) + m53), .int x1, .ref 66], (0, 0), ks (ku (ku ig1 3214 ((a 57).getD (0 : Int32).toNatClampNeg 0)) 3215 ((ig1 3215) + m53)) a67 qg1 rg1) (by rfl) ?_
          refine ko_iast3 mi_in30 (n := 8) (c := 8) (ax := (0, 0, 0, 0, 0)) (by rfl) (by rfl) (ksG66 _ _ _ _) (ksA66 _ _ _ _) (hJ67.I.2.1 66) rfl (oz3 hp0.1) (oz1032 hp0.2) ?_
          intro a73 ea73 fa73
          have hJ73 := kG_a3 hJ67 66 rfl ea73 fa73 (kd_bd _)
          exact ko_ret mi_in30 (by rfl) (hP  _ _ _ _ hJ73 trivial)
        by_cases w74 : ((a 57).getD (0 : Int32).toNatClampNeg 0).toInt = 2
        ·
          refine ko_eq (x1 := (128, [(4, .int m53), (3, .int ((a 58).getD (0 : Int32).toNatClampNeg 0)), (2, .int ((a 57).getD (0 : Int32).toNatClampNeg 0)), (0, .ref 50), (1, .int x1)], [.int 2, .ref 64], (0, 0), ks (ku (ku ig1 3214 ((a 57).getD (0 : Int32).toNatClampNeg 0)) 3215 ((ig1 3215) + m53)) a67 qg1 rg1)) (by rw [(kj_eq w74 (by decide) : ((a 57).getD (0 : Int32).toNatClampNeg 0) = 2)]) ?_
          refine ko_steps mi_in30 3 _ (131, [(4, .int m53), (3, .int ((a 58).getD (0 : Int32).toNatClampNeg 0)), (2, .int ((a 57).getD (0 : Int32).toNatClampNeg 0)), (0, .ref 50), (1, .int x1)], [.int x1, .ref 67, .int x1, .ref 67], (0, 0), ks (ku (ku ig1 3214 ((a 57).getD (0 : Int32).toNatClampNeg 0)) 3215 ((ig1 3215) + m53)) a67 qg1 rg1) (by rfl) ?_
          refine ko_iald3 mi_in30 (n := 8) (c := 8) (ax := (0, 0, 0, 0, 0)) (by rfl) (by rfl) (ksG67 _ _ _ _) (hJ67.I.2.1 67) rfl (oz3 hp0.1) (oz1032 hp0.2) ?_
          have b75 : ((-2147483648 : Int) ≤ ((a67 67).getD x1.toNatClampNeg 0).toInt) ∧ (((a67 67).getD x1.toNatClampNeg 0).toInt ≤ 2147483647) := kd_bd ((a67 67).getD x1.toNatClampNeg 0)
          refine ko_steps mi_in30 2 _ (135, [(4, .int m53), (3, .int ((a 58).getD (0 : Int32).toNatClampNeg 0)), (2, .int ((a 57).getD (0 : Int32).toNatClampNeg 0)), (0, .ref 50), (1, .int x1)], [.int (((a67 67).getD x1.toNatClampNeg 0) + m53), .int x1, .ref 67], (0, 0), ks (ku (ku ig1 3214 ((a 57).getD (0 : Int32).toNatClampNeg 0)) 3215 ((ig1 3215) + m53)) a67 qg1 rg1) (by rfl) ?_
          refine ko_iast3 mi_in30 (n := 8) (c := 8) (ax := (0, 0, 0, 0, 0)) (by rfl) (by rfl) (ksG67 _ _ _ _) (ksA67 _ _ _ _) (hJ67.I.2.1 67) rfl (oz3 hp0.1) (oz1032 hp0.2) ?_
          intro a76 ea76 fa76
          have hJ76 := kG_a3 hJ67 67 rfl ea76 fa76 (kd_bd _)
          exact ko_ret mi_in30 (by rfl) (hP  _ _ _ _ hJ76 trivial)
        by_cases w77 : ((a 57).getD (0 : Int32).toNatClampNeg 0).toInt = 3
        ·
          refine ko_eq (x1 := (128, [(4, .int m53), (3, .int ((a 58).getD (0 : Int32).toNatClampNeg 0)), (2, .int ((a 57).getD (0 : Int32).toNatClampNeg 0)), (0, .ref 50), (1, .int x1)], [.int 3, .ref 64], (0, 0), ks (ku (ku ig1 3214 ((a 57).getD (0 : Int32).toNatClampNeg 0)) 3215 ((ig1 3215) + m53)) a67 qg1 rg1)) (by rw [(kj_eq w77 (by decide) : ((a 57).getD (0 : Int32).toNatClampNeg 0) = 3)]) ?_
          refine ko_steps mi_in30 3 _ (131, [(4, .int m53), (3, .int ((a 58).getD (0 : Int32).toNatClampNeg 0)), (2, .int ((a 57).getD (0 : Int32).toNatClampNeg 0)), (0, .ref 50), (1, .int x1)], [.int x1, .ref 68, .int x1, .ref 68], (0, 0), ks (ku (ku ig1 3214 ((a 57).getD (0 : Int32).toNatClampNeg 0)) 3215 ((ig1 3215) + m53)) a67 qg1 rg1) (by rfl) ?_
          refine ko_iald3 mi_in30 (n := 8) (c := 8) (ax := (0, 0, 0, 0, 0)) (by rfl) (by rfl) (ksG68 _ _ _ _) (hJ67.I.2.1 68) rfl (oz3 hp0.1) (oz1032 hp0.2) ?_
          have b78 : ((-2147483648 : Int) ≤ ((a67 68).getD x1.toNatClampNeg 0).toInt) ∧ (((a67 68).getD x1.toNatClampNeg 0).toInt ≤ 2147483647) := kd_bd ((a67 68).getD x1.toNatClampNeg 0)
          refine ko_steps mi_in30 2 _ (135, [(4, .int m53), (3, .int ((a 58).getD (0 : Int32).toNatClampNeg 0)), (2, .int ((a 57).getD (0 : Int32).toNatClampNeg 0)), (0, .ref 50), (1, .int x1)], [.int (((a67 68).getD x1.toNatClampNeg 0) + m53), .int x1, .ref 68], (0, 0), ks (ku (ku ig1 3214 ((a 57).getD (0 : Int32).toNatClampNeg 0)) 3215 ((ig1 3215) + m53)) a67 qg1 rg1) (by rfl) ?_
          refine ko_iast3 mi_in30 (n := 8) (c := 8) (ax := (0, 0, 0, 0, 0)) (by rfl) (by rfl) (ksG68 _ _ _ _) (ksA68 _ _ _ _) (hJ67.I.2.1 68) rfl (oz3 hp0.1) (oz1032 hp0.2) ?_
          intro a79 ea79 fa79
          have hJ79 := kG_a3 hJ67 68 rfl ea79 fa79 (kd_bd _)
          exact ko_ret mi_in30 (by rfl) (hP  _ _ _ _ hJ79 trivial)
        by_cases w80 : ((a 57).getD (0 : Int32).toNatClampNeg 0).toInt = 4
        ·
          refine ko_eq (x1 := (128, [(4, .int m53), (3, .int ((a 58).getD (0 : Int32).toNatClampNeg 0)), (2, .int ((a 57).getD (0 : Int32).toNatClampNeg 0)), (0, .ref 50), (1, .int x1)], [.int 4, .ref 64], (0, 0), ks (ku (ku ig1 3214 ((a 57).getD (0 : Int32).toNatClampNeg 0)) 3215 ((ig1 3215) + m53)) a67 qg1 rg1)) (by rw [(kj_eq w80 (by decide) : ((a 57).getD (0 : Int32).toNatClampNeg 0) = 4)]) ?_
          refine ko_steps mi_in30 3 _ (131, [(4, .int m53), (3, .int ((a 58).getD (0 : Int32).toNatClampNeg 0)), (2, .int ((a 57).getD (0 : Int32).toNatClampNeg 0)), (0, .ref 50), (1, .int x1)], [.int x1, .ref 69, .int x1, .ref 69], (0, 0), ks (ku (ku ig1 3214 ((a 57).getD (0 : Int32).toNatClampNeg 0)) 3215 ((ig1 3215) + m53)) a67 qg1 rg1) (by rfl) ?_
          refine ko_iald3 mi_in30 (n := 8) (c := 8) (ax := (0, 0, 0, 0, 0)) (by rfl) (by rfl) (ksG69 _ _ _ _) (hJ67.I.2.1 69) rfl (oz3 hp0.1) (oz1032 hp0.2) ?_
          have b81 : ((-2147483648 : Int) ≤ ((a67 69).getD x1.toNatClampNeg 0).toInt) ∧ (((a67 69).getD x1.toNatClampNeg 0).toInt ≤ 2147483647) := kd_bd ((a67 69).getD x1.toNatClampNeg 0)
          refine ko_steps mi_in30 2 _ (135, [(4, .int m53), (3, .int ((a 58).getD (0 : Int32).toNatClampNeg 0)), (2, .int ((a 57).getD (0 : Int32).toNatClampNeg 0)), (0, .ref 50), (1, .int x1)], [.int (((a67 69).getD x1.toNatClampNeg 0) + m53), .int x1, .ref 69], (0, 0), ks (ku (ku ig1 3214 ((a 57).getD (0 : Int32).toNatClampNeg 0)) 3215 ((ig1 3215) + m53)) a67 qg1 rg1) (by rfl) ?_
          refine ko_iast3 mi_in30 (n := 8) (c := 8) (ax := (0, 0, 0, 0, 0)) (by rfl) (by rfl) (ksG69 _ _ _ _) (ksA69 _ _ _ _) (hJ67.I.2.1 69) rfl (oz3 hp0.1) (oz1032 hp0.2) ?_
          intro a82 ea82 fa82
          have hJ82 := kG_a3 hJ67 69 rfl ea82 fa82 (kd_bd _)
          exact ko_ret mi_in30 (by rfl) (hP  _ _ _ _ hJ82 trivial)
        by_cases w83 : ((a 57).getD (0 : Int32).toNatClampNeg 0).toInt = 5
        ·
          refine ko_eq (x1 := (128, [(4, .int m53), (3, .int ((a 58).getD (0 : Int32).toNatClampNeg 0)), (2, .int ((a 57).getD (0 : Int32).toNatClampNeg 0)), (0, .ref 50), (1, .int x1)], [.int 5, .ref 64], (0, 0), ks (ku (ku ig1 3214 ((a 57).getD (0 : Int32).toNatClampNeg 0)) 3215 ((ig1 3215) + m53)) a67 qg1 rg1)) (by rw [(kj_eq w83 (by decide) : ((a 57).getD (0 : Int32).toNatClampNeg 0) = 5)]) ?_
          refine ko_steps mi_in30 3 _ (131, [(4, .int m53), (3, .int ((a 58).getD (0 : Int32).toNatClampNeg 0)), (2, .int ((a 57).getD (0 : Int32).toNatClampNeg 0)), (0, .ref 50), (1, .int x1)], [.int x1, .ref 70, .int x1, .ref 70], (0, 0), ks (ku (ku ig1 3214 ((a 57).getD (0 : Int32).toNatClampNeg 0)) 3215 ((ig1 3215) + m53)) a67 qg1 rg1) (by rfl) ?_
          refine ko_iald3 mi_in30 (n := 8) (c := 8) (ax := (0, 0, 0, 0, 0)) (by rfl) (by rfl) (ksG70 _ _ _ _) (hJ67.I.2.1 70) rfl (oz3 hp0.1) (oz1032 hp0.2) ?_
          have b84 : ((-2147483648 : Int) ≤ ((a67 70).getD x1.toNatClampNeg 0).toInt) ∧ (((a67 70).getD x1.toNatClampNeg 0).toInt ≤ 2147483647) := kd_bd ((a67 70).getD x1.toNatClampNeg 0)
          refine ko_steps mi_in30 2 _ (135, [(4, .int m53), (3, .int ((a 58).getD (0 : Int32).toNatClampNeg 0)), (2, .int ((a 57).getD (0 : Int32).toNatClampNeg 0)), (0, .ref 50), (1, .int x1)], [.int (((a67 70).getD x1.toNatClampNeg 0) + m53), .int x1, .ref 70], (0, 0), ks (ku (ku ig1 3214 ((a 57).getD (0 : Int32).toNatClampNeg 0)) 3215 ((ig1 3215) + m53)) a67 qg1 rg1) (by rfl) ?_
          refine ko_iast3 mi_in30 (n := 8) (c := 8) (ax := (0, 0, 0, 0, 0)) (by rfl) (by rfl) (ksG70 _ _ _ _) (ksA70 _ _ _ _) (hJ67.I.2.1 70) rfl (oz3 hp0.1) (oz1032 hp0.2) ?_
          intro a85 ea85 fa85
          have hJ85 := kG_a3 hJ67 70 rfl ea85 fa85 (kd_bd _)
          exact ko_ret mi_in30 (by rfl) (hP  _ _ _ _ hJ85 trivial)
        by_cases w86 : ((a 57).getD (0 : Int32).toNatClampNeg 0).toInt = 6
        ·
          refine ko_eq (x1 := (128, [(4, .int m53), (3, .int ((a 58).getD (0 : Int32).toNatClampNeg 0)), (2, .int ((a 57).getD (0 : Int32).toNatClampNeg 0)), (0, .ref 50), (1, .int x1)], [.int 6, .ref 64], (0, 0), ks (ku (ku ig1 3214 ((a 57).getD (0 : Int32).toNatClampNeg 0)) 3215 ((ig1 3215) + m53)) a67 qg1 rg1)) (by rw [(kj_eq w86 (by decide) : ((a 57).getD (0 : Int32).toNatClampNeg 0) = 6)]) ?_
          refine ko_steps mi_in30 3 _ (131, [(4, .int m53), (3, .int ((a 58).getD (0 : Int32).toNatClampNeg 0)), (2, .int ((a 57).getD (0 : Int32).toNatClampNeg 0)), (0, .ref 50), (1, .int x1)], [.int x1, .ref 71, .int x1, .ref 71], (0, 0), ks (ku (ku ig1 3214 ((a 57).getD (0 : Int32).toNatClampNeg 0)) 3215 ((ig1 3215) + m53)) a67 qg1 rg1) (by rfl) ?_
          refine ko_iald3 mi_in30 (n := 8) (c := 8) (ax := (0, 0, 0, 0, 0)) (by rfl) (by rfl) (ksG71 _ _ _ _) (hJ67.I.2.1 71) rfl (oz3 hp0.1) (oz1032 hp0.2) ?_
          have b87 : ((-2147483648 : Int) ≤ ((a67 71).getD x1.toNatClampNeg 0).toInt) ∧ (((a67 71).getD x1.toNatClampNeg 0).toInt ≤ 2147483647) := kd_bd ((a67 71).getD x1.toNatClampNeg 0)
          refine ko_steps mi_in30 2 _ (135, [(4, .int m53), (3, .int ((a 58).getD (0 : Int32).toNatClampNeg 0)), (2, .int ((a 57).getD (0 : Int32).toNatClampNeg 0)), (0, .ref 50), (1, .int x1)], [.int (((a67 71).getD x1.toNatClampNeg 0) + m53), .int x1, .ref 71], (0, 0), ks (ku (ku ig1 3214 ((a 57).getD (0 : Int32).toNatClampNeg 0)) 3215 ((ig1 3215) + m53)) a67 qg1 rg1) (by rfl) ?_
          refine ko_iast3 mi_in30 (n := 8) (c := 8) (ax := (0, 0, 0, 0, 0)) (by rfl) (by rfl) (ksG71 _ _ _ _) (ksA71 _ _ _ _) (hJ67.I.2.1 71) rfl (oz3 hp0.1) (oz1032 hp0.2) ?_
          intro a88 ea88 fa88
          have hJ88 := kG_a3 hJ67 71 rfl ea88 fa88 (kd_bd _)
          exact ko_ret mi_in30 (by rfl) (hP  _ _ _ _ hJ88 trivial)
        by_cases w89 : ((a 57).getD (0 : Int32).toNatClampNeg 0).toInt = 7
        ·
          refine ko_eq (x1 := (128, [(4, .int m53), (3, .int ((a 58).getD (0 : Int32).toNatClampNeg 0)), (2, .int ((a 57).getD (0 : Int32).toNatClampNeg 0)), (0, .ref 50), (1, .int x1)], [.int 7, .ref 64], (0, 0), ks (ku (ku ig1 3214 ((a 57).getD (0 : Int32).toNatClampNeg 0)) 3215 ((ig1 3215) + m53)) a67 qg1 rg1)) (by rw [(kj_eq w89 (by decide) : ((a 57).getD (0 : Int32).toNatClampNeg 0) = 7)]) ?_
          refine ko_steps mi_in30 3 _ (131, [(4, .int m53), (3, .int ((a 58).getD (0 : Int32).toNatClampNeg 0)), (2, .int ((a 57).getD (0 : Int32).toNatClampNeg 0)), (0, .ref 50), (1, .int x1)], [.int x1, .ref 72, .int x1, .ref 72], (0, 0), ks (ku (ku ig1 3214 ((a 57).getD (0 : Int32).toNatClampNeg 0)) 3215 ((ig1 3215) + m53)) a67 qg1 rg1) (by rfl) ?_
          refine ko_iald3 mi_in30 (n := 8) (c := 8) (ax := (0, 0, 0, 0, 0)) (by rfl) (by rfl) (ksG72 _ _ _ _) (hJ67.I.2.1 72) rfl (oz3 hp0.1) (oz1032 hp0.2) ?_
          have b90 : ((-2147483648 : Int) ≤ ((a67 72).getD x1.toNatClampNeg 0).toInt) ∧ (((a67 72).getD x1.toNatClampNeg 0).toInt ≤ 2147483647) := kd_bd ((a67 72).getD x1.toNatClampNeg 0)
          refine ko_steps mi_in30 2 _ (135, [(4, .int m53), (3, .int ((a 58).getD (0 : Int32).toNatClampNeg 0)), (2, .int ((a 57).getD (0 : Int32).toNatClampNeg 0)), (0, .ref 50), (1, .int x1)], [.int (((a67 72).getD x1.toNatClampNeg 0) + m53), .int x1, .ref 72], (0, 0), ks (ku (ku ig1 3214 ((a 57).getD (0 : Int32).toNatClampNeg 0)) 3215 ((ig1 3215) + m53)) a67 qg1 rg1) (by rfl) ?_
          refine ko_iast3 mi_in30 (n := 8) (c := 8) (ax := (0, 0, 0, 0, 0)) (by rfl) (by rfl) (ksG72 _ _ _ _) (ksA72 _ _ _ _) (hJ67.I.2.1 72) rfl (oz3 hp0.1) (oz1032 hp0.2) ?_
          intro a91 ea91 fa91
          have hJ91 := kG_a3 hJ67 72 rfl ea91 fa91 (kd_bd _)
          exact ko_ret mi_in30 (by rfl) (hP  _ _ _ _ hJ91 trivial)
        exact (oz1051 fig1_3200.2 w68 w71 w74 w77 w80 w83 w86 w89 z52.1 z52.2).elim
      ·
        subst eg51
        have fig1_3200 : ((0 : Int) ≤ (ig1 3200).toInt) ∧ ((ig1 3200).toInt ≤ 8) := hJ48.I.1 3200
        have fi_3200 : ((0 : Int) ≤ (i 3200).toInt) ∧ ((i 3200).toInt ≤ 8) := hG.I.1 3200
        have efig1_3200 : (ig1 3200).toInt = (i 3200).toInt := kg1.ti 3200 rfl
        have z92 : ¬ (((0 : Int) ≤ ((a 57).getD (0 : Int32).toNatClampNeg 0).toInt) ∧ (((a 57).getD (0 : Int32).toNatClampNeg 0).toInt < (ig1 3200).toInt)) := hg51
        refine ko_steps mi_in30 1 _ (54, [(3, .int ((a 58).getD (0 : Int32).toNatClampNeg 0)), (2, .int ((a 57).getD (0 : Int32).toNatClampNeg 0)), (0, .ref 50), (1, .int x1)], [], (0, 0), ks (ku ig1 3214 ((a 57).getD (0 : Int32).toNatClampNeg 0)) ag1 qg1 rg1) (by rfl) ?_
        exact ko_ret mi_in30 (by rfl) (hP  _ _ _ _ hJ48 trivial)
def w29_50 : kW := ([645, 3209, 3214, 3215, 3216, 3586, 3781, 6405], [13, 51, 55, 57, 58, 62, 63, 65, 66, 67, 68, 69, 70, 71, 72, 73, 103], [], [])
def w29_50_L52 : kW := ([3214, 3215, 3586], [51, 57, 58, 63, 65, 66, 67, 68, 69, 70, 71, 72], [], [])
set_option maxRecDepth 100000 in
theorem kc29_50 {i : Nat → Int32} {a : Nat → List Int32} {q : Nat → List Int64} {r : Nat → Nat} (hI : kI i a q) (hr : kr r) (x1 : Int32) : km 7 29 [.ref 50, .int x1] (ks i a q r) (kVI w29_50 i a q r (fun v i1 a1 q1 r1 => True)) := by
  have hG := kG_self w29_50 hI hr
  refine km_ofI (q := (mi_h29, mi_c29)) rfl (by decide) (Nat.le_of_ble_eq_true rfl) ?_
  intro P hP
  have hJ1 := kG_i hG 3214 rfl (v := 8) (kd_bd _)
  have hJ2 := kG_i hJ1 3215 rfl (v := 0) (kd_bd _)
  have hJ3 := kG_i hJ2 3216 rfl (v := 0) (kd_bd _)
  refine ko_steps mi_in29 11 _ (18, [(0, .ref 50), (1, .int x1)], [.int x1, .ref 50], (0, 0), ks (ku (ku (ku i 3214 8) 3215 0) 3216 0) a q r) (by rfl) ?_
  refine ko_callPI mi_in29 (pc := 18) (ls := [(0, .ref 50), (1, .int x1)]) (st := [.int x1, .ref 50]) (h := ks (ku (ku (ku i 3214 8) 3215 0) 3216 0) a q r) (i := (.invokevirtual 85, 3, 24, 0, 9, 0, 165)) (by rfl) (by rfl) (cy := mi_c24) rfl rfl (kc24_50 hJ3.I hJ3.R x1) (by decide) ?_
  intro vg4 hg4
  rcases hg4 with ⟨eg4, hg4⟩ | ⟨eg4, hg4⟩
  ·
    subst eg4
    have fi_3200 : ((0 : Int) ≤ (i 3200).toInt) ∧ ((i 3200).toInt ≤ 8) := hJ3.I.1 3200
    have z5 : ((0 : Int) ≤ x1.toInt) ∧ (x1.toInt < (i 3200).toInt) := hg4
    refine ko_steps mi_in29 3 _ (28, [(0, .ref 50), (1, .int x1)], [.int (i 3207)], (0, 0), ks (ku (ku (ku i 3214 8) 3215 0) 3216 0) a q r) (by rfl) ?_
    refine ko_if mi_in29 ((i 3207) != 0) 43 31 ([(0, .ref 50), (1, .int x1)], [], (0, 0), ks (ku (ku (ku i 3214 8) 3215 0) 3216 0) a q r) (by rfl) (fun c => ?_) (fun c => ?_)
    ·
      have c6 : (i 3207).toInt ≠ (0 : Int32).toInt := kd_ne c; clear c
      refine ko_steps mi_in29 3 _ (48, [(0, .ref 50), (1, .int x1)], [.int x1, .ref 51], (0, 0), ks (ku (ku (ku i 3214 8) 3215 0) 3216 0) a q r) (by rfl) ?_
      refine ko_iald3 mi_in29 (n := 8) (c := 8) (ax := (0, 0, 0, 0, 0)) (by rfl) (by rfl) (ksG51 _ _ _ _) (hJ3.I.2.1 51) rfl (oz3 z5.1) (oz974 fi_3200.2 z5.2) ?_
      refine ko_steps mi_in29 3 _ (52, [(3, .int 0), (2, .int ((a 51).getD x1.toNatClampNeg 0)), (0, .ref 50), (1, .int x1)], [], (0, 0), ks (ku (ku (ku i 3214 8) 3215 0) 3216 0) a q r) (by rfl) ?_
      have lp7 : ∀ (n : Nat) (i7 : Nat → Int32) (a7 : Nat → List Int32) (q7 : Nat → List Int64) (r7 : Nat → Nat) (l3_7 : Int32), kG w29_50_L52 (ku (ku (ku i 3214 8) 3215 0) 3216 0) a q r i7 a7 q7 r7 → (0 : Int) ≤ l3_7.toInt → ((5 - l3_7.toInt)).toNat < n → ko 7 (mi_h29, mi_c29) P (52, [(3, .int l3_7), (2, .int ((a 51).getD x1.toNatClampNeg 0)), (0, .ref 50), (1, .int x1)], [], (0, 0), ks i7 a7 q7 r7) := by
        intro n
        induction n with
        | zero =>
          intro _ _ _ _ _ _ _ hm
          exact absurd hm (Nat.not_lt_zero _)
        | succ n ih7 =>
          intro i7 a7 q7 r7 l3_7 hL7 p7_0 hm7
          refine ko_steps mi_in29 2 _ (54, [(3, .int l3_7), (2, .int ((a 51).getD x1.toNatClampNeg 0)), (0, .ref 50), (1, .int x1)], [.int 5, .int l3_7], (0, 0), ks i7 a7 q7 r7) (by rfl) ?_
          refine ko_if mi_in29 (decide (5 ≤ l3_7)) 82 57 ([(3, .int l3_7), (2, .int ((a 51).getD x1.toNatClampNeg 0)), (0, .ref 50), (1, .int x1)], [], (0, 0), ks i7 a7 q7 r7) (by rfl) (fun c => ?_) (fun c => ?_)
          ·
            have c8 : (5 : Int32).toInt ≤ l3_7.toInt := kd_le c; clear c
            have hG9 := kG_call hJ3 hL7 (by decide +kernel)
            refine ko_steps mi_in29 4 _ (86, [(3, .int l3_7), (2, .int ((a 51).getD x1.toNatClampNeg 0)), (0, .ref 50), (1, .int x1)], [.int ((a 51).getD x1.toNatClampNeg 0), .int x1, .ref 50, .ref 50], (0, 0), ks i7 a7 q7 r7) (by rfl) ?_
            refine ko_callI mi_in29 (pc := 86) (ls := [(3, .int l3_7), (2, .int ((a 51).getD x1.toNatClampNeg 0)), (0, .ref 50), (1, .int x1)]) (st := [.int ((a 51).getD x1.toNatClampNeg 0), .int x1, .ref 50, .ref 50]) (h := ks i7 a7 q7 r7) (i := (.invokevirtual 100, 3, 31, 0, 9, 0, 223)) (by rfl) (by rfl) (cy := mi_c31) rfl rfl (kc31_50 hG9.I hG9.R x1 ((a 51).getD x1.toNatClampNeg 0) (oz423 fi_3200.2 z5.1 z5.2)) (by decide) ?_
            intro vg10 ig10 ag10 qg10 rg10 kg10 hg10
            have hGg10 := kG_call hG9 kg10 (by decide +kernel)
            have hJ11 := kG_i hGg10 3216 rfl (v := vg10) (kd_bd _)
            refine ko_steps mi_in29 6 _ (101, [(3, .int l3_7), (2, .int ((a 51).getD x1.toNatClampNeg 0)), (0, .ref 50), (1, .int x1)], [.int vg10, .int x1, .ref 56], (0, 0), ks (ku ig10 3216 vg10) ag10 qg10 rg10) (by rfl) ?_
            refine ko_callN mi_in29 (pc := 101) (ls := [(3, .int l3_7), (2, .int ((a 51).getD x1.toNatClampNeg 0)), (0, .ref 50), (1, .int x1)]) (st := [.int vg10, .int x1, .ref 56]) (h := ks (ku ig10 3216 vg10) ag10 qg10 rg10) (i := (.invokevirtual 104, 3, 1, 0, 9, 0, 228)) (by rfl) (by rfl) (cy := mi_c1) rfl rfl (kc1_56 hJ11.I hJ11.R x1 vg10) (by decide) ?_
            intro ig12 ag12 qg12 rg12 kg12 hg12
            have hGg12 := kG_call hJ11 kg12 (by decide +kernel)
            have efi7_3209 : (i7 3209).toInt = (i 3209).toInt := hL7.ti 3209 rfl
            have efig10_3209 : (ig10 3209).toInt = (i7 3209).toInt := kg10.ti 3209 rfl
            have efig12_3209 : (ig12 3209).toInt = (ig10 3209).toInt := kg12.ti 3209 rfl
            have b13 : ((-2147483648 : Int) ≤ (ig12 3209).toInt) ∧ ((ig12 3209).toInt ≤ 2147483647) := kd_bd (ig12 3209)
            have hJ14 := kG_i hGg12 3209 rfl (v := ((ig12 3209) + 1)) (kd_bd _)
            refine ko_steps mi_in29 10 _ (120, [(3, .int l3_7), (2, .int ((a 51).getD x1.toNatClampNeg 0)), (0, .ref 50), (1, .int x1)], [.int x1, .ref 55, .int x1, .ref 55], (0, 0), ks (ku ig12 3209 ((ig12 3209) + 1)) ag12 qg12 rg12) (by rfl) ?_
            refine ko_iald3 mi_in29 (n := 8) (c := 8) (ax := (0, 0, 0, 0, 0)) (by rfl) (by rfl) (ksG55 _ _ _ _) (hJ14.I.2.1 55) rfl (oz3 z5.1) (oz974 fi_3200.2 z5.2) ?_
            have b15 : ((-2147483648 : Int) ≤ ((ag12 55).getD x1.toNatClampNeg 0).toInt) ∧ (((ag12 55).getD x1.toNatClampNeg 0).toInt ≤ 2147483647) := kd_bd ((ag12 55).getD x1.toNatClampNeg 0)
            refine ko_steps mi_in29 2 _ (123, [(3, .int l3_7), (2, .int ((a 51).getD x1.toNatClampNeg 0)), (0, .ref 50), (1, .int x1)], [.int (((ag12 55).getD x1.toNatClampNeg 0) + 1), .int x1, .ref 55], (0, 0), ks (ku ig12 3209 ((ig12 3209) + 1)) ag12 qg12 rg12) (by rfl) ?_
            refine ko_iast3 mi_in29 (n := 8) (c := 8) (ax := (0, 0, 0, 0, 0)) (by rfl) (by rfl) (ksG55 _ _ _ _) (ksA55 _ _ _ _) (hJ14.I.2.1 55) rfl (oz3 z5.1) (oz974 fi_3200.2 z5.2) ?_
            intro a16 ea16 fa16
            have hJ16 := kG_a3 hJ14 55 rfl ea16 fa16 (kd_bd _)
            refine ko_steps mi_in29 4 _ (130, [(3, .int l3_7), (2, .int ((a 51).getD x1.toNatClampNeg 0)), (0, .ref 50), (1, .int x1)], [.int 0, .ref 63, .int 0, .ref 63], (0, 0), ks (ku ig12 3209 ((ig12 3209) + 1)) a16 qg12 rg12) (by rfl) ?_
            refine ko_iald3 mi_in29 (n := 5) (c := 5) (ax := (0, 0, 0, 0, 0)) (by rfl) (by rfl) (ksG63 _ _ _ _) (hJ16.I.2.1 63) rfl (oz46 kn0) (oz547 kn0) ?_
            have b17 : ((-2147483648 : Int) ≤ ((a16 63).getD (0 : Int32).toNatClampNeg 0).toInt) ∧ (((a16 63).getD (0 : Int32).toNatClampNeg 0).toInt ≤ 2147483647) := kd_bd ((a16 63).getD (0 : Int32).toNatClampNeg 0)
            refine ko_steps mi_in29 2 _ (133, [(3, .int l3_7), (2, .int ((a 51).getD x1.toNatClampNeg 0)), (0, .ref 50), (1, .int x1)], [.int (((a16 63).getD (0 : Int32).toNatClampNeg 0) + 1), .int 0, .ref 63], (0, 0), ks (ku ig12 3209 ((ig12 3209) + 1)) a16 qg12 rg12) (by rfl) ?_
            refine ko_iast3 mi_in29 (n := 5) (c := 5) (ax := (0, 0, 0, 0, 0)) (by rfl) (by rfl) (ksG63 _ _ _ _) (ksA63 _ _ _ _) (hJ16.I.2.1 63) rfl (oz46 kn0) (oz547 kn0) ?_
            intro a18 ea18 fa18
            have hJ18 := kG_a3 hJ16 63 rfl ea18 fa18 (kd_bd _)
            refine ko_steps mi_in29 4 _ (140, [(3, .int l3_7), (2, .int ((a 51).getD x1.toNatClampNeg 0)), (0, .ref 50), (1, .int x1)], [.int 1, .ref 63, .int 1, .ref 63], (0, 0), ks (ku ig12 3209 ((ig12 3209) + 1)) a18 qg12 rg12) (by rfl) ?_
            refine ko_iald3 mi_in29 (n := 5) (c := 5) (ax := (0, 0, 0, 0, 0)) (by rfl) (by rfl) (ksG63 _ _ _ _) (hJ18.I.2.1 63) rfl (oz246 kn1) (oz548 kn1) ?_
            have efig10_3215 : (ig10 3215).toInt = (i7 3215).toInt := kg10.ti 3215 rfl
            have efig12_3215 : (ig12 3215).toInt = (ig10 3215).toInt := kg12.ti 3215 rfl
            have b19 : ((-2147483648 : Int) ≤ ((a18 63).getD (1 : Int32).toNatClampNeg 0).toInt) ∧ (((a18 63).getD (1 : Int32).toNatClampNeg 0).toInt ≤ 2147483647) := kd_bd ((a18 63).getD (1 : Int32).toNatClampNeg 0)
            have b20 : ((-2147483648 : Int) ≤ (ig12 3215).toInt) ∧ ((ig12 3215).toInt ≤ 2147483647) := kd_bd (ig12 3215)
            refine ko_steps mi_in29 3 _ (146, [(3, .int l3_7), (2, .int ((a 51).getD x1.toNatClampNeg 0)), (0, .ref 50), (1, .int x1)], [.int (((a18 63).getD (1 : Int32).toNatClampNeg 0) + (ig12 3215)), .int 1, .ref 63], (0, 0), ks (ku ig12 3209 ((ig12 3209) + 1)) a18 qg12 rg12) (by rfl) ?_
            refine ko_iast3 mi_in29 (n := 5) (c := 5) (ax := (0, 0, 0, 0, 0)) (by rfl) (by rfl) (ksG63 _ _ _ _) (ksA63 _ _ _ _) (hJ18.I.2.1 63) rfl (oz246 kn1) (oz548 kn1) ?_
            intro a21 ea21 fa21
            have hJ21 := kG_a3 hJ18 63 rfl ea21 fa21 (kd_bd _)
            refine ko_steps mi_in29 2 _ (151, [(3, .int l3_7), (2, .int ((a 51).getD x1.toNatClampNeg 0)), (0, .ref 50), (1, .int x1)], [.int (ig12 3215)], (0, 0), ks (ku ig12 3209 ((ig12 3209) + 1)) a21 qg12 rg12) (by rfl) ?_
            exact ko_ret mi_in29 (by rfl) (hP (ig12 3215) _ _ _ _ hJ21 trivial)
          ·
            have c22 : l3_7.toInt < (5 : Int32).toInt := kd_leF c; clear c
            have fi7_3586 : ((0 : Int) ≤ (i7 3586).toInt) ∧ ((i7 3586).toInt ≤ 5) := hL7.I.1 3586
            have efi7_3206 : (i7 3206).toInt = (i 3206).toInt := hL7.ti 3206 rfl
            refine ko_steps mi_in29 5 _ (68, [(3, .int l3_7), (2, .int ((a 51).getD x1.toNatClampNeg 0)), (0, .ref 50), (1, .int x1)], [.int (i7 3206), .int (i7 3586)], (0, 0), ks i7 a7 q7 r7) (by rfl) ?_
            refine ko_if mi_in29 (decide ((i7 3586) < (i7 3206))) 82 71 ([(3, .int l3_7), (2, .int ((a 51).getD x1.toNatClampNeg 0)), (0, .ref 50), (1, .int x1)], [], (0, 0), ks i7 a7 q7 r7) (by rfl) (fun c => ?_) (fun c => ?_)
            ·
              have c23 : (i7 3586).toInt < (i7 3206).toInt := kd_lt c; clear c
              have hG24 := kG_call hJ3 hL7 (by decide +kernel)
              refine ko_steps mi_in29 4 _ (86, [(3, .int l3_7), (2, .int ((a 51).getD x1.toNatClampNeg 0)), (0, .ref 50), (1, .int x1)], [.int ((a 51).getD x1.toNatClampNeg 0), .int x1, .ref 50, .ref 50], (0, 0), ks i7 a7 q7 r7) (by rfl) ?_
              refine ko_callI mi_in29 (pc := 86) (ls := [(3, .int l3_7), (2, .int ((a 51).getD x1.toNatClampNeg 0)), (0, .ref 50), (1, .int x1)]) (st := [.int ((a 51).getD x1.toNatClampNeg 0), .int x1, .ref 50, .ref 50]) (h := ks i7 a7 q7 r7) (i := (.invokevirtual 100, 3, 31, 0, 9, 0, 223)) (by rfl) (by rfl) (cy := mi_c31) rfl rfl (kc31_50 hG24.I hG24.R x1 ((a 51).getD x1.toNatClampNeg 0) (oz423 fi_3200.2 z5.1 z5.2)) (by decide) ?_
              intro vg25 ig25 ag25 qg25 rg25 kg25 hg25
              have hGg25 := kG_call hG24 kg25 (by decide +kernel)
              have hJ26 := kG_i hGg25 3216 rfl (v := vg25) (kd_bd _)
              refine ko_steps mi_in29 6 _ (101, [(3, .int l3_7), (2, .int ((a 51).getD x1.toNatClampNeg 0)), (0, .ref 50), (1, .int x1)], [.int vg25, .int x1, .ref 56], (0, 0), ks (ku ig25 3216 vg25) ag25 qg25 rg25) (by rfl) ?_
              refine ko_callN mi_in29 (pc := 101) (ls := [(3, .int l3_7), (2, .int ((a 51).getD x1.toNatClampNeg 0)), (0, .ref 50), (1, .int x1)]) (st := [.int vg25, .int x1, .ref 56]) (h := ks (ku ig25 3216 vg25) ag25 qg25 rg25) (i := (.invokevirtual 104, 3, 1, 0, 9, 0, 228)) (by rfl) (by rfl) (cy := mi_c1) rfl rfl (kc1_56 hJ26.I hJ26.R x1 vg25) (by decide) ?_
              intro ig27 ag27 qg27 rg27 kg27 hg27
              have hGg27 := kG_call hJ26 kg27 (by decide +kernel)
              have efi7_3209 : (i7 3209).toInt = (i 3209).toInt := hL7.ti 3209 rfl
              have efig25_3209 : (ig25 3209).toInt = (i7 3209).toInt := kg25.ti 3209 rfl
              have efig27_3209 : (ig27 3209).toInt = (ig25 3209).toInt := kg27.ti 3209 rfl
              have b28 : ((-2147483648 : Int) ≤ (ig27 3209).toInt) ∧ ((ig27 3209).toInt ≤ 2147483647) := kd_bd (ig27 3209)
              have hJ29 := kG_i hGg27 3209 rfl (v := ((ig27 3209) + 1)) (kd_bd _)
              refine ko_steps mi_in29 10 _ (120, [(3, .int l3_7), (2, .int ((a 51).getD x1.toNatClampNeg 0)), (0, .ref 50), (1, .int x1)], [.int x1, .ref 55, .int x1, .ref 55], (0, 0), ks (ku ig27 3209 ((ig27 3209) + 1)) ag27 qg27 rg27) (by rfl) ?_
              refine ko_iald3 mi_in29 (n := 8) (c := 8) (ax := (0, 0, 0, 0, 0)) (by rfl) (by rfl) (ksG55 _ _ _ _) (hJ29.I.2.1 55) rfl (oz3 z5.1) (oz974 fi_3200.2 z5.2) ?_
              have b30 : ((-2147483648 : Int) ≤ ((ag27 55).getD x1.toNatClampNeg 0).toInt) ∧ (((ag27 55).getD x1.toNatClampNeg 0).toInt ≤ 2147483647) := kd_bd ((ag27 55).getD x1.toNatClampNeg 0)
              refine ko_steps mi_in29 2 _ (123, [(3, .int l3_7), (2, .int ((a 51).getD x1.toNatClampNeg 0)), (0, .ref 50), (1, .int x1)], [.int (((ag27 55).getD x1.toNatClampNeg 0) + 1), .int x1, .ref 55], (0, 0), ks (ku ig27 3209 ((ig27 3209) + 1)) ag27 qg27 rg27) (by rfl) ?_
              refine ko_iast3 mi_in29 (n := 8) (c := 8) (ax := (0, 0, 0, 0, 0)) (by rfl) (by rfl) (ksG55 _ _ _ _) (ksA55 _ _ _ _) (hJ29.I.2.1 55) rfl (oz3 z5.1) (oz974 fi_3200.2 z5.2) ?_
              intro a31 ea31 fa31
              have hJ31 := kG_a3 hJ29 55 rfl ea31 fa31 (kd_bd _)
              refine ko_steps mi_in29 4 _ (130, [(3, .int l3_7), (2, .int ((a 51).getD x1.toNatClampNeg 0)), (0, .ref 50), (1, .int x1)], [.int 0, .ref 63, .int 0, .ref 63], (0, 0), ks (ku ig27 3209 ((ig27 3209) + 1)) a31 qg27 rg27) (by rfl) ?_
              refine ko_iald3 mi_in29 (n := 5) (c := 5) (ax := (0, 0, 0, 0, 0)) (by rfl) (by rfl) (ksG63 _ _ _ _) (hJ31.I.2.1 63) rfl (oz46 kn0) (oz547 kn0) ?_
              have b32 : ((-2147483648 : Int) ≤ ((a31 63).getD (0 : Int32).toNatClampNeg 0).toInt) ∧ (((a31 63).getD (0 : Int32).toNatClampNeg 0).toInt ≤ 2147483647) := kd_bd ((a31 63).getD (0 : Int32).toNatClampNeg 0)
              refine ko_steps mi_in29 2 _ (133, [(3, .int l3_7), (2, .int ((a 51).getD x1.toNatClampNeg 0)), (0, .ref 50), (1, .int x1)], [.int (((a31 63).getD (0 : Int32).toNatClampNeg 0) + 1), .int 0, .ref 63], (0, 0), ks (ku ig27 3209 ((ig27 3209) + 1)) a31 qg27 rg27) (by rfl) ?_
              refine ko_iast3 mi_in29 (n := 5) (c := 5) (ax := (0, 0, 0, 0, 0)) (by rfl) (by rfl) (ksG63 _ _ _ _) (ksA63 _ _ _ _) (hJ31.I.2.1 63) rfl (oz46 kn0) (oz547 kn0) ?_
              intro a33 ea33 fa33
              have hJ33 := kG_a3 hJ31 63 rfl ea33 fa33 (kd_bd _)
              refine ko_steps mi_in29 4 _ (140, [(3, .int l3_7), (2, .int ((a 51).getD x1.toNatClampNeg 0)), (0, .ref 50), (1, .int x1)], [.int 1, .ref 63, .int 1, .ref 63], (0, 0), ks (ku ig27 3209 ((ig27 3209) + 1)) a33 qg27 rg27) (by rfl) ?_
              refine ko_iald3 mi_in29 (n := 5) (c := 5) (ax := (0, 0, 0, 0, 0)) (by rfl) (by rfl) (ksG63 _ _ _ _) (hJ33.I.2.1 63) rfl (oz246 kn1) (oz548 kn1) ?_
              have efig25_3215 : (ig25 3215).toInt = (i7 3215).toInt := kg25.ti 3215 rfl
              have efig27_3215 : (ig27 3215).toInt = (ig25 3215).toInt := kg27.ti 3215 rfl
              have b34 : ((-2147483648 : Int) ≤ ((a33 63).getD (1 : Int32).toNatClampNeg 0).toInt) ∧ (((a33 63).getD (1 : Int32).toNatClampNeg 0).toInt ≤ 2147483647) := kd_bd ((a33 63).getD (1 : Int32).toNatClampNeg 0)
              have b35 : ((-2147483648 : Int) ≤ (ig27 3215).toInt) ∧ ((ig27 3215).toInt ≤ 2147483647) := kd_bd (ig27 3215)
              refine ko_steps mi_in29 3 _ (146, [(3, .int l3_7), (2, .int ((a 51).getD x1.toNatClampNeg 0)), (0, .ref 50), (1, .int x1)], [.int (((a33 63).getD (1 : Int32).toNatClampNeg 0) + (ig27 3215)), .int 1, .ref 63], (0, 0), ks (ku ig27 3209 ((ig27 3209) + 1)) a33 qg27 rg27) (by rfl) ?_
              refine ko_iast3 mi_in29 (n := 5) (c := 5) (ax := (0, 0, 0, 0, 0)) (by rfl) (by rfl) (ksG63 _ _ _ _) (ksA63 _ _ _ _) (hJ33.I.2.1 63) rfl (oz246 kn1) (oz548 kn1) ?_
              intro a36 ea36 fa36
              have hJ36 := kG_a3 hJ33 63 rfl ea36 fa36 (kd_bd _)
              refine ko_steps mi_in29 2 _ (151, [(3, .int l3_7), (2, .int ((a 51).getD x1.toNatClampNeg 0)), (0, .ref 50), (1, .int x1)], [.int (ig27 3215)], (0, 0), ks (ku ig27 3209 ((ig27 3209) + 1)) a36 qg27 rg27) (by rfl) ?_
              exact ko_ret mi_in29 (by rfl) (hP (ig27 3215) _ _ _ _ hJ36 trivial)
            ·
              have c37 : (i7 3206).toInt ≤ (i7 3586).toInt := kd_ltF c; clear c
              refine ko_steps mi_in29 2 _ (73, [(3, .int l3_7), (2, .int ((a 51).getD x1.toNatClampNeg 0)), (0, .ref 50), (1, .int x1)], [.int x1, .ref 50], (0, 0), ks i7 a7 q7 r7) (by rfl) ?_
              refine ko_callN mi_in29 (pc := 73) (ls := [(3, .int l3_7), (2, .int ((a 51).getD x1.toNatClampNeg 0)), (0, .ref 50), (1, .int x1)]) (st := [.int x1, .ref 50]) (h := ks i7 a7 q7 r7) (i := (.invokevirtual 96, 3, 30, 0, 9, 0, 221)) (by rfl) (by rfl) (cy := mi_c30) rfl rfl (kc30_50 hL7.I hL7.R x1 (oz423 fi_3200.2 z5.1 z5.2)) (by decide) ?_
              intro ig38 ag38 qg38 rg38 kg38 hg38
              have hGg38 := kG_call hL7 kg38 (by decide +kernel)
              have s39 : (l3_7 + 1).toInt = l3_7.toInt + (1 : Int32).toInt := kd_add (oz12 p7_0 kn1) (oz561 c22 kn5 kn1)
              refine ko_steps mi_in29 2 _ (52, [(3, .int (l3_7 + 1)), (2, .int ((a 51).getD x1.toNatClampNeg 0)), (0, .ref 50), (1, .int x1)], [], (0, 0), ks ig38 ag38 qg38 rg38) (by rfl) ?_
              exact ih7 _ _ _ _ _ hGg38 (oz14 p7_0 s39 kn1) (kj_meas (oz372 s39 kn1) (oz562 c22 kn5) hm7)
      exact lp7 _ _ _ _ _ _ (kG_self _ hJ3.I hJ3.R) (oz46 kn0) (Nat.lt_succ_self _)
    ·
      have c40 : (i 3207).toInt = (0 : Int32).toInt := kd_neF c; clear c
      refine ko_steps mi_in29 3 _ (36, [(0, .ref 50), (1, .int x1)], [.int x1, .ref 54], (0, 0), ks (ku (ku (ku i 3214 8) 3215 0) 3216 0) a q r) (by rfl) ?_
      refine ko_iald3 mi_in29 (n := 8) (c := 8) (ax := (0, 0, 0, 0, 0)) (by rfl) (by rfl) (ksG54 _ _ _ _) (hJ3.I.2.1 54) rfl (oz3 z5.1) (oz974 fi_3200.2 z5.2) ?_
      refine ko_steps mi_in29 1 _ (38, [(0, .ref 50), (1, .int x1)], [.int 1, .int ((a 54).getD x1.toNatClampNeg 0)], (0, 0), ks (ku (ku (ku i 3214 8) 3215 0) 3216 0) a q r) (by rfl) ?_
      refine ko_if mi_in29 (((a 54).getD x1.toNatClampNeg 0) != 1) 43 41 ([(0, .ref 50), (1, .int x1)], [], (0, 0), ks (ku (ku (ku i 3214 8) 3215 0) 3216 0) a q r) (by rfl) (fun c => ?_) (fun c => ?_)
      ·
        have c41 : ((a 54).getD x1.toNatClampNeg 0).toInt ≠ (1 : Int32).toInt := kd_ne c; clear c
        refine ko_steps mi_in29 3 _ (48, [(0, .ref 50), (1, .int x1)], [.int x1, .ref 51], (0, 0), ks (ku (ku (ku i 3214 8) 3215 0) 3216 0) a q r) (by rfl) ?_
        refine ko_iald3 mi_in29 (n := 8) (c := 8) (ax := (0, 0, 0, 0, 0)) (by rfl) (by rfl) (ksG51 _ _ _ _) (hJ3.I.2.1 51) rfl (oz3 z5.1) (oz974 fi_3200.2 z5.2) ?_
        refine ko_steps mi_in29 3 _ (52, [(3, .int 0), (2, .int ((a 51).getD x1.toNatClampNeg 0)), (0, .ref 50), (1, .int x1)], [], (0, 0), ks (ku (ku (ku i 3214 8) 3215 0) 3216 0) a q r) (by rfl) ?_
        have lp42 : ∀ (n : Nat) (i42 : Nat → Int32) (a42 : Nat → List Int32) (q42 : Nat → List Int64) (r42 : Nat → Nat) (l3_42 : Int32), kG w29_50_L52 (ku (ku (ku i 3214 8) 3215 0) 3216 0) a q r i42 a42 q42 r42 → (0 : Int) ≤ l3_42.toInt → ((5 - l3_42.toInt)).toNat < n → ko 7 (mi_h29, mi_c29) P (52, [(3, .int l3_42), (2, .int ((a 51).getD x1.toNatClampNeg 0)), (0, .ref 50), (1, .int x1)], [], (0, 0), ks i42 a42 q42 r42) := by
          intro n
          induction n with
          | zero =>
            intro _ _ _ _ _ _ _ hm
            exact absurd hm (Nat.not_lt_zero _)
          | succ n ih42 =>
            intro i42 a42 q42 r42 l3_42 hL42 p42_0 hm42
            refine ko_steps mi_in29 2 _ (54, [(3, .int l3_42), (2, .int ((a 51).getD x1.toNatClampNeg 0)), (0, .ref 50), (1, .int x1)], [.int 5, .int l3_42], (0, 0), ks i42 a42 q42 r42) (by rfl) ?_
            refine ko_if mi_in29 (decide (5 ≤ l3_42)) 82 57 ([(3, .int l3_42), (2, .int ((a 51).getD x1.toNatClampNeg 0)), (0, .ref 50), (1, .int x1)], [], (0, 0), ks i42 a42 q42 r42) (by rfl) (fun c => ?_) (fun c => ?_)
            ·
              have c43 : (5 : Int32).toInt ≤ l3_42.toInt := kd_le c; clear c
              have hG44 := kG_call hJ3 hL42 (by decide +kernel)
              refine ko_steps mi_in29 4 _ (86, [(3, .int l3_42), (2, .int ((a 51).getD x1.toNatClampNeg 0)), (0, .ref 50), (1, .int x1)], [.int ((a 51).getD x1.toNatClampNeg 0), .int x1, .ref 50, .ref 50], (0, 0), ks i42 a42 q42 r42) (by rfl) ?_
              refine ko_callI mi_in29 (pc := 86) (ls := [(3, .int l3_42), (2, .int ((a 51).getD x1.toNatClampNeg 0)), (0, .ref 50), (1, .int x1)]) (st := [.int ((a 51).getD x1.toNatClampNeg 0), .int x1, .ref 50, .ref 50]) (h := ks i42 a42 q42 r42) (i := (.invokevirtual 100, 3, 31, 0, 9, 0, 223)) (by rfl) (by rfl) (cy := mi_c31) rfl rfl (kc31_50 hG44.I hG44.R x1 ((a 51).getD x1.toNatClampNeg 0) (oz423 fi_3200.2 z5.1 z5.2)) (by decide) ?_
              intro vg45 ig45 ag45 qg45 rg45 kg45 hg45
              have hGg45 := kG_call hG44 kg45 (by decide +kernel)
              have hJ46 := kG_i hGg45 3216 rfl (v := vg45) (kd_bd _)
              refine ko_steps mi_in29 6 _ (101, [(3, .int l3_42), (2, .int ((a 51).getD x1.toNatClampNeg 0)), (0, .ref 50), (1, .int x1)], [.int vg45, .int x1, .ref 56], (0, 0), ks (ku ig45 3216 vg45) ag45 qg45 rg45) (by rfl) ?_
              refine ko_callN mi_in29 (pc := 101) (ls := [(3, .int l3_42), (2, .int ((a 51).getD x1.toNatClampNeg 0)), (0, .ref 50), (1, .int x1)]) (st := [.int vg45, .int x1, .ref 56]) (h := ks (ku ig45 3216 vg45) ag45 qg45 rg45) (i := (.invokevirtual 104, 3, 1, 0, 9, 0, 228)) (by rfl) (by rfl) (cy := mi_c1) rfl rfl (kc1_56 hJ46.I hJ46.R x1 vg45) (by decide) ?_
              intro ig47 ag47 qg47 rg47 kg47 hg47
              have hGg47 := kG_call hJ46 kg47 (by decide +kernel)
              have efi42_3209 : (i42 3209).toInt = (i 3209).toInt := hL42.ti 3209 rfl
              have efig45_3209 : (ig45 3209).toInt = (i42 3209).toInt := kg45.ti 3209 rfl
              have efig47_3209 : (ig47 3209).toInt = (ig45 3209).toInt := kg47.ti 3209 rfl
              have b48 : ((-2147483648 : Int) ≤ (ig47 3209).toInt) ∧ ((ig47 3209).toInt ≤ 2147483647) := kd_bd (ig47 3209)
              have hJ49 := kG_i hGg47 3209 rfl (v := ((ig47 3209) + 1)) (kd_bd _)
              refine ko_steps mi_in29 10 _ (120, [(3, .int l3_42), (2, .int ((a 51).getD x1.toNatClampNeg 0)), (0, .ref 50), (1, .int x1)], [.int x1, .ref 55, .int x1, .ref 55], (0, 0), ks (ku ig47 3209 ((ig47 3209) + 1)) ag47 qg47 rg47) (by rfl) ?_
              refine ko_iald3 mi_in29 (n := 8) (c := 8) (ax := (0, 0, 0, 0, 0)) (by rfl) (by rfl) (ksG55 _ _ _ _) (hJ49.I.2.1 55) rfl (oz3 z5.1) (oz974 fi_3200.2 z5.2) ?_
              have b50 : ((-2147483648 : Int) ≤ ((ag47 55).getD x1.toNatClampNeg 0).toInt) ∧ (((ag47 55).getD x1.toNatClampNeg 0).toInt ≤ 2147483647) := kd_bd ((ag47 55).getD x1.toNatClampNeg 0)
              refine ko_steps mi_in29 2 _ (123, [(3, .int l3_42), (2, .int ((a 51).getD x1.toNatClampNeg 0)), (0, .ref 50), (1, .int x1)], [.int (((ag47 55).getD x1.toNatClampNeg 0) + 1), .int x1, .ref 55], (0, 0), ks (ku ig47 3209 ((ig47 3209) + 1)) ag47 qg47 rg47) (by rfl) ?_
              refine ko_iast3 mi_in29 (n := 8) (c := 8) (ax := (0, 0, 0, 0, 0)) (by rfl) (by rfl) (ksG55 _ _ _ _) (ksA55 _ _ _ _) (hJ49.I.2.1 55) rfl (oz3 z5.1) (oz974 fi_3200.2 z5.2) ?_
              intro a51 ea51 fa51
              have hJ51 := kG_a3 hJ49 55 rfl ea51 fa51 (kd_bd _)
              refine ko_steps mi_in29 4 _ (130, [(3, .int l3_42), (2, .int ((a 51).getD x1.toNatClampNeg 0)), (0, .ref 50), (1, .int x1)], [.int 0, .ref 63, .int 0, .ref 63], (0, 0), ks (ku ig47 3209 ((ig47 3209) + 1)) a51 qg47 rg47) (by rfl) ?_
              refine ko_iald3 mi_in29 (n := 5) (c := 5) (ax := (0, 0, 0, 0, 0)) (by rfl) (by rfl) (ksG63 _ _ _ _) (hJ51.I.2.1 63) rfl (oz46 kn0) (oz547 kn0) ?_
              have b52 : ((-2147483648 : Int) ≤ ((a51 63).getD (0 : Int32).toNatClampNeg 0).toInt) ∧ (((a51 63).getD (0 : Int32).toNatClampNeg 0).toInt ≤ 2147483647) := kd_bd ((a51 63).getD (0 : Int32).toNatClampNeg 0)
              refine ko_steps mi_in29 2 _ (133, [(3, .int l3_42), (2, .int ((a 51).getD x1.toNatClampNeg 0)), (0, .ref 50), (1, .int x1)], [.int (((a51 63).getD (0 : Int32).toNatClampNeg 0) + 1), .int 0, .ref 63], (0, 0), ks (ku ig47 3209 ((ig47 3209) + 1)) a51 qg47 rg47) (by rfl) ?_
              refine ko_iast3 mi_in29 (n := 5) (c := 5) (ax := (0, 0, 0, 0, 0)) (by rfl) (by rfl) (ksG63 _ _ _ _) (ksA63 _ _ _ _) (hJ51.I.2.1 63) rfl (oz46 kn0) (oz547 kn0) ?_
              intro a53 ea53 fa53
              have hJ53 := kG_a3 hJ51 63 rfl ea53 fa53 (kd_bd _)
              refine ko_steps mi_in29 4 _ (140, [(3, .int l3_42), (2, .int ((a 51).getD x1.toNatClampNeg 0)), (0, .ref 50), (1, .int x1)], [.int 1, .ref 63, .int 1, .ref 63], (0, 0), ks (ku ig47 3209 ((ig47 3209) + 1)) a53 qg47 rg47) (by rfl) ?_
              refine ko_iald3 mi_in29 (n := 5) (c := 5) (ax := (0, 0, 0, 0, 0)) (by rfl) (by rfl) (ksG63 _ _ _ _) (hJ53.I.2.1 63) rfl (oz246 kn1) (oz548 kn1) ?_
              have efig45_3215 : (ig45 3215).toInt = (i42 3215).toInt := kg45.ti 3215 rfl
              have efig47_3215 : (ig47 3215).toInt = (ig45 3215).toInt := kg47.ti 3215 rfl
              have b54 : ((-2147483648 : Int) ≤ ((a53 63).getD (1 : Int32).toNatClampNeg 0).toInt) ∧ (((a53 63).getD (1 : Int32).toNatClampNeg 0).toInt ≤ 2147483647) := kd_bd ((a53 63).getD (1 : Int32).toNatClampNeg 0)
              have b55 : ((-2147483648 : Int) ≤ (ig47 3215).toInt) ∧ ((ig47 3215).toInt ≤ 2147483647) := kd_bd (ig47 3215)
              refine ko_steps mi_in29 3 _ (146, [(3, .int l3_42), (2, .int ((a 51).getD x1.toNatClampNeg 0)), (0, .ref 50), (1, .int x1)], [.int (((a53 63).getD (1 : Int32).toNatClampNeg 0) + (ig47 3215)), .int 1, .ref 63], (0, 0), ks (ku ig47 3209 ((ig47 3209) + 1)) a53 qg47 rg47) (by rfl) ?_
              refine ko_iast3 mi_in29 (n := 5) (c := 5) (ax := (0, 0, 0, 0, 0)) (by rfl) (by rfl) (ksG63 _ _ _ _) (ksA63 _ _ _ _) (hJ53.I.2.1 63) rfl (oz246 kn1) (oz548 kn1) ?_
              intro a56 ea56 fa56
              have hJ56 := kG_a3 hJ53 63 rfl ea56 fa56 (kd_bd _)
              refine ko_steps mi_in29 2 _ (151, [(3, .int l3_42), (2, .int ((a 51).getD x1.toNatClampNeg 0)), (0, .ref 50), (1, .int x1)], [.int (ig47 3215)], (0, 0), ks (ku ig47 3209 ((ig47 3209) + 1)) a56 qg47 rg47) (by rfl) ?_
              exact ko_ret mi_in29 (by rfl) (hP (ig47 3215) _ _ _ _ hJ56 trivial)
            ·
              have c57 : l3_42.toInt < (5 : Int32).toInt := kd_leF c; clear c
              have fi42_3586 : ((0 : Int) ≤ (i42 3586).toInt) ∧ ((i42 3586).toInt ≤ 5) := hL42.I.1 3586
              have efi42_3206 : (i42 3206).toInt = (i 3206).toInt := hL42.ti 3206 rfl
              refine ko_steps mi_in29 5 _ (68, [(3, .int l3_42), (2, .int ((a 51).getD x1.toNatClampNeg 0)), (0, .ref 50), (1, .int x1)], [.int (i42 3206), .int (i42 3586)], (0, 0), ks i42 a42 q42 r42) (by rfl) ?_
              refine ko_if mi_in29 (decide ((i42 3586) < (i42 3206))) 82 71 ([(3, .int l3_42), (2, .int ((a 51).getD x1.toNatClampNeg 0)), (0, .ref 50), (1, .int x1)], [], (0, 0), ks i42 a42 q42 r42) (by rfl) (fun c => ?_) (fun c => ?_)
              ·
                have c58 : (i42 3586).toInt < (i42 3206).toInt := kd_lt c; clear c
                have hG59 := kG_call hJ3 hL42 (by decide +kernel)
                refine ko_steps mi_in29 4 _ (86, [(3, .int l3_42), (2, .int ((a 51).getD x1.toNatClampNeg 0)), (0, .ref 50), (1, .int x1)], [.int ((a 51).getD x1.toNatClampNeg 0), .int x1, .ref 50, .ref 50], (0, 0), ks i42 a42 q42 r42) (by rfl) ?_
                refine ko_callI mi_in29 (pc := 86) (ls := [(3, .int l3_42), (2, .int ((a 51).getD x1.toNatClampNeg 0)), (0, .ref 50), (1, .int x1)]) (st := [.int ((a 51).getD x1.toNatClampNeg 0), .int x1, .ref 50, .ref 50]) (h := ks i42 a42 q42 r42) (i := (.invokevirtual 100, 3, 31, 0, 9, 0, 223)) (by rfl) (by rfl) (cy := mi_c31) rfl rfl (kc31_50 hG59.I hG59.R x1 ((a 51).getD x1.toNatClampNeg 0) (oz423 fi_3200.2 z5.1 z5.2)) (by decide) ?_
                intro vg60 ig60 ag60 qg60 rg60 kg60 hg60
                have hGg60 := kG_call hG59 kg60 (by decide +kernel)
                have hJ61 := kG_i hGg60 3216 rfl (v := vg60) (kd_bd _)
                refine ko_steps mi_in29 6 _ (101, [(3, .int l3_42), (2, .int ((a 51).getD x1.toNatClampNeg 0)), (0, .ref 50), (1, .int x1)], [.int vg60, .int x1, .ref 56], (0, 0), ks (ku ig60 3216 vg60) ag60 qg60 rg60) (by rfl) ?_
                refine ko_callN mi_in29 (pc := 101) (ls := [(3, .int l3_42), (2, .int ((a 51).getD x1.toNatClampNeg 0)), (0, .ref 50), (1, .int x1)]) (st := [.int vg60, .int x1, .ref 56]) (h := ks (ku ig60 3216 vg60) ag60 qg60 rg60) (i := (.invokevirtual 104, 3, 1, 0, 9, 0, 228)) (by rfl) (by rfl) (cy := mi_c1) rfl rfl (kc1_56 hJ61.I hJ61.R x1 vg60) (by decide) ?_
                intro ig62 ag62 qg62 rg62 kg62 hg62
                have hGg62 := kG_call hJ61 kg62 (by decide +kernel)
                have efi42_3209 : (i42 3209).toInt = (i 3209).toInt := hL42.ti 3209 rfl
                have efig60_3209 : (ig60 3209).toInt = (i42 3209).toInt := kg60.ti 3209 rfl
                have efig62_3209 : (ig62 3209).toInt = (ig60 3209).toInt := kg62.ti 3209 rfl
                have b63 : ((-2147483648 : Int) ≤ (ig62 3209).toInt) ∧ ((ig62 3209).toInt ≤ 2147483647) := kd_bd (ig62 3209)
                have hJ64 := kG_i hGg62 3209 rfl (v := ((ig62 3209) + 1)) (kd_bd _)
                refine ko_steps mi_in29 10 _ (120, [(3, .int l3_42), (2, .int ((a 51).getD x1.toNatClampNeg 0)), (0, .ref 50), (1, .int x1)], [.int x1, .ref 55, .int x1, .ref 55], (0, 0), ks (ku ig62 3209 ((ig62 3209) + 1)) ag62 qg62 rg62) (by rfl) ?_
                refine ko_iald3 mi_in29 (n := 8) (c := 8) (ax := (0, 0, 0, 0, 0)) (by rfl) (by rfl) (ksG55 _ _ _ _) (hJ64.I.2.1 55) rfl (oz3 z5.1) (oz974 fi_3200.2 z5.2) ?_
                have b65 : ((-2147483648 : Int) ≤ ((ag62 55).getD x1.toNatClampNeg 0).toInt) ∧ (((ag62 55).getD x1.toNatClampNeg 0).toInt ≤ 2147483647) := kd_bd ((ag62 55).getD x1.toNatClampNeg 0)
                refine ko_steps mi_in29 2 _ (123, [(3, .int l3_42), (2, .int ((a 51).getD x1.toNatClampNeg 0)), (0, .ref 50), (1, .int x1)], [.int (((ag62 55).getD x1.toNatClampNeg 0) + 1), .int x1, .ref 55], (0, 0), ks (ku ig62 3209 ((ig62 3209) + 1)) ag62 qg62 rg62) (by rfl) ?_
                refine ko_iast3 mi_in29 (n := 8) (c := 8) (ax := (0, 0, 0, 0, 0)) (by rfl) (by rfl) (ksG55 _ _ _ _) (ksA55 _ _ _ _) (hJ64.I.2.1 55) rfl (oz3 z5.1) (oz974 fi_3200.2 z5.2) ?_
                intro a66 ea66 fa66
                have hJ66 := kG_a3 hJ64 55 rfl ea66 fa66 (kd_bd _)
                refine ko_steps mi_in29 4 _ (130, [(3, .int l3_42), (2, .int ((a 51).getD x1.toNatClampNeg 0)), (0, .ref 50), (1, .int x1)], [.int 0, .ref 63, .int 0, .ref 63], (0, 0), ks (ku ig62 3209 ((ig62 3209) + 1)) a66 qg62 rg62) (by rfl) ?_
                refine ko_iald3 mi_in29 (n := 5) (c := 5) (ax := (0, 0, 0, 0, 0)) (by rfl) (by rfl) (ksG63 _ _ _ _) (hJ66.I.2.1 63) rfl (oz46 kn0) (oz547 kn0) ?_
                have b67 : ((-2147483648 : Int) ≤ ((a66 63).getD (0 : Int32).toNatClampNeg 0).toInt) ∧ (((a66 63).getD (0 : Int32).toNatClampNeg 0).toInt ≤ 2147483647) := kd_bd ((a66 63).getD (0 : Int32).toNatClampNeg 0)
                refine ko_steps mi_in29 2 _ (133, [(3, .int l3_42), (2, .int ((a 51).getD x1.toNatClampNeg 0)), (0, .ref 50), (1, .int x1)], [.int (((a66 63).getD (0 : Int32).toNatClampNeg 0) + 1), .int 0, .ref 63], (0, 0), ks (ku ig62 3209 ((ig62 3209) + 1)) a66 qg62 rg62) (by rfl) ?_
                refine ko_iast3 mi_in29 (n := 5) (c := 5) (ax := (0, 0, 0, 0, 0)) (by rfl) (by rfl) (ksG63 _ _ _ _) (ksA63 _ _ _ _) (hJ66.I.2.1 63) rfl (oz46 kn0) (oz547 kn0) ?_
                intro a68 ea68 fa68
                have hJ68 := kG_a3 hJ66 63 rfl ea68 fa68 (kd_bd _)
                refine ko_steps mi_in29 4 _ (140, [(3, .int l3_42), (2, .int ((a 51).getD x1.toNatClampNeg 0)), (0, .ref 50), (1, .int x1)], [.int 1, .ref 63, .int 1, .ref 63], (0, 0), ks (ku ig62 3209 ((ig62 3209) + 1)) a68 qg62 rg62) (by rfl) ?_
                refine ko_iald3 mi_in29 (n := 5) (c := 5) (ax := (0, 0, 0, 0, 0)) (by rfl) (by rfl) (ksG63 _ _ _ _) (hJ68.I.2.1 63) rfl (oz246 kn1) (oz548 kn1) ?_
                have efig60_3215 : (ig60 3215).toInt = (i42 3215).toInt := kg60.ti 3215 rfl
                have efig62_3215 : (ig62 3215).toInt = (ig60 3215).toInt := kg62.ti 3215 rfl
                have b69 : ((-2147483648 : Int) ≤ ((a68 63).getD (1 : Int32).toNatClampNeg 0).toInt) ∧ (((a68 63).getD (1 : Int32).toNatClampNeg 0).toInt ≤ 2147483647) := kd_bd ((a68 63).getD (1 : Int32).toNatClampNeg 0)
                have b70 : ((-2147483648 : Int) ≤ (ig62 3215).toInt) ∧ ((ig62 3215).toInt ≤ 2147483647) := kd_bd (ig62 3215)
                refine ko_steps mi_in29 3 _ (146, [(3, .int l3_42), (2, .int ((a 51).getD x1.toNatClampNeg 0)), (0, .ref 50), (1, .int x1)], [.int (((a68 63).getD (1 : Int32).toNatClampNeg 0) + (ig62 3215)), .int 1, .ref 63], (0, 0), ks (ku ig62 3209 ((ig62 3209) + 1)) a68 qg62 rg62) (by rfl) ?_
                refine ko_iast3 mi_in29 (n := 5) (c := 5) (ax := (0, 0, 0, 0, 0)) (by rfl) (by rfl) (ksG63 _ _ _ _) (ksA63 _ _ _ _) (hJ68.I.2.1 63) rfl (oz246 kn1) (oz548 kn1) ?_
                intro a71 ea71 fa71
                have hJ71 := kG_a3 hJ68 63 rfl ea71 fa71 (kd_bd _)
                refine ko_steps mi_in29 2 _ (151, [(3, .int l3_42), (2, .int ((a 51).getD x1.toNatClampNeg 0)), (0, .ref 50), (1, .int x1)], [.int (ig62 3215)], (0, 0), ks (ku ig62 3209 ((ig62 3209) + 1)) a71 qg62 rg62) (by rfl) ?_
                exact ko_ret mi_in29 (by rfl) (hP (ig62 3215) _ _ _ _ hJ71 trivial)
              ·
                have c72 : (i42 3206).toInt ≤ (i42 3586).toInt := kd_ltF c; clear c
                refine ko_steps mi_in29 2 _ (73, [(3, .int l3_42), (2, .int ((a 51).getD x1.toNatClampNeg 0)), (0, .ref 50), (1, .int x1)], [.int x1, .ref 50], (0, 0), ks i42 a42 q42 r42) (by rfl) ?_
                refine ko_callN mi_in29 (pc := 73) (ls := [(3, .int l3_42), (2, .int ((a 51).getD x1.toNatClampNeg 0)), (0, .ref 50), (1, .int x1)]) (st := [.int x1, .ref 50]) (h := ks i42 a42 q42 r42) (i := (.invokevirtual 96, 3, 30, 0, 9, 0, 221)) (by rfl) (by rfl) (cy := mi_c30) rfl rfl (kc30_50 hL42.I hL42.R x1 (oz423 fi_3200.2 z5.1 z5.2)) (by decide) ?_
                intro ig73 ag73 qg73 rg73 kg73 hg73
                have hGg73 := kG_call hL42 kg73 (by decide +kernel)
                have s74 : (l3_42 + 1).toInt = l3_42.toInt + (1 : Int32).toInt := kd_add (oz12 p42_0 kn1) (oz561 c57 kn5 kn1)
                refine ko_steps mi_in29 2 _ (52, [(3, .int (l3_42 + 1)), (2, .int ((a 51).getD x1.toNatClampNeg 0)), (0, .ref 50), (1, .int x1)], [], (0, 0), ks ig73 ag73 qg73 rg73) (by rfl) ?_
                exact ih42 _ _ _ _ _ hGg73 (oz14 p42_0 s74 kn1) (kj_meas (oz372 s74 kn1) (oz562 c57 kn5) hm42)
        exact lp42 _ _ _ _ _ _ (kG_self _ hJ3.I hJ3.R) (oz46 kn0) (Nat.lt_succ_self _)
      ·
        have c75 : ((a 54).getD x1.toNatClampNeg 0).toInt = (1 : Int32).toInt := kd_neF c; clear c
        refine ko_steps mi_in29 1 _ (42, [(0, .ref 50), (1, .int x1)], [.int 0], (0, 0), ks (ku (ku (ku i 3214 8) 3215 0) 3216 0) a q r) (by rfl) ?_
        exact ko_ret mi_in29 (by rfl) (hP 0 _ _ _ _ hJ3 trivial)
  ·
    subst eg4
    have fi_3200 : ((0 : Int) ≤ (i 3200).toInt) ∧ ((i 3200).toInt ≤ 8) := hJ3.I.1 3200
    have z76 : ¬ (((0 : Int) ≤ x1.toInt) ∧ (x1.toInt < (i 3200).toInt)) := hg4
    refine ko_steps mi_in29 2 _ (42, [(0, .ref 50), (1, .int x1)], [.int 0], (0, 0), ks (ku (ku (ku i 3214 8) 3215 0) 3216 0) a q r) (by rfl) ?_
    exact ko_ret mi_in29 (by rfl) (hP 0 _ _ _ _ hJ3 trivial)
def w60_49 : kW := ([645, 3209, 3214, 3215, 3216, 3586, 3781, 6405], [13, 51, 55, 57, 58, 62, 63, 65, 66, 67, 68, 69, 70, 71, 72, 73, 75, 76, 77, 103], [], [])
def w60_49_L2 : kW := ([645, 3209, 3214, 3215, 3216, 3586, 3781, 6405], [13, 51, 55, 57, 58, 62, 63, 65, 66, 67, 68, 69, 70, 71, 72, 73, 75, 76, 77, 103], [], [])
set_option maxRecDepth 100000 in
theorem kc60_49 {i : Nat → Int32} {a : Nat → List Int32} {q : Nat → List Int64} {r : Nat → Nat} (hI : kI i a q) (hr : kr r)  : km 9 60 [.ref 49] (ks i a q r) (kVN w60_49 i a q r (fun i1 a1 q1 r1 => True)) := by
  have hG := kG_self w60_49 hI hr
  refine km_ofN (q := (mi_h60, mi_c60)) rfl (by decide) (Nat.le_of_ble_eq_true rfl) ?_
  intro P hP
  refine ko_steps mi_in60 2 _ (2, [(1, .int 0), (0, .ref 49)], [], (0, 0), ks i a q r) (by rfl) ?_
  have lp1 : ∀ (n : Nat) (i1 : Nat → Int32) (a1 : Nat → List Int32) (q1 : Nat → List Int64) (r1 : Nat → Nat) (l1_1 : Int32), kG w60_49_L2 i a q r i1 a1 q1 r1 → (0 : Int) ≤ l1_1.toInt → ((20 - l1_1.toInt)).toNat < n → ko 9 (mi_h60, mi_c60) P (2, [(1, .int l1_1), (0, .ref 49)], [], (0, 0), ks i1 a1 q1 r1) := by
    intro n
    induction n with
    | zero =>
      intro _ _ _ _ _ _ _ hm
      exact absurd hm (Nat.not_lt_zero _)
    | succ n ih1 =>
      intro i1 a1 q1 r1 l1_1 hL1 p1_0 hm1
      have fi1_3138 : ((0 : Int) ≤ (i1 3138).toInt) ∧ ((i1 3138).toInt ≤ 20) := hL1.I.1 3138
      have fi_3138 : ((0 : Int) ≤ (i 3138).toInt) ∧ ((i 3138).toInt ≤ 20) := hG.I.1 3138
      have efi1_3138 : (i1 3138).toInt = (i 3138).toInt := hL1.ti 3138 rfl
      refine ko_steps mi_in60 3 _ (7, [(1, .int l1_1), (0, .ref 49)], [.int (i1 3138), .int l1_1], (0, 0), ks i1 a1 q1 r1) (by rfl) ?_
      refine ko_if mi_in60 (decide ((i1 3138) ≤ l1_1)) 67 10 ([(1, .int l1_1), (0, .ref 49)], [], (0, 0), ks i1 a1 q1 r1) (by rfl) (fun c => ?_) (fun c => ?_)
      ·
        have c2 : (i1 3138).toInt ≤ l1_1.toInt := kd_le c; clear c
        have hG3 := kG_call hG hL1 (by decide +kernel)
        exact ko_ret mi_in60 (by rfl) (hP  _ _ _ _ hG3 trivial)
      ·
        have c4 : l1_1.toInt < (i1 3138).toInt := kd_leF c; clear c
        refine ko_steps mi_in60 2 _ (13, [(1, .int l1_1), (0, .ref 49)], [.int 20, .int l1_1], (0, 0), ks i1 a1 q1 r1) (by rfl) ?_
        refine ko_if mi_in60 (decide (20 ≤ l1_1)) 67 16 ([(1, .int l1_1), (0, .ref 49)], [], (0, 0), ks i1 a1 q1 r1) (by rfl) (fun c => ?_) (fun c => ?_)
        ·
          have c5 : (20 : Int32).toInt ≤ l1_1.toInt := kd_le c; clear c
          exact (oz1031 c4 c5 fi1_3138.2 kn20).elim
        ·
          have c6 : l1_1.toInt < (20 : Int32).toInt := kd_leF c; clear c
          refine ko_steps mi_in60 8 _ (30, [(1, .int l1_1), (0, .ref 49)], [.int l1_1, .ref 74, .ref 50, .int l1_1, .ref 76], (0, 0), ks i1 a1 q1 r1) (by rfl) ?_
          refine ko_iald3 mi_in60 (n := 20) (c := 20) (ax := (0, 0, 0, 0, 0)) (by rfl) (by rfl) (ksG74 _ _ _ _) (hL1.I.2.1 74) rfl (oz3 p1_0) (oz1013 c6 kn20) ?_
          refine ko_callI mi_in60 (pc := 31) (ls := [(1, .int l1_1), (0, .ref 49)]) (st := [.int ((a1 74).getD l1_1.toNatClampNeg 0), .ref 50, .int l1_1, .ref 76]) (h := ks i1 a1 q1 r1) (i := (.invokevirtual 63, 3, 29, 0, 9, 0, 220)) (by rfl) (by rfl) (cy := mi_c29) rfl rfl (kc29_50 hL1.I hL1.R ((a1 74).getD l1_1.toNatClampNeg 0)) (by decide) ?_
          intro vg7 ig7 ag7 qg7 rg7 kg7 hg7
          have hGg7 := kG_call hL1 kg7 (by decide +kernel)
          refine ko_iast3 mi_in60 (n := 20) (c := 20) (ax := (0, 0, 0, 0, 0)) (by rfl) (by rfl) (ksG76 _ _ _ _) (ksA76 _ _ _ _) (hGg7.I.2.1 76) rfl (oz3 p1_0) (oz1013 c6 kn20) ?_
          intro a8 ea8 fa8
          have hJ8 := kG_a3 hGg7 76 rfl ea8 fa8 (kd_bd _)
          refine ko_steps mi_in60 6 _ (47, [(1, .int l1_1), (0, .ref 49)], [.int (ig7 3214), .int l1_1, .ref 75], (0, 0), ks ig7 a8 qg7 rg7) (by rfl) ?_
          refine ko_iast3 mi_in60 (n := 20) (c := 20) (ax := (0, 0, 0, 0, 0)) (by rfl) (by rfl) (ksG75 _ _ _ _) (ksA75 _ _ _ _) (hJ8.I.2.1 75) rfl (oz3 p1_0) (oz1013 c6 kn20) ?_
          intro a9 ea9 fa9
          have hJ9 := kG_a3 hJ8 75 rfl ea9 fa9 (kd_bd _)
          refine ko_steps mi_in60 6 _ (60, [(1, .int l1_1), (0, .ref 49)], [.int (ig7 3216), .int l1_1, .ref 77], (0, 0), ks ig7 a9 qg7 rg7) (by rfl) ?_
          refine ko_iast3 mi_in60 (n := 20) (c := 20) (ax := (0, 0, 0, 0, 0)) (by rfl) (by rfl) (ksG77 _ _ _ _) (ksA77 _ _ _ _) (hJ9.I.2.1 77) rfl (oz3 p1_0) (oz1013 c6 kn20) ?_
          intro a10 ea10 fa10
          have hJ10 := kG_a3 hJ9 77 rfl ea10 fa10 (kd_bd _)
          have s11 : (l1_1 + 1).toInt = l1_1.toInt + (1 : Int32).toInt := kd_add (oz12 p1_0 kn1) (oz1014 c6 kn20 kn1)
          refine ko_steps mi_in60 2 _ (2, [(1, .int (l1_1 + 1)), (0, .ref 49)], [], (0, 0), ks ig7 a10 qg7 rg7) (by rfl) ?_
          exact ih1 _ _ _ _ _ hJ10 (oz14 p1_0 s11 kn1) (kj_meas (oz218 s11 kn1) (oz225 c6 kn20) hm1)
  exact lp1 _ _ _ _ _ _ (kG_self _ hG.I hG.R) (oz46 kn0) (Nat.lt_succ_self _)
def w59_49_1 : kW := ([645, 3200, 3206, 3207, 3208, 3209, 3214, 3215, 3216, 3586, 3781, 6405], [13, 51, 52, 53, 54, 55, 57, 58, 62, 63, 65, 66, 67, 68, 69, 70, 71, 72, 73, 75, 76, 77, 103], [], [1])
set_option maxRecDepth 100000 in
theorem kc59_49_1 {i : Nat → Int32} {a : Nat → List Int32} {q : Nat → List Int64} {r : Nat → Nat} (hI : kI i a q) (hr : kr r)  : km 11 59 [.ref 49, .ref 1] (ks i a q r) (kVN w59_49_1 i a q r (fun i1 a1 q1 r1 => True)) := by
  have hG := kG_self w59_49_1 hI hr
  refine km_ofN (q := (mi_h59, mi_c59)) rfl (by decide) (Nat.le_of_ble_eq_true rfl) ?_
  intro P hP
  refine ko_steps mi_in59 3 _ (5, [(0, .ref 49), (1, .ref 1)], [.ref 1, .ref 50], (0, 0), ks i a q r) (by rfl) ?_
  refine ko_callN mi_in59 (pc := 5) (ls := [(0, .ref 49), (1, .ref 1)]) (st := [.ref 1, .ref 50]) (h := ks i a q r) (i := (.invokevirtual 56, 3, 34, 0, 9, 0, 212)) (by rfl) (by rfl) (cy := mi_c34) rfl rfl (kc34_50_1 hG.I hG.R ) (by decide) ?_
  intro ig1 ag1 qg1 rg1 kg1 hg1
  have hGg1 := kG_call hG kg1 (by decide +kernel)
  refine ko_steps mi_in59 1 _ (9, [(0, .ref 49), (1, .ref 1)], [.ref 49], (0, 0), ks ig1 ag1 qg1 rg1) (by rfl) ?_
  refine ko_callN mi_in59 (pc := 9) (ls := [(0, .ref 49), (1, .ref 1)]) (st := [.ref 49]) (h := ks ig1 ag1 qg1 rg1) (i := (.invokevirtual 60, 3, 60, 0, 9, 0, 219)) (by rfl) (by rfl) (cy := mi_c60) rfl rfl (kc60_49 hGg1.I hGg1.R ) (by decide) ?_
  intro ig2 ag2 qg2 rg2 kg2 hg2
  have hGg2 := kG_call hGg1 kg2 (by decide +kernel)
  exact ko_ret mi_in59 (by rfl) (hP  _ _ _ _ hGg2 trivial)
set_option maxRecDepth 100000 in
theorem kc26_50 {i : Nat → Int32} {a : Nat → List Int32} {q : Nat → List Int64} {r : Nat → Nat} (hI : kI i a q) (hr : kr r) (x1 : Int32) : km 1 26 [.ref 50, .int x1] (ks i a q r) (kPR (ks i a q r) (fun v => (v = 51 ∧ True) ∨ (v = 52 ∧ True) ∨ (v = 53 ∧ True) ∨ (v = 54 ∧ True))) := by
  have hG := kG_self kW0 hI hr
  refine km_ofPR (q := (mi_h26, mi_c26)) rfl (by decide) (Nat.le_of_ble_eq_true rfl) ?_
  intro P hP
  refine ko_steps mi_in26 1 _ (1, [(0, .ref 50), (1, .int x1)], [.int x1], (0, 0), ks i a q r) (by rfl) ?_
  by_cases w1 : x1.toInt = 0
  ·
    refine ko_eq (x1 := (1, [(0, .ref 50), (1, .int x1)], [.int 0], (0, 0), ks i a q r)) (by rw [(kj_eq w1 (by decide) : x1 = 0)]) ?_
    refine ko_steps mi_in26 3 _ (32, [(0, .ref 50), (1, .int x1)], [.ref 51], (0, 0), ks i a q r) (by rfl) ?_
    exact ko_ret mi_in26 (by rfl) (hP 51 (Or.inl ⟨rfl, trivial⟩))
  by_cases w2 : x1.toInt = 1
  ·
    refine ko_eq (x1 := (1, [(0, .ref 50), (1, .int x1)], [.int 1], (0, 0), ks i a q r)) (by rw [(kj_eq w2 (by decide) : x1 = 1)]) ?_
    refine ko_steps mi_in26 3 _ (37, [(0, .ref 50), (1, .int x1)], [.ref 52], (0, 0), ks i a q r) (by rfl) ?_
    exact ko_ret mi_in26 (by rfl) (hP 52 (Or.inr (Or.inl ⟨rfl, trivial⟩)))
  by_cases w3 : x1.toInt = 2
  ·
    refine ko_eq (x1 := (1, [(0, .ref 50), (1, .int x1)], [.int 2], (0, 0), ks i a q r)) (by rw [(kj_eq w3 (by decide) : x1 = 2)]) ?_
    refine ko_steps mi_in26 3 _ (42, [(0, .ref 50), (1, .int x1)], [.ref 53], (0, 0), ks i a q r) (by rfl) ?_
    exact ko_ret mi_in26 (by rfl) (hP 53 (Or.inr (Or.inr (Or.inl ⟨rfl, trivial⟩))))
  refine ko_sw (ls := [(0, .ref 50), (1, .int x1)]) (r := []) (h := ks i a q r) mi_in26 (v := x1) (i := (.tableswitch 42 0 2 #[27, 32, 37], 27, 0, 0, 0, 0, 0)) (by rfl) rfl (oz973 w1 w2 w3) 43 (by rfl) ?_
  refine ko_steps mi_in26 2 _ (47, [(0, .ref 50), (1, .int x1)], [.ref 54], (0, 0), ks i a q r) (by rfl) ?_
  exact ko_ret mi_in26 (by rfl) (hP 54 (Or.inr (Or.inr (Or.inr (⟨rfl, trivial⟩)))))
set_option maxRecDepth 100000 in
theorem kc27_50 {i : Nat → Int32} {a : Nat → List Int32} {q : Nat → List Int64} {r : Nat → Nat} (hI : kI i a q) (hr : kr r) (x1 : Int32) (x2 : Int32) : km 3 27 [.ref 50, .int x1, .int x2] (ks i a q r) (kPI (ks i a q r) (fun v => True)) := by
  have hG := kG_self kW0 hI hr
  refine km_ofPI (q := (mi_h27, mi_c27)) rfl (by decide) (Nat.le_of_ble_eq_true rfl) ?_
  intro P hP
  refine ko_steps mi_in27 1 _ (1, [(0, .ref 50), (1, .int x1), (2, .int x2)], [.int x2], (0, 0), ks i a q r) (by rfl) ?_
  by_cases w1 : x2.toInt = 4
  ·
    refine ko_eq (x1 := (1, [(0, .ref 50), (1, .int x1), (2, .int x2)], [.int 4], (0, 0), ks i a q r)) (by rw [(kj_eq w1 (by decide) : x2 = 4)]) ?_
    refine ko_steps mi_in27 3 _ (32, [(0, .ref 50), (1, .int x1), (2, .int x2)], [.int (i 3206)], (0, 0), ks i a q r) (by rfl) ?_
    exact ko_ret mi_in27 (by rfl) (hP (i 3206) trivial)
  by_cases w2 : x2.toInt = 5
  ·
    refine ko_eq (x1 := (1, [(0, .ref 50), (1, .int x1), (2, .int x2)], [.int 5], (0, 0), ks i a q r)) (by rw [(kj_eq w2 (by decide) : x2 = 5)]) ?_
    refine ko_steps mi_in27 3 _ (37, [(0, .ref 50), (1, .int x1), (2, .int x2)], [.int (i 3207)], (0, 0), ks i a q r) (by rfl) ?_
    exact ko_ret mi_in27 (by rfl) (hP (i 3207) trivial)
  by_cases w3 : x2.toInt = 6
  ·
    refine ko_eq (x1 := (1, [(0, .ref 50), (1, .int x1), (2, .int x2)], [.int 6], (0, 0), ks i a q r)) (by rw [(kj_eq w3 (by decide) : x2 = 6)]) ?_
    refine ko_steps mi_in27 3 _ (42, [(0, .ref 50), (1, .int x1), (2, .int x2)], [.int (i 3208)], (0, 0), ks i a q r) (by rfl) ?_
    exact ko_ret mi_in27 (by rfl) (hP (i 3208) trivial)
  refine ko_sw (ls := [(0, .ref 50), (1, .int x1), (2, .int x2)]) (r := []) (h := ks i a q r) mi_in27 (v := x2) (i := (.tableswitch 42 4 6 #[27, 32, 37], 27, 0, 0, 0, 0, 0)) (by rfl) rfl (oz972 w1 w2 w3) 43 (by rfl) ?_
  refine ko_steps mi_in27 2 _ (45, [(0, .ref 50), (1, .int x1), (2, .int x2)], [.int x1, .ref 50], (0, 0), ks i a q r) (by rfl) ?_
  refine ko_callPI mi_in27 (pc := 45) (ls := [(0, .ref 50), (1, .int x1), (2, .int x2)]) (st := [.int x1, .ref 50]) (h := ks i a q r) (i := (.invokevirtual 85, 3, 24, 0, 9, 0, 165)) (by rfl) (by rfl) (cy := mi_c24) rfl rfl (kc24_50 hG.I hG.R x1) (by decide) ?_
  intro vg4 hg4
  rcases hg4 with ⟨eg4, hg4⟩ | ⟨eg4, hg4⟩
  ·
    subst eg4
    have fi_3200 : ((0 : Int) ≤ (i 3200).toInt) ∧ ((i 3200).toInt ≤ 8) := hG.I.1 3200
    have z5 : ((0 : Int) ≤ x1.toInt) ∧ (x1.toInt < (i 3200).toInt) := hg4
    refine ko_steps mi_in27 3 _ (53, [(0, .ref 50), (1, .int x1), (2, .int x2)], [.int x2, .ref 50], (0, 0), ks i a q r) (by rfl) ?_
    refine ko_callPR mi_in27 (pc := 53) (ls := [(0, .ref 50), (1, .int x1), (2, .int x2)]) (st := [.int x2, .ref 50]) (h := ks i a q r) (i := (.invokevirtual 89, 3, 26, 0, 9, 0, 166)) (by rfl) (by rfl) (cy := mi_c26) rfl rfl (kc26_50 hG.I hG.R x2) (by decide) ?_
    intro vg6 hg6
    rcases hg6 with ⟨eg6, hg6⟩ | ⟨eg6, hg6⟩ | ⟨eg6, hg6⟩ | ⟨eg6, hg6⟩
    ·
      subst eg6
      refine ko_steps mi_in27 1 _ (57, [(0, .ref 50), (1, .int x1), (2, .int x2)], [.int x1, .ref 51], (0, 0), ks i a q r) (by rfl) ?_
      refine ko_iald3 mi_in27 (n := 8) (c := 8) (ax := (0, 0, 0, 0, 0)) (by rfl) (by rfl) (ksG51 _ _ _ _) (hG.I.2.1 51) rfl (oz3 z5.1) (oz974 fi_3200.2 z5.2) ?_
      refine ko_steps mi_in27 1 _ (62, [(0, .ref 50), (1, .int x1), (2, .int x2)], [.int ((a 51).getD x1.toNatClampNeg 0)], (0, 0), ks i a q r) (by rfl) ?_
      exact ko_ret mi_in27 (by rfl) (hP ((a 51).getD x1.toNatClampNeg 0) trivial)
    ·
      subst eg6
      refine ko_steps mi_in27 1 _ (57, [(0, .ref 50), (1, .int x1), (2, .int x2)], [.int x1, .ref 52], (0, 0), ks i a q r) (by rfl) ?_
      refine ko_iald3 mi_in27 (n := 8) (c := 8) (ax := (0, 0, 0, 0, 0)) (by rfl) (by rfl) (ksG52 _ _ _ _) (hG.I.2.1 52) rfl (oz3 z5.1) (oz974 fi_3200.2 z5.2) ?_
      refine ko_steps mi_in27 1 _ (62, [(0, .ref 50), (1, .int x1), (2, .int x2)], [.int ((a 52).getD x1.toNatClampNeg 0)], (0, 0), ks i a q r) (by rfl) ?_
      exact ko_ret mi_in27 (by rfl) (hP ((a 52).getD x1.toNatClampNeg 0) trivial)
    ·
      subst eg6
      refine ko_steps mi_in27 1 _ (57, [(0, .ref 50), (1, .int x1), (2, .int x2)], [.int x1, .ref 53], (0, 0), ks i a q r) (by rfl) ?_
      refine ko_iald3 mi_in27 (n := 8) (c := 8) (ax := (0, 0, 0, 0, 0)) (by rfl) (by rfl) (ksG53 _ _ _ _) (hG.I.2.1 53) rfl (oz3 z5.1) (oz974 fi_3200.2 z5.2) ?_
      refine ko_steps mi_in27 1 _ (62, [(0, .ref 50), (1, .int x1), (2, .int x2)], [.int ((a 53).getD x1.toNatClampNeg 0)], (0, 0), ks i a q r) (by rfl) ?_
      exact ko_ret mi_in27 (by rfl) (hP ((a 53).getD x1.toNatClampNeg 0) trivial)
    ·
      subst eg6
      refine ko_steps mi_in27 1 _ (57, [(0, .ref 50), (1, .int x1), (2, .int x2)], [.int x1, .ref 54], (0, 0), ks i a q r) (by rfl) ?_
      refine ko_iald3 mi_in27 (n := 8) (c := 8) (ax := (0, 0, 0, 0, 0)) (by rfl) (by rfl) (ksG54 _ _ _ _) (hG.I.2.1 54) rfl (oz3 z5.1) (oz974 fi_3200.2 z5.2) ?_
      refine ko_steps mi_in27 1 _ (62, [(0, .ref 50), (1, .int x1), (2, .int x2)], [.int ((a 54).getD x1.toNatClampNeg 0)], (0, 0), ks i a q r) (by rfl) ?_
      exact ko_ret mi_in27 (by rfl) (hP ((a 54).getD x1.toNatClampNeg 0) trivial)
  ·
    subst eg4
    have fi_3200 : ((0 : Int) ≤ (i 3200).toInt) ∧ ((i 3200).toInt ≤ 8) := hG.I.1 3200
    have z7 : ¬ (((0 : Int) ≤ x1.toInt) ∧ (x1.toInt < (i 3200).toInt)) := hg4
    refine ko_steps mi_in27 2 _ (62, [(0, .ref 50), (1, .int x1), (2, .int x2)], [.int (-1)], (0, 0), ks i a q r) (by rfl) ?_
    exact ko_ret mi_in27 (by rfl) (hP (-1) trivial)
def w88_0 : kW := ([645, 3138, 3200, 3206, 3207, 3208, 3209, 3214, 3215, 3216, 3586, 3781, 6405], [13, 51, 52, 53, 54, 55, 57, 58, 62, 63, 65, 66, 67, 68, 69, 70, 71, 72, 73, 74, 75, 76, 77, 103], [], [1])
set_option maxRecDepth 100000 in
theorem kc88_0 {i : Nat → Int32} {a : Nat → List Int32} {q : Nat → List Int64} {r : Nat → Nat} (hI : kI i a q) (hr : kr r) (x1 : Int32) (x2 : Int32) (x3 : Int32) : km 13 88 [.ref 0, .int x1, .int x2, .int x3] (ks i a q r) (kVI w88_0 i a q r (fun v i1 a1 q1 r1 => True)) := by
  have hG := kG_self w88_0 hI hr
  refine km_ofI (q := (mi_h88, mi_c88)) rfl (by decide) (Nat.le_of_ble_eq_true rfl) ?_
  intro P hP
  refine ko_steps mi_in88 3 _ (3, [(0, .ref 0), (1, .int x1), (2, .int x2), (3, .int x3)], [.int 3, .int 0, .int x3], (0, 0), ks i a q r) (by rfl) ?_
  refine ko_callPI mi_in88 (pc := 3) (ls := [(0, .ref 0), (1, .int x1), (2, .int x2), (3, .int x3)]) (st := [.int 3, .int 0, .int x3]) (h := ks i a q r) (i := (.invokestatic 74, 3, 120, 0, 9, 0, 152)) (by rfl) (by rfl) (cy := mi_c120) rfl rfl (kc120 hG.I hG.R x3 0 3) (by decide) ?_
  intro vg1 hg1
  rcases hg1 with ⟨eg1, hg1⟩ | ⟨eg1, hg1⟩
  ·
    subst eg1
    have z2 : ((0 : Int32).toInt ≤ x3.toInt) ∧ (x3.toInt ≤ (3 : Int32).toInt) := hg1
    refine ko_steps mi_in88 3 _ (11, [(0, .ref 0), (1, .int x1), (2, .int x2), (3, .int x3)], [.int 3, .int x3], (0, 0), ks i a q r) (by rfl) ?_
    refine ko_if mi_in88 (x3 != 3) 25 14 ([(0, .ref 0), (1, .int x1), (2, .int x2), (3, .int x3)], [], (0, 0), ks i a q r) (by rfl) (fun c => ?_) (fun c => ?_)
    ·
      have c3 : x3.toInt ≠ (3 : Int32).toInt := kd_ne c; clear c
      refine ko_steps mi_in88 1 _ (26, [(0, .ref 0), (1, .int x1), (2, .int x2), (3, .int x3)], [.int x2], (0, 0), ks i a q r) (by rfl) ?_
      refine ko_if mi_in88 (x2 == 0) 31 29 ([(0, .ref 0), (1, .int x1), (2, .int x2), (3, .int x3)], [], (0, 0), ks i a q r) (by rfl) (fun c => ?_) (fun c => ?_)
      ·
        have c4 : x2.toInt = (0 : Int32).toInt := kd_eq c; clear c
        refine ko_steps mi_in88 2 _ (33, [(0, .ref 0), (1, .int x1), (2, .int x2), (3, .int x3)], [.int x1, .ref 0], (0, 0), ks i a q r) (by rfl) ?_
        refine ko_callI mi_in88 (pc := 33) (ls := [(0, .ref 0), (1, .int x1), (2, .int x2), (3, .int x3)]) (st := [.int x1, .ref 0]) (h := ks i a q r) (i := (.invokevirtual 144, 3, 129, 0, 9, 0, 208)) (by rfl) (by rfl) (cy := mi_c129) rfl rfl (kc129_0 hG.I hG.R x1) (by decide) ?_
        intro vg5 ig5 ag5 qg5 rg5 kg5 hg5
        have hGg5 := kG_call hG kg5 (by decide +kernel)
        have z6 : (vg5.toInt < 0) ∨ (vg5.toInt = 0) := hg5
        refine ko_steps mi_in88 2 _ (40, [(4, .int vg5), (0, .ref 0), (1, .int x1), (2, .int x2), (3, .int x3)], [.int vg5], (0, 0), ks ig5 ag5 qg5 rg5) (by rfl) ?_
        refine ko_if mi_in88 (decide (0 ≤ vg5)) 46 43 ([(4, .int vg5), (0, .ref 0), (1, .int x1), (2, .int x2), (3, .int x3)], [], (0, 0), ks ig5 ag5 qg5 rg5) (by rfl) (fun c => ?_) (fun c => ?_)
        ·
          have c7 : (0 : Int32).toInt ≤ vg5.toInt := kd_le c; clear c
          refine ko_steps mi_in88 4 _ (54, [(4, .int vg5), (0, .ref 0), (1, .int x1), (2, .int x2), (3, .int x3)], [.ref 1, .ref 49], (0, 0), ks ig5 ag5 qg5 rg5) (by rfl) ?_
          refine ko_callN mi_in88 (pc := 54) (ls := [(4, .int vg5), (0, .ref 0), (1, .int x1), (2, .int x2), (3, .int x3)]) (st := [.ref 1, .ref 49]) (h := ks ig5 ag5 qg5 rg5) (i := (.invokevirtual 147, 3, 59, 0, 9, 0, 211)) (by rfl) (by rfl) (cy := mi_c59) rfl rfl (kc59_49_1 hGg5.I hGg5.R ) (by decide) ?_
          intro ig8 ag8 qg8 rg8 kg8 hg8
          have hGg8 := kG_call hGg5 kg8 (by decide +kernel)
          refine ko_steps mi_in88 1 _ (58, [(4, .int vg5), (0, .ref 0), (1, .int x1), (2, .int x2), (3, .int x3)], [.int x3], (0, 0), ks ig8 ag8 qg8 rg8) (by rfl) ?_
          by_cases w9 : x3.toInt = 0
          ·
            refine ko_eq (x1 := (58, [(4, .int vg5), (0, .ref 0), (1, .int x1), (2, .int x2), (3, .int x3)], [.int 0], (0, 0), ks ig8 ag8 qg8 rg8)) (by rw [(kj_eq w9 (by decide) : x3 = 0)]) ?_
            have fig8_3138 : ((0 : Int) ≤ (ig8 3138).toInt) ∧ ((ig8 3138).toInt ≤ 20) := hGg8.I.1 3138
            have fig5_3138 : ((0 : Int) ≤ (ig5 3138).toInt) ∧ ((ig5 3138).toInt ≤ 20) := hGg5.I.1 3138
            have efig8_3138 : (ig8 3138).toInt = (ig5 3138).toInt := kg8.ti 3138 rfl
            refine ko_steps mi_in88 4 _ (91, [(4, .int vg5), (0, .ref 0), (1, .int x1), (2, .int x2), (3, .int x3)], [.int (ig8 3138)], (0, 0), ks ig8 ag8 qg8 rg8) (by rfl) ?_
            exact ko_ret mi_in88 (by rfl) (hP (ig8 3138) _ _ _ _ hGg8 trivial)
          by_cases w10 : x3.toInt = 1
          ·
            refine ko_eq (x1 := (58, [(4, .int vg5), (0, .ref 0), (1, .int x1), (2, .int x2), (3, .int x3)], [.int 1], (0, 0), ks ig8 ag8 qg8 rg8)) (by rw [(kj_eq w10 (by decide) : x3 = 1)]) ?_
            refine ko_steps mi_in88 6 _ (103, [(4, .int vg5), (0, .ref 0), (1, .int x1), (2, .int x2), (3, .int x3)], [.int 2, .ref 63], (0, 0), ks ig8 ag8 qg8 rg8) (by rfl) ?_
            refine ko_iald3 mi_in88 (n := 5) (c := 5) (ax := (0, 0, 0, 0, 0)) (by rfl) (by rfl) (ksG63 _ _ _ _) (hGg8.I.2.1 63) rfl (oz256 kn2) (oz549 kn2) ?_
            exact ko_ret mi_in88 (by rfl) (hP ((ag8 63).getD (2 : Int32).toNatClampNeg 0) _ _ _ _ hGg8 trivial)
          by_cases w11 : x3.toInt = 2
          ·
            refine ko_eq (x1 := (58, [(4, .int vg5), (0, .ref 0), (1, .int x1), (2, .int x2), (3, .int x3)], [.int 2], (0, 0), ks ig8 ag8 qg8 rg8)) (by rw [(kj_eq w11 (by decide) : x3 = 2)]) ?_
            have fig8_3586 : ((0 : Int) ≤ (ig8 3586).toInt) ∧ ((ig8 3586).toInt ≤ 5) := hGg8.I.1 3586
            refine ko_steps mi_in88 6 _ (118, [(4, .int vg5), (0, .ref 0), (1, .int x1), (2, .int x2), (3, .int x3)], [.int (ig8 3586)], (0, 0), ks ig8 ag8 qg8 rg8) (by rfl) ?_
            exact ko_ret mi_in88 (by rfl) (hP (ig8 3586) _ _ _ _ hGg8 trivial)
          exact (oz1052 c3 w10 w11 w9 z2.1 z2.2 kn3 kn0).elim
        ·
          have c12 : vg5.toInt < (0 : Int32).toInt := kd_leF c; clear c
          refine ko_steps mi_in88 1 _ (45, [(4, .int vg5), (0, .ref 0), (1, .int x1), (2, .int x2), (3, .int x3)], [.int vg5], (0, 0), ks ig5 ag5 qg5 rg5) (by rfl) ?_
          exact ko_ret mi_in88 (by rfl) (hP vg5 _ _ _ _ hGg5 trivial)
      ·
        have c13 : x2.toInt ≠ (0 : Int32).toInt := kd_eqF c; clear c
        refine ko_steps mi_in88 1 _ (30, [(0, .ref 0), (1, .int x1), (2, .int x2), (3, .int x3)], [.int (-1)], (0, 0), ks i a q r) (by rfl) ?_
        exact ko_ret mi_in88 (by rfl) (hP (-1) _ _ _ _ hG trivial)
    ·
      have c14 : x3.toInt = (3 : Int32).toInt := kd_neF c; clear c
      refine ko_steps mi_in88 2 _ (16, [(0, .ref 0), (1, .int x1), (2, .int x2), (3, .int x3)], [.int x2, .ref 0], (0, 0), ks i a q r) (by rfl) ?_
      refine ko_callPI mi_in88 (pc := 16) (ls := [(0, .ref 0), (1, .int x1), (2, .int x2), (3, .int x3)]) (st := [.int x2, .ref 0]) (h := ks i a q r) (i := (.invokevirtual 141, 3, 123, 0, 9, 0, 162)) (by rfl) (by rfl) (cy := mi_c123) rfl rfl (kc123_0 hG.I hG.R x2) (by decide) ?_
      intro vg15 hg15
      rcases hg15 with ⟨eg15, hg15⟩ | ⟨eg15, hg15⟩
      ·
        subst eg15
        have fi_64 : ((0 : Int) ≤ (i 64).toInt) ∧ ((i 64).toInt ≤ 8) := hG.I.1 64
        have z16 : ((0 : Int) ≤ x2.toInt) ∧ (x2.toInt < (i 64).toInt) := hg15
        refine ko_steps mi_in88 3 _ (33, [(0, .ref 0), (1, .int x1), (2, .int x2), (3, .int x3)], [.int x1, .ref 0], (0, 0), ks i a q r) (by rfl) ?_
        refine ko_callI mi_in88 (pc := 33) (ls := [(0, .ref 0), (1, .int x1), (2, .int x2), (3, .int x3)]) (st := [.int x1, .ref 0]) (h := ks i a q r) (i := (.invokevirtual 144, 3, 129, 0, 9, 0, 208)) (by rfl) (by rfl) (cy := mi_c129) rfl rfl (kc129_0 hG.I hG.R x1) (by decide) ?_
        intro vg17 ig17 ag17 qg17 rg17 kg17 hg17
        have hGg17 := kG_call hG kg17 (by decide +kernel)
        have z18 : (vg17.toInt < 0) ∨ (vg17.toInt = 0) := hg17
        refine ko_steps mi_in88 2 _ (40, [(4, .int vg17), (0, .ref 0), (1, .int x1), (2, .int x2), (3, .int x3)], [.int vg17], (0, 0), ks ig17 ag17 qg17 rg17) (by rfl) ?_
        refine ko_if mi_in88 (decide (0 ≤ vg17)) 46 43 ([(4, .int vg17), (0, .ref 0), (1, .int x1), (2, .int x2), (3, .int x3)], [], (0, 0), ks ig17 ag17 qg17 rg17) (by rfl) (fun c => ?_) (fun c => ?_)
        ·
          have c19 : (0 : Int32).toInt ≤ vg17.toInt := kd_le c; clear c
          refine ko_steps mi_in88 4 _ (54, [(4, .int vg17), (0, .ref 0), (1, .int x1), (2, .int x2), (3, .int x3)], [.ref 1, .ref 49], (0, 0), ks ig17 ag17 qg17 rg17) (by rfl) ?_
          refine ko_callN mi_in88 (pc := 54) (ls := [(4, .int vg17), (0, .ref 0), (1, .int x1), (2, .int x2), (3, .int x3)]) (st := [.ref 1, .ref 49]) (h := ks ig17 ag17 qg17 rg17) (i := (.invokevirtual 147, 3, 59, 0, 9, 0, 211)) (by rfl) (by rfl) (cy := mi_c59) rfl rfl (kc59_49_1 hGg17.I hGg17.R ) (by decide) ?_
          intro ig20 ag20 qg20 rg20 kg20 hg20
          have hGg20 := kG_call hGg17 kg20 (by decide +kernel)
          refine ko_steps mi_in88 1 _ (58, [(4, .int vg17), (0, .ref 0), (1, .int x1), (2, .int x2), (3, .int x3)], [.int x3], (0, 0), ks ig20 ag20 qg20 rg20) (by rfl) ?_
          have w21 : ¬ (x3.toInt = 0) := (oz1053 c14 kn3)
          have w22 : ¬ (x3.toInt = 1) := (oz1054 c14 kn3)
          have w23 : ¬ (x3.toInt = 2) := (oz1055 c14 kn3)
          refine ko_sw (ls := [(4, .int vg17), (0, .ref 0), (1, .int x1), (2, .int x2), (3, .int x3)]) (r := []) (h := ks ig20 ag20 qg20 rg20) mi_in88 (v := x3) (i := (.tableswitch 61 0 2 #[26, 34, 47], 26, 0, 0, 0, 0, 0)) (by rfl) rfl (oz973 w21 w22 w23) 119 (by rfl) ?_
          refine ko_steps mi_in88 5 _ (128, [(4, .int vg17), (0, .ref 0), (1, .int x1), (2, .int x2), (3, .int x3)], [.int 0, .int x2, .ref 50], (0, 0), ks ig20 ag20 qg20 rg20) (by rfl) ?_
          refine ko_callPI mi_in88 (pc := 128) (ls := [(4, .int vg17), (0, .ref 0), (1, .int x1), (2, .int x2), (3, .int x3)]) (st := [.int 0, .int x2, .ref 50]) (h := ks ig20 ag20 qg20 rg20) (i := (.invokevirtual 98, 3, 27, 0, 9, 0, 164)) (by rfl) (by rfl) (cy := mi_c27) rfl rfl (kc27_50 hGg20.I hGg20.R x2 0) (by decide) ?_
          intro vg24 hg24
          exact ko_ret mi_in88 (by rfl) (hP vg24 _ _ _ _ hGg20 trivial)
        ·
          have c25 : vg17.toInt < (0 : Int32).toInt := kd_leF c; clear c
          refine ko_steps mi_in88 1 _ (45, [(4, .int vg17), (0, .ref 0), (1, .int x1), (2, .int x2), (3, .int x3)], [.int vg17], (0, 0), ks ig17 ag17 qg17 rg17) (by rfl) ?_
          exact ko_ret mi_in88 (by rfl) (hP vg17 _ _ _ _ hGg17 trivial)
      ·
        subst eg15
        have fi_64 : ((0 : Int) ≤ (i 64).toInt) ∧ ((i 64).toInt ≤ 8) := hG.I.1 64
        have z26 : ¬ (((0 : Int) ≤ x2.toInt) ∧ (x2.toInt < (i 64).toInt)) := hg15
        refine ko_steps mi_in88 3 _ (30, [(0, .ref 0), (1, .int x1), (2, .int x2), (3, .int x3)], [.int (-1)], (0, 0), ks i a q r) (by rfl) ?_
        exact ko_ret mi_in88 (by rfl) (hP (-1) _ _ _ _ hG trivial)
  ·
    subst eg1
    have z27 : ¬ (((0 : Int32).toInt ≤ x3.toInt) ∧ (x3.toInt ≤ (3 : Int32).toInt)) := hg1
    refine ko_steps mi_in88 2 _ (30, [(0, .ref 0), (1, .int x1), (2, .int x2), (3, .int x3)], [.int (-1)], (0, 0), ks i a q r) (by rfl) ?_
    exact ko_ret mi_in88 (by rfl) (hP (-1) _ _ _ _ hG trivial)
def w89_0 : kW := ([645, 3138, 3200, 3206, 3207, 3208, 3209, 3214, 3215, 3216, 3586, 3781, 6405], [13, 51, 52, 53, 54, 55, 57, 58, 62, 63, 65, 66, 67, 68, 69, 70, 71, 72, 73, 74, 75, 76, 77, 103], [], [1])
set_option maxRecDepth 100000 in
theorem kc89_0 {i : Nat → Int32} {a : Nat → List Int32} {q : Nat → List Int64} {r : Nat → Nat} (hI : kI i a q) (hr : kr r) (x1 : Int32) (x2 : Int32) (x3 : Int32) : km 13 89 [.ref 0, .int x1, .int x2, .int x3] (ks i a q r) (kVI w89_0 i a q r (fun v i1 a1 q1 r1 => True)) := by
  have hG := kG_self w89_0 hI hr
  refine km_ofI (q := (mi_h89, mi_c89)) rfl (by decide) (Nat.le_of_ble_eq_true rfl) ?_
  intro P hP
  refine ko_steps mi_in89 1 _ (1, [(0, .ref 0), (1, .int x1), (2, .int x2), (3, .int x3)], [.int x2], (0, 0), ks i a q r) (by rfl) ?_
  refine ko_if mi_in89 (decide (x2 < 0)) 13 4 ([(0, .ref 0), (1, .int x1), (2, .int x2), (3, .int x3)], [], (0, 0), ks i a q r) (by rfl) (fun c => ?_) (fun c => ?_)
  ·
    have c1 : x2.toInt < (0 : Int32).toInt := kd_lt c; clear c
    refine ko_steps mi_in89 1 _ (14, [(0, .ref 0), (1, .int x1), (2, .int x2), (3, .int x3)], [.int (-1)], (0, 0), ks i a q r) (by rfl) ?_
    exact ko_ret mi_in89 (by rfl) (hP (-1) _ _ _ _ hG trivial)
  ·
    have c2 : (0 : Int32).toInt ≤ x2.toInt := kd_ltF c; clear c
    refine ko_steps mi_in89 3 _ (7, [(0, .ref 0), (1, .int x1), (2, .int x2), (3, .int x3)], [.int 2, .int 0, .int x3], (0, 0), ks i a q r) (by rfl) ?_
    refine ko_callPI mi_in89 (pc := 7) (ls := [(0, .ref 0), (1, .int x1), (2, .int x2), (3, .int x3)]) (st := [.int 2, .int 0, .int x3]) (h := ks i a q r) (i := (.invokestatic 74, 3, 120, 0, 9, 0, 152)) (by rfl) (by rfl) (cy := mi_c120) rfl rfl (kc120 hG.I hG.R x3 0 2) (by decide) ?_
    intro vg3 hg3
    rcases hg3 with ⟨eg3, hg3⟩ | ⟨eg3, hg3⟩
    ·
      subst eg3
      have z4 : ((0 : Int32).toInt ≤ x3.toInt) ∧ (x3.toInt ≤ (2 : Int32).toInt) := hg3
      refine ko_steps mi_in89 3 _ (17, [(0, .ref 0), (1, .int x1), (2, .int x2), (3, .int x3)], [.int x1, .ref 0], (0, 0), ks i a q r) (by rfl) ?_
      refine ko_callI mi_in89 (pc := 17) (ls := [(0, .ref 0), (1, .int x1), (2, .int x2), (3, .int x3)]) (st := [.int x1, .ref 0]) (h := ks i a q r) (i := (.invokevirtual 144, 3, 129, 0, 9, 0, 208)) (by rfl) (by rfl) (cy := mi_c129) rfl rfl (kc129_0 hG.I hG.R x1) (by decide) ?_
      intro vg5 ig5 ag5 qg5 rg5 kg5 hg5
      have hGg5 := kG_call hG kg5 (by decide +kernel)
      have z6 : (vg5.toInt < 0) ∨ (vg5.toInt = 0) := hg5
      refine ko_steps mi_in89 2 _ (24, [(4, .int vg5), (0, .ref 0), (1, .int x1), (2, .int x2), (3, .int x3)], [.int vg5], (0, 0), ks ig5 ag5 qg5 rg5) (by rfl) ?_
      refine ko_if mi_in89 (decide (0 ≤ vg5)) 30 27 ([(4, .int vg5), (0, .ref 0), (1, .int x1), (2, .int x2), (3, .int x3)], [], (0, 0), ks ig5 ag5 qg5 rg5) (by rfl) (fun c => ?_) (fun c => ?_)
      ·
        have c7 : (0 : Int32).toInt ≤ vg5.toInt := kd_le c; clear c
        have fig5_3138 : ((0 : Int) ≤ (ig5 3138).toInt) ∧ ((ig5 3138).toInt ≤ 20) := hGg5.I.1 3138
        refine ko_steps mi_in89 4 _ (38, [(4, .int vg5), (0, .ref 0), (1, .int x1), (2, .int x2), (3, .int x3)], [.int (ig5 3138), .int x2], (0, 0), ks ig5 ag5 qg5 rg5) (by rfl) ?_
        refine ko_if mi_in89 (decide (x2 < (ig5 3138))) 44 41 ([(4, .int vg5), (0, .ref 0), (1, .int x1), (2, .int x2), (3, .int x3)], [], (0, 0), ks ig5 ag5 qg5 rg5) (by rfl) (fun c => ?_) (fun c => ?_)
        ·
          have c8 : x2.toInt < (ig5 3138).toInt := kd_lt c; clear c
          refine ko_steps mi_in89 4 _ (52, [(4, .int vg5), (0, .ref 0), (1, .int x1), (2, .int x2), (3, .int x3)], [.ref 1, .ref 49], (0, 0), ks ig5 ag5 qg5 rg5) (by rfl) ?_
          refine ko_callN mi_in89 (pc := 52) (ls := [(4, .int vg5), (0, .ref 0), (1, .int x1), (2, .int x2), (3, .int x3)]) (st := [.ref 1, .ref 49]) (h := ks ig5 ag5 qg5 rg5) (i := (.invokevirtual 147, 3, 59, 0, 9, 0, 211)) (by rfl) (by rfl) (cy := mi_c59) rfl rfl (kc59_49_1 hGg5.I hGg5.R ) (by decide) ?_
          intro ig9 ag9 qg9 rg9 kg9 hg9
          have hGg9 := kG_call hGg5 kg9 (by decide +kernel)
          refine ko_steps mi_in89 1 _ (56, [(4, .int vg5), (0, .ref 0), (1, .int x1), (2, .int x2), (3, .int x3)], [.int x3], (0, 0), ks ig9 ag9 qg9 rg9) (by rfl) ?_
          refine ko_if mi_in89 (x3 != 0) 69 59 ([(4, .int vg5), (0, .ref 0), (1, .int x1), (2, .int x2), (3, .int x3)], [], (0, 0), ks ig9 ag9 qg9 rg9) (by rfl) (fun c => ?_) (fun c => ?_)
          ·
            have c10 : x3.toInt ≠ (0 : Int32).toInt := kd_ne c; clear c
            refine ko_steps mi_in89 2 _ (71, [(4, .int vg5), (0, .ref 0), (1, .int x1), (2, .int x2), (3, .int x3)], [.int 1, .int x3], (0, 0), ks ig9 ag9 qg9 rg9) (by rfl) ?_
            refine ko_if mi_in89 (x3 != 1) 86 74 ([(4, .int vg5), (0, .ref 0), (1, .int x1), (2, .int x2), (3, .int x3)], [], (0, 0), ks ig9 ag9 qg9 rg9) (by rfl) (fun c => ?_) (fun c => ?_)
            ·
              have c11 : x3.toInt ≠ (1 : Int32).toInt := kd_ne c; clear c
              refine ko_steps mi_in89 4 _ (94, [(4, .int vg5), (0, .ref 0), (1, .int x1), (2, .int x2), (3, .int x3)], [.int x2, .ref 77], (0, 0), ks ig9 ag9 qg9 rg9) (by rfl) ?_
              refine ko_iald3 mi_in89 (n := 20) (c := 20) (ax := (0, 0, 0, 0, 0)) (by rfl) (by rfl) (ksG77 _ _ _ _) (hGg9.I.2.1 77) rfl (oz389 c2 kn0) (oz1056 c8 fig5_3138.2) ?_
              exact ko_ret mi_in89 (by rfl) (hP ((ag9 77).getD x2.toNatClampNeg 0) _ _ _ _ hGg9 trivial)
            ·
              have c12 : x3.toInt = (1 : Int32).toInt := kd_neF c; clear c
              refine ko_steps mi_in89 4 _ (82, [(4, .int vg5), (0, .ref 0), (1, .int x1), (2, .int x2), (3, .int x3)], [.int x2, .ref 76], (0, 0), ks ig9 ag9 qg9 rg9) (by rfl) ?_
              refine ko_iald3 mi_in89 (n := 20) (c := 20) (ax := (0, 0, 0, 0, 0)) (by rfl) (by rfl) (ksG76 _ _ _ _) (hGg9.I.2.1 76) rfl (oz389 c2 kn0) (oz1056 c8 fig5_3138.2) ?_
              refine ko_steps mi_in89 1 _ (95, [(4, .int vg5), (0, .ref 0), (1, .int x1), (2, .int x2), (3, .int x3)], [.int ((ag9 76).getD x2.toNatClampNeg 0)], (0, 0), ks ig9 ag9 qg9 rg9) (by rfl) ?_
              exact ko_ret mi_in89 (by rfl) (hP ((ag9 76).getD x2.toNatClampNeg 0) _ _ _ _ hGg9 trivial)
          ·
            have c13 : x3.toInt = (0 : Int32).toInt := kd_neF c; clear c
            refine ko_steps mi_in89 4 _ (67, [(4, .int vg5), (0, .ref 0), (1, .int x1), (2, .int x2), (3, .int x3)], [.int x2, .ref 75], (0, 0), ks ig9 ag9 qg9 rg9) (by rfl) ?_
            refine ko_iald3 mi_in89 (n := 20) (c := 20) (ax := (0, 0, 0, 0, 0)) (by rfl) (by rfl) (ksG75 _ _ _ _) (hGg9.I.2.1 75) rfl (oz389 c2 kn0) (oz1056 c8 fig5_3138.2) ?_
            exact ko_ret mi_in89 (by rfl) (hP ((ag9 75).getD x2.toNatClampNeg 0) _ _ _ _ hGg9 trivial)
        ·
          have c14 : (ig5 3138).toInt ≤ x2.toInt := kd_ltF c; clear c
          refine ko_steps mi_in89 1 _ (43, [(4, .int vg5), (0, .ref 0), (1, .int x1), (2, .int x2), (3, .int x3)], [.int (-2)], (0, 0), ks ig5 ag5 qg5 rg5) (by rfl) ?_
          exact ko_ret mi_in89 (by rfl) (hP (-2) _ _ _ _ hGg5 trivial)
      ·
        have c15 : vg5.toInt < (0 : Int32).toInt := kd_leF c; clear c
        refine ko_steps mi_in89 1 _ (29, [(4, .int vg5), (0, .ref 0), (1, .int x1), (2, .int x2), (3, .int x3)], [.int vg5], (0, 0), ks ig5 ag5 qg5 rg5) (by rfl) ?_
        exact ko_ret mi_in89 (by rfl) (hP vg5 _ _ _ _ hGg5 trivial)
    ·
      subst eg3
      have z16 : ¬ (((0 : Int32).toInt ≤ x3.toInt) ∧ (x3.toInt ≤ (2 : Int32).toInt)) := hg3
      refine ko_steps mi_in89 2 _ (14, [(0, .ref 0), (1, .int x1), (2, .int x2), (3, .int x3)], [.int (-1)], (0, 0), ks i a q r) (by rfl) ?_
      exact ko_ret mi_in89 (by rfl) (hP (-1) _ _ _ _ hG trivial)
def w32_50 : kW := ([3208, 3209], [55, 63], [], [])
def w32_50_L22 : kW := ([], [55], [], [])
set_option maxRecDepth 100000 in
theorem kc32_50 {i : Nat → Int32} {a : Nat → List Int32} {q : Nat → List Int64} {r : Nat → Nat} (hI : kI i a q) (hr : kr r)  : km 1 32 [.ref 50] (ks i a q r) (kVN w32_50 i a q r (fun i1 a1 q1 r1 => True)) := by
  have hG := kG_self w32_50 hI hr
  refine km_ofN (q := (mi_h32, mi_c32)) rfl (by decide) (Nat.le_of_ble_eq_true rfl) ?_
  intro P hP
  have b1 : ((-2147483648 : Int) ≤ (i 3208).toInt) ∧ ((i 3208).toInt ≤ 2147483647) := kd_bd (i 3208)
  refine ko_steps mi_in32 6 _ (9, [(0, .ref 50)], [.int ((i 3208) + 1), .int 99, .ref 50], (0, 0), ks i a q r) (by rfl) ?_
  have m3 : (((bif decide (((i 3208) + 1) < 99) then ((i 3208) + 1) else 99).toInt ≤ (99 : Int32).toInt) ∧ ((bif decide (((i 3208) + 1) < 99) then ((i 3208) + 1) else 99).toInt ≤ ((i 3208) + 1).toInt)) ∧ ((bif decide (((i 3208) + 1) < 99) then ((i 3208) + 1) else 99).toInt = (99 : Int32).toInt ∨ (bif decide (((i 3208) + 1) < 99) then ((i 3208) + 1) else 99).toInt = ((i 3208) + 1).toInt) := kd_min
  refine ko_steps mi_in32 1 _ (12, [(0, .ref 50)], [.int (bif decide (((i 3208) + 1) < 99) then ((i 3208) + 1) else 99), .ref 50], (0, 0), ks i a q r) (by rfl) ?_
  generalize (bif decide (((i 3208) + 1) < 99) then ((i 3208) + 1) else 99) = m2 at m3 ⊢
  have hJ4 := kG_i hG 3208 rfl (v := m2) (kd_bd _)
  have hJ5 := kG_i hJ4 3209 rfl (v := 0) (kd_bd _)
  refine ko_steps mi_in32 6 _ (22, [(1, .int 0), (0, .ref 50)], [], (0, 0), ks (ku (ku i 3208 m2) 3209 0) a q r) (by rfl) ?_
  have lp6 : ∀ (n : Nat) (i6 : Nat → Int32) (a6 : Nat → List Int32) (q6 : Nat → List Int64) (r6 : Nat → Nat) (l1_6 : Int32), kG w32_50_L22 (ku (ku i 3208 m2) 3209 0) a q r i6 a6 q6 r6 → (0 : Int) ≤ l1_6.toInt → ((8 - l1_6.toInt)).toNat < n → ko 1 (mi_h32, mi_c32) P (22, [(1, .int l1_6), (0, .ref 50)], [], (0, 0), ks i6 a6 q6 r6) := by
    intro n
    induction n with
    | zero =>
      intro _ _ _ _ _ _ _ hm
      exact absurd hm (Nat.not_lt_zero _)
    | succ n ih6 =>
      intro i6 a6 q6 r6 l1_6 hL6 p6_0 hm6
      refine ko_steps mi_in32 2 _ (25, [(1, .int l1_6), (0, .ref 50)], [.int 8, .int l1_6], (0, 0), ks i6 a6 q6 r6) (by rfl) ?_
      refine ko_if mi_in32 (decide (8 ≤ l1_6)) 41 28 ([(1, .int l1_6), (0, .ref 50)], [], (0, 0), ks i6 a6 q6 r6) (by rfl) (fun c => ?_) (fun c => ?_)
      ·
        have c7 : (8 : Int32).toInt ≤ l1_6.toInt := kd_le c; clear c
        have hG8 := kG_call hJ5 hL6 (by decide +kernel)
        refine ko_steps mi_in32 4 _ (47, [(1, .int l1_6), (0, .ref 50)], [.int 3, .ref 63, .int 3, .ref 63], (0, 0), ks i6 a6 q6 r6) (by rfl) ?_
        refine ko_iald3 mi_in32 (n := 5) (c := 5) (ax := (0, 0, 0, 0, 0)) (by rfl) (by rfl) (ksG63 _ _ _ _) (hG8.I.2.1 63) rfl (oz260 kn3) (oz550 kn3) ?_
        have b9 : ((-2147483648 : Int) ≤ ((a6 63).getD (3 : Int32).toNatClampNeg 0).toInt) ∧ (((a6 63).getD (3 : Int32).toNatClampNeg 0).toInt ≤ 2147483647) := kd_bd ((a6 63).getD (3 : Int32).toNatClampNeg 0)
        refine ko_steps mi_in32 2 _ (50, [(1, .int l1_6), (0, .ref 50)], [.int (((a6 63).getD (3 : Int32).toNatClampNeg 0) + 1), .int 3, .ref 63], (0, 0), ks i6 a6 q6 r6) (by rfl) ?_
        refine ko_iast3 mi_in32 (n := 5) (c := 5) (ax := (0, 0, 0, 0, 0)) (by rfl) (by rfl) (ksG63 _ _ _ _) (ksA63 _ _ _ _) (hG8.I.2.1 63) rfl (oz260 kn3) (oz550 kn3) ?_
        intro a10 ea10 fa10
        have hJ10 := kG_a3 hG8 63 rfl ea10 fa10 (kd_bd _)
        exact ko_ret mi_in32 (by rfl) (hP  _ _ _ _ hJ10 trivial)
      ·
        have c11 : l1_6.toInt < (8 : Int32).toInt := kd_leF c; clear c
        refine ko_steps mi_in32 4 _ (34, [(1, .int l1_6), (0, .ref 50)], [.int 0, .int l1_6, .ref 55], (0, 0), ks i6 a6 q6 r6) (by rfl) ?_
        refine ko_iast3 mi_in32 (n := 8) (c := 8) (ax := (0, 0, 0, 0, 0)) (by rfl) (by rfl) (ksG55 _ _ _ _) (ksA55 _ _ _ _) (hL6.I.2.1 55) rfl (oz3 p6_0) (oz936 c11 kn8) ?_
        intro a12 ea12 fa12
        have hJ12 := kG_a3 hL6 55 rfl ea12 fa12 (kd_bd _)
        have s13 : (l1_6 + 1).toInt = l1_6.toInt + (1 : Int32).toInt := kd_add (oz12 p6_0 kn1) (oz474 c11 kn8 kn1)
        refine ko_steps mi_in32 2 _ (22, [(1, .int (l1_6 + 1)), (0, .ref 50)], [], (0, 0), ks i6 a12 q6 r6) (by rfl) ?_
        exact ih6 _ _ _ _ _ hJ12 (oz14 p6_0 s13 kn1) (kj_meas (oz475 s13 kn1) (oz476 c11 kn8) hm6)
  exact lp6 _ _ _ _ _ _ (kG_self _ hJ5.I hJ5.R) (oz46 kn0) (Nat.lt_succ_self _)
def w61_49_1 : kW := ([645, 3200, 3206, 3207, 3208, 3209, 3214, 3215, 3216, 3586, 3781, 6405], [13, 51, 52, 53, 54, 55, 57, 58, 62, 63, 65, 66, 67, 68, 69, 70, 71, 72, 73, 75, 76, 77, 103], [], [1])
def w61_49_1_L10 : kW := ([645, 3208, 3209, 3214, 3215, 3216, 3586, 3781, 6405], [13, 51, 55, 57, 58, 62, 63, 65, 66, 67, 68, 69, 70, 71, 72, 73, 75, 76, 77, 103], [], [])
set_option maxRecDepth 100000 in
theorem kc61_49_1 {i : Nat → Int32} {a : Nat → List Int32} {q : Nat → List Int64} {r : Nat → Nat} (hI : kI i a q) (hr : kr r) (x2 : Int32) (hp0 : x2.toInt ≤ 20) : km 11 61 [.ref 49, .ref 1, .int x2] (ks i a q r) (kVN w61_49_1 i a q r (fun i1 a1 q1 r1 => True)) := by
  have hG := kG_self w61_49_1 hI hr
  refine km_ofN (q := (mi_h61, mi_c61)) rfl (by decide) (Nat.le_of_ble_eq_true rfl) ?_
  intro P hP
  refine ko_steps mi_in61 3 _ (5, [(0, .ref 49), (1, .ref 1), (2, .int x2)], [.ref 1, .ref 50], (0, 0), ks i a q r) (by rfl) ?_
  refine ko_callN mi_in61 (pc := 5) (ls := [(0, .ref 49), (1, .ref 1), (2, .int x2)]) (st := [.ref 1, .ref 50]) (h := ks i a q r) (i := (.invokevirtual 56, 3, 34, 0, 9, 0, 212)) (by rfl) (by rfl) (cy := mi_c34) rfl rfl (kc34_50_1 hG.I hG.R ) (by decide) ?_
  intro ig1 ag1 qg1 rg1 kg1 hg1
  have hGg1 := kG_call hG kg1 (by decide +kernel)
  refine ko_steps mi_in61 2 _ (10, [(3, .int 0), (0, .ref 49), (1, .ref 1), (2, .int x2)], [], (0, 0), ks ig1 ag1 qg1 rg1) (by rfl) ?_
  have lp2 : ∀ (n : Nat) (i2 : Nat → Int32) (a2 : Nat → List Int32) (q2 : Nat → List Int64) (r2 : Nat → Nat) (l3_2 : Int32), kG w61_49_1_L10 ig1 ag1 qg1 rg1 i2 a2 q2 r2 → (0 : Int) ≤ l3_2.toInt → ((x2.toInt - l3_2.toInt)).toNat < n → ko 11 (mi_h61, mi_c61) P (10, [(3, .int l3_2), (0, .ref 49), (1, .ref 1), (2, .int x2)], [], (0, 0), ks i2 a2 q2 r2) := by
    intro n
    induction n with
    | zero =>
      intro _ _ _ _ _ _ _ hm
      exact absurd hm (Nat.not_lt_zero _)
    | succ n ih2 =>
      intro i2 a2 q2 r2 l3_2 hL2 p2_0 hm2
      refine ko_steps mi_in61 2 _ (12, [(3, .int l3_2), (0, .ref 49), (1, .ref 1), (2, .int x2)], [.int x2, .int l3_2], (0, 0), ks i2 a2 q2 r2) (by rfl) ?_
      refine ko_if mi_in61 (decide (x2 ≤ l3_2)) 36 15 ([(3, .int l3_2), (0, .ref 49), (1, .ref 1), (2, .int x2)], [], (0, 0), ks i2 a2 q2 r2) (by rfl) (fun c => ?_) (fun c => ?_)
      ·
        have c3 : x2.toInt ≤ l3_2.toInt := kd_le c; clear c
        have hG4 := kG_call hGg1 hL2 (by decide +kernel)
        exact ko_ret mi_in61 (by rfl) (hP  _ _ _ _ hG4 trivial)
      ·
        have c5 : l3_2.toInt < x2.toInt := kd_leF c; clear c
        refine ko_steps mi_in61 1 _ (16, [(3, .int l3_2), (0, .ref 49), (1, .ref 1), (2, .int x2)], [.int l3_2], (0, 0), ks i2 a2 q2 r2) (by rfl) ?_
        refine ko_if mi_in61 (decide (l3_2 ≤ 0)) 26 19 ([(3, .int l3_2), (0, .ref 49), (1, .ref 1), (2, .int x2)], [], (0, 0), ks i2 a2 q2 r2) (by rfl) (fun c => ?_) (fun c => ?_)
        ·
          have c6 : l3_2.toInt ≤ (0 : Int32).toInt := kd_le c; clear c
          refine ko_steps mi_in61 1 _ (27, [(3, .int l3_2), (0, .ref 49), (1, .ref 1), (2, .int x2)], [.ref 49], (0, 0), ks i2 a2 q2 r2) (by rfl) ?_
          refine ko_callN mi_in61 (pc := 27) (ls := [(3, .int l3_2), (0, .ref 49), (1, .ref 1), (2, .int x2)]) (st := [.ref 49]) (h := ks i2 a2 q2 r2) (i := (.invokevirtual 60, 3, 60, 0, 9, 0, 219)) (by rfl) (by rfl) (cy := mi_c60) rfl rfl (kc60_49 hL2.I hL2.R ) (by decide) ?_
          intro ig7 ag7 qg7 rg7 kg7 hg7
          have hGg7 := kG_call hL2 kg7 (by decide +kernel)
          have s8 : (l3_2 + 1).toInt = l3_2.toInt + (1 : Int32).toInt := kd_add (oz12 p2_0 kn1) (oz391 c6 kn0 kn1)
          refine ko_steps mi_in61 2 _ (10, [(3, .int (l3_2 + 1)), (0, .ref 49), (1, .ref 1), (2, .int x2)], [], (0, 0), ks ig7 ag7 qg7 rg7) (by rfl) ?_
          exact ih2 _ _ _ _ _ hGg7 (oz14 p2_0 s8 kn1) (kj_meas (oz44 s8 kn1) (oz45 c5) hm2)
        ·
          have c9 : (0 : Int32).toInt < l3_2.toInt := kd_leF c; clear c
          refine ko_steps mi_in61 2 _ (23, [(3, .int l3_2), (0, .ref 49), (1, .ref 1), (2, .int x2)], [.ref 50], (0, 0), ks i2 a2 q2 r2) (by rfl) ?_
          refine ko_callN mi_in61 (pc := 23) (ls := [(3, .int l3_2), (0, .ref 49), (1, .ref 1), (2, .int x2)]) (st := [.ref 50]) (h := ks i2 a2 q2 r2) (i := (.invokevirtual 72, 3, 32, 0, 9, 0, 232)) (by rfl) (by rfl) (cy := mi_c32) rfl rfl (kc32_50 hL2.I hL2.R ) (by decide) ?_
          intro ig10 ag10 qg10 rg10 kg10 hg10
          have hGg10 := kG_call hL2 kg10 (by decide +kernel)
          refine ko_steps mi_in61 1 _ (27, [(3, .int l3_2), (0, .ref 49), (1, .ref 1), (2, .int x2)], [.ref 49], (0, 0), ks ig10 ag10 qg10 rg10) (by rfl) ?_
          refine ko_callN mi_in61 (pc := 27) (ls := [(3, .int l3_2), (0, .ref 49), (1, .ref 1), (2, .int x2)]) (st := [.ref 49]) (h := ks ig10 ag10 qg10 rg10) (i := (.invokevirtual 60, 3, 60, 0, 9, 0, 219)) (by rfl) (by rfl) (cy := mi_c60) rfl rfl (kc60_49 hGg10.I hGg10.R ) (by decide) ?_
          intro ig11 ag11 qg11 rg11 kg11 hg11
          have hGg11 := kG_call hGg10 kg11 (by decide +kernel)
          have s12 : (l3_2 + 1).toInt = l3_2.toInt + (1 : Int32).toInt := kd_add (oz402 c9 kn0 kn1) (oz1057 c5 hp0 kn1)
          refine ko_steps mi_in61 2 _ (10, [(3, .int (l3_2 + 1)), (0, .ref 49), (1, .ref 1), (2, .int x2)], [], (0, 0), ks ig11 ag11 qg11 rg11) (by rfl) ?_
          exact ih2 _ _ _ _ _ hGg11 (oz404 c9 s12 kn0 kn1) (kj_meas (oz44 s12 kn1) (oz45 c5) hm2)
  exact lp2 _ _ _ _ _ _ (kG_self _ hGg1.I hGg1.R) (oz46 kn0) (Nat.lt_succ_self _)
set_option maxRecDepth 100000 in
theorem kc62_49 {i : Nat → Int32} {a : Nat → List Int32} {q : Nat → List Int64} {r : Nat → Nat} (hI : kI i a q) (hr : kr r) (x1 : Int32) : km 3 62 [.ref 49, .int x1] (ks i a q r) (kPI (ks i a q r) (fun v => True)) := by
  have hG := kG_self kW0 hI hr
  refine km_ofPI (q := (mi_h62, mi_c62)) rfl (by decide) (Nat.le_of_ble_eq_true rfl) ?_
  intro P hP
  refine ko_steps mi_in62 3 _ (5, [(0, .ref 49), (1, .int x1)], [.int x1, .ref 50], (0, 0), ks i a q r) (by rfl) ?_
  refine ko_callPI mi_in62 (pc := 5) (ls := [(0, .ref 49), (1, .int x1)]) (st := [.int x1, .ref 50]) (h := ks i a q r) (i := (.invokevirtual 75, 3, 24, 0, 9, 0, 234)) (by rfl) (by rfl) (cy := mi_c24) rfl rfl (kc24_50 hG.I hG.R x1) (by decide) ?_
  intro vg1 hg1
  rcases hg1 with ⟨eg1, hg1⟩ | ⟨eg1, hg1⟩
  ·
    subst eg1
    have fi_3200 : ((0 : Int) ≤ (i 3200).toInt) ∧ ((i 3200).toInt ≤ 8) := hG.I.1 3200
    have z2 : ((0 : Int) ≤ x1.toInt) ∧ (x1.toInt < (i 3200).toInt) := hg1
    refine ko_steps mi_in62 5 _ (19, [(0, .ref 49), (1, .int x1)], [.int x1, .ref 51], (0, 0), ks i a q r) (by rfl) ?_
    refine ko_iald3 mi_in62 (n := 8) (c := 8) (ax := (0, 0, 0, 0, 0)) (by rfl) (by rfl) (ksG51 _ _ _ _) (hG.I.2.1 51) rfl (oz3 z2.1) (oz974 fi_3200.2 z2.2) ?_
    refine ko_steps mi_in62 1 _ (32, [(0, .ref 49), (1, .int x1)], [.int ((a 51).getD x1.toNatClampNeg 0)], (0, 0), ks i a q r) (by rfl) ?_
    exact ko_ret mi_in62 (by rfl) (hP ((a 51).getD x1.toNatClampNeg 0) trivial)
  ·
    subst eg1
    have fi_3200 : ((0 : Int) ≤ (i 3200).toInt) ∧ ((i 3200).toInt ≤ 8) := hG.I.1 3200
    have z3 : ¬ (((0 : Int) ≤ x1.toInt) ∧ (x1.toInt < (i 3200).toInt)) := hg1
    refine ko_steps mi_in62 5 _ (31, [(0, .ref 49), (1, .int x1)], [.int 2, .ref 63], (0, 0), ks i a q r) (by rfl) ?_
    refine ko_iald3 mi_in62 (n := 5) (c := 5) (ax := (0, 0, 0, 0, 0)) (by rfl) (by rfl) (ksG63 _ _ _ _) (hG.I.2.1 63) rfl (oz256 kn2) (oz549 kn2) ?_
    exact ko_ret mi_in62 (by rfl) (hP ((a 63).getD (2 : Int32).toNatClampNeg 0) trivial)
def w90_0 : kW := ([645, 3138, 3200, 3206, 3207, 3208, 3209, 3214, 3215, 3216, 3586, 3781, 6405], [13, 51, 52, 53, 54, 55, 57, 58, 62, 63, 65, 66, 67, 68, 69, 70, 71, 72, 73, 74, 75, 76, 77, 103], [], [1])
set_option maxRecDepth 100000 in
theorem kc90_0 {i : Nat → Int32} {a : Nat → List Int32} {q : Nat → List Int64} {r : Nat → Nat} (hI : kI i a q) (hr : kr r) (x1 : Int32) (x2 : Int32) (x3 : Int32) : km 13 90 [.ref 0, .int x1, .int x2, .int x3] (ks i a q r) (kVI w90_0 i a q r (fun v i1 a1 q1 r1 => True)) := by
  have hG := kG_self w90_0 hI hr
  refine km_ofI (q := (mi_h90, mi_c90)) rfl (by decide) (Nat.le_of_ble_eq_true rfl) ?_
  intro P hP
  refine ko_steps mi_in90 3 _ (4, [(0, .ref 0), (1, .int x1), (2, .int x2), (3, .int x3)], [.int 20, .int 0, .int x2], (0, 0), ks i a q r) (by rfl) ?_
  refine ko_callPI mi_in90 (pc := 4) (ls := [(0, .ref 0), (1, .int x1), (2, .int x2), (3, .int x3)]) (st := [.int 20, .int 0, .int x2]) (h := ks i a q r) (i := (.invokestatic 74, 3, 120, 0, 9, 0, 152)) (by rfl) (by rfl) (cy := mi_c120) rfl rfl (kc120 hG.I hG.R x2 0 20) (by decide) ?_
  intro vg1 hg1
  rcases hg1 with ⟨eg1, hg1⟩ | ⟨eg1, hg1⟩
  ·
    subst eg1
    have z2 : ((0 : Int32).toInt ≤ x2.toInt) ∧ (x2.toInt ≤ (20 : Int32).toInt) := hg1
    refine ko_steps mi_in90 3 _ (12, [(0, .ref 0), (1, .int x1), (2, .int x2), (3, .int x3)], [.int (-1), .int x3], (0, 0), ks i a q r) (by rfl) ?_
    refine ko_if mi_in90 (x3 == (-1)) 25 15 ([(0, .ref 0), (1, .int x1), (2, .int x2), (3, .int x3)], [], (0, 0), ks i a q r) (by rfl) (fun c => ?_) (fun c => ?_)
    ·
      have c3 : x3.toInt = ((-1) : Int32).toInt := kd_eq c; clear c
      refine ko_steps mi_in90 2 _ (27, [(0, .ref 0), (1, .int x1), (2, .int x2), (3, .int x3)], [.int x1, .ref 0], (0, 0), ks i a q r) (by rfl) ?_
      refine ko_callI mi_in90 (pc := 27) (ls := [(0, .ref 0), (1, .int x1), (2, .int x2), (3, .int x3)]) (st := [.int x1, .ref 0]) (h := ks i a q r) (i := (.invokevirtual 144, 3, 129, 0, 9, 0, 208)) (by rfl) (by rfl) (cy := mi_c129) rfl rfl (kc129_0 hG.I hG.R x1) (by decide) ?_
      intro vg4 ig4 ag4 qg4 rg4 kg4 hg4
      have hGg4 := kG_call hG kg4 (by decide +kernel)
      have z5 : (vg4.toInt < 0) ∨ (vg4.toInt = 0) := hg4
      refine ko_steps mi_in90 2 _ (34, [(4, .int vg4), (0, .ref 0), (1, .int x1), (2, .int x2), (3, .int x3)], [.int vg4], (0, 0), ks ig4 ag4 qg4 rg4) (by rfl) ?_
      refine ko_if mi_in90 (decide (0 ≤ vg4)) 40 37 ([(4, .int vg4), (0, .ref 0), (1, .int x1), (2, .int x2), (3, .int x3)], [], (0, 0), ks ig4 ag4 qg4 rg4) (by rfl) (fun c => ?_) (fun c => ?_)
      ·
        have c6 : (0 : Int32).toInt ≤ vg4.toInt := kd_le c; clear c
        refine ko_steps mi_in90 5 _ (49, [(4, .int vg4), (0, .ref 0), (1, .int x1), (2, .int x2), (3, .int x3)], [.int x2, .ref 1, .ref 49], (0, 0), ks ig4 ag4 qg4 rg4) (by rfl) ?_
        refine ko_callN mi_in90 (pc := 49) (ls := [(4, .int vg4), (0, .ref 0), (1, .int x1), (2, .int x2), (3, .int x3)]) (st := [.int x2, .ref 1, .ref 49]) (h := ks ig4 ag4 qg4 rg4) (i := (.invokevirtual 167, 3, 61, 0, 9, 0, 231)) (by rfl) (by rfl) (cy := mi_c61) rfl rfl (kc61_49_1 hGg4.I hGg4.R x2 (oz1058 z2.2 kn20)) (by decide) ?_
        intro ig7 ag7 qg7 rg7 kg7 hg7
        have hGg7 := kG_call hGg4 kg7 (by decide +kernel)
        refine ko_steps mi_in90 3 _ (57, [(4, .int vg4), (0, .ref 0), (1, .int x1), (2, .int x2), (3, .int x3)], [.int x3, .ref 49], (0, 0), ks ig7 ag7 qg7 rg7) (by rfl) ?_
        refine ko_callPI mi_in90 (pc := 57) (ls := [(4, .int vg4), (0, .ref 0), (1, .int x1), (2, .int x2), (3, .int x3)]) (st := [.int x3, .ref 49]) (h := ks ig7 ag7 qg7 rg7) (i := (.invokevirtual 171, 3, 62, 0, 9, 0, 233)) (by rfl) (by rfl) (cy := mi_c62) rfl rfl (kc62_49 hGg7.I hGg7.R x3) (by decide) ?_
        intro vg8 hg8
        exact ko_ret mi_in90 (by rfl) (hP vg8 _ _ _ _ hGg7 trivial)
      ·
        have c9 : vg4.toInt < (0 : Int32).toInt := kd_leF c; clear c
        refine ko_steps mi_in90 1 _ (39, [(4, .int vg4), (0, .ref 0), (1, .int x1), (2, .int x2), (3, .int x3)], [.int vg4], (0, 0), ks ig4 ag4 qg4 rg4) (by rfl) ?_
        exact ko_ret mi_in90 (by rfl) (hP vg4 _ _ _ _ hGg4 trivial)
    ·
      have c10 : x3.toInt ≠ ((-1) : Int32).toInt := kd_eqF c; clear c
      refine ko_steps mi_in90 2 _ (17, [(0, .ref 0), (1, .int x1), (2, .int x2), (3, .int x3)], [.int x3, .ref 0], (0, 0), ks i a q r) (by rfl) ?_
      refine ko_callPI mi_in90 (pc := 17) (ls := [(0, .ref 0), (1, .int x1), (2, .int x2), (3, .int x3)]) (st := [.int x3, .ref 0]) (h := ks i a q r) (i := (.invokevirtual 141, 3, 123, 0, 9, 0, 162)) (by rfl) (by rfl) (cy := mi_c123) rfl rfl (kc123_0 hG.I hG.R x3) (by decide) ?_
      intro vg11 hg11
      rcases hg11 with ⟨eg11, hg11⟩ | ⟨eg11, hg11⟩
      ·
        subst eg11
        have fi_64 : ((0 : Int) ≤ (i 64).toInt) ∧ ((i 64).toInt ≤ 8) := hG.I.1 64
        have z12 : ((0 : Int) ≤ x3.toInt) ∧ (x3.toInt < (i 64).toInt) := hg11
        refine ko_steps mi_in90 3 _ (27, [(0, .ref 0), (1, .int x1), (2, .int x2), (3, .int x3)], [.int x1, .ref 0], (0, 0), ks i a q r) (by rfl) ?_
        refine ko_callI mi_in90 (pc := 27) (ls := [(0, .ref 0), (1, .int x1), (2, .int x2), (3, .int x3)]) (st := [.int x1, .ref 0]) (h := ks i a q r) (i := (.invokevirtual 144, 3, 129, 0, 9, 0, 208)) (by rfl) (by rfl) (cy := mi_c129) rfl rfl (kc129_0 hG.I hG.R x1) (by decide) ?_
        intro vg13 ig13 ag13 qg13 rg13 kg13 hg13
        have hGg13 := kG_call hG kg13 (by decide +kernel)
        have z14 : (vg13.toInt < 0) ∨ (vg13.toInt = 0) := hg13
        refine ko_steps mi_in90 2 _ (34, [(4, .int vg13), (0, .ref 0), (1, .int x1), (2, .int x2), (3, .int x3)], [.int vg13], (0, 0), ks ig13 ag13 qg13 rg13) (by rfl) ?_
        refine ko_if mi_in90 (decide (0 ≤ vg13)) 40 37 ([(4, .int vg13), (0, .ref 0), (1, .int x1), (2, .int x2), (3, .int x3)], [], (0, 0), ks ig13 ag13 qg13 rg13) (by rfl) (fun c => ?_) (fun c => ?_)
        ·
          have c15 : (0 : Int32).toInt ≤ vg13.toInt := kd_le c; clear c
          refine ko_steps mi_in90 5 _ (49, [(4, .int vg13), (0, .ref 0), (1, .int x1), (2, .int x2), (3, .int x3)], [.int x2, .ref 1, .ref 49], (0, 0), ks ig13 ag13 qg13 rg13) (by rfl) ?_
          refine ko_callN mi_in90 (pc := 49) (ls := [(4, .int vg13), (0, .ref 0), (1, .int x1), (2, .int x2), (3, .int x3)]) (st := [.int x2, .ref 1, .ref 49]) (h := ks ig13 ag13 qg13 rg13) (i := (.invokevirtual 167, 3, 61, 0, 9, 0, 231)) (by rfl) (by rfl) (cy := mi_c61) rfl rfl (kc61_49_1 hGg13.I hGg13.R x2 (oz1058 z2.2 kn20)) (by decide) ?_
          intro ig16 ag16 qg16 rg16 kg16 hg16
          have hGg16 := kG_call hGg13 kg16 (by decide +kernel)
          refine ko_steps mi_in90 3 _ (57, [(4, .int vg13), (0, .ref 0), (1, .int x1), (2, .int x2), (3, .int x3)], [.int x3, .ref 49], (0, 0), ks ig16 ag16 qg16 rg16) (by rfl) ?_
          refine ko_callPI mi_in90 (pc := 57) (ls := [(4, .int vg13), (0, .ref 0), (1, .int x1), (2, .int x2), (3, .int x3)]) (st := [.int x3, .ref 49]) (h := ks ig16 ag16 qg16 rg16) (i := (.invokevirtual 171, 3, 62, 0, 9, 0, 233)) (by rfl) (by rfl) (cy := mi_c62) rfl rfl (kc62_49 hGg16.I hGg16.R x3) (by decide) ?_
          intro vg17 hg17
          exact ko_ret mi_in90 (by rfl) (hP vg17 _ _ _ _ hGg16 trivial)
        ·
          have c18 : vg13.toInt < (0 : Int32).toInt := kd_leF c; clear c
          refine ko_steps mi_in90 1 _ (39, [(4, .int vg13), (0, .ref 0), (1, .int x1), (2, .int x2), (3, .int x3)], [.int vg13], (0, 0), ks ig13 ag13 qg13 rg13) (by rfl) ?_
          exact ko_ret mi_in90 (by rfl) (hP vg13 _ _ _ _ hGg13 trivial)
      ·
        subst eg11
        have fi_64 : ((0 : Int) ≤ (i 64).toInt) ∧ ((i 64).toInt ≤ 8) := hG.I.1 64
        have z19 : ¬ (((0 : Int) ≤ x3.toInt) ∧ (x3.toInt < (i 64).toInt)) := hg11
        refine ko_steps mi_in90 2 _ (24, [(0, .ref 0), (1, .int x1), (2, .int x2), (3, .int x3)], [.int (-1)], (0, 0), ks i a q r) (by rfl) ?_
        exact ko_ret mi_in90 (by rfl) (hP (-1) _ _ _ _ hG trivial)
  ·
    subst eg1
    have z20 : ¬ (((0 : Int32).toInt ≤ x2.toInt) ∧ (x2.toInt ≤ (20 : Int32).toInt)) := hg1
    refine ko_steps mi_in90 2 _ (24, [(0, .ref 0), (1, .int x1), (2, .int x2), (3, .int x3)], [.int (-1)], (0, 0), ks i a q r) (by rfl) ?_
    exact ko_ret mi_in90 (by rfl) (hP (-1) _ _ _ _ hG trivial)
def w65_49 : kW := ([3138], [74], [], [])
set_option maxRecDepth 100000 in
theorem kc65_49 {i : Nat → Int32} {a : Nat → List Int32} {q : Nat → List Int64} {r : Nat → Nat} (hI : kI i a q) (hr : kr r) (x1 : Int32) (x2 : Int32) : km 1 65 [.ref 49, .int x1, .int x2] (ks i a q r) (kVN w65_49 i a q r (fun i1 a1 q1 r1 => True)) := by
  have hG := kG_self w65_49 hI hr
  refine km_ofN (q := (mi_h65, mi_c65)) rfl (by decide) (Nat.le_of_ble_eq_true rfl) ?_
  intro P hP
  have fi_3138 : ((0 : Int) ≤ (i 3138).toInt) ∧ ((i 3138).toInt ≤ 20) := hG.I.1 3138
  refine ko_steps mi_in65 3 _ (6, [(0, .ref 49), (1, .int x1), (2, .int x2)], [.int 20, .int (i 3138)], (0, 0), ks i a q r) (by rfl) ?_
  refine ko_if mi_in65 (decide (20 ≤ (i 3138))) 59 9 ([(0, .ref 49), (1, .int x1), (2, .int x2)], [], (0, 0), ks i a q r) (by rfl) (fun c => ?_) (fun c => ?_)
  ·
    have c1 : (20 : Int32).toInt ≤ (i 3138).toInt := kd_le c; clear c
    exact ko_ret mi_in65 (by rfl) (hP  _ _ _ _ hG trivial)
  ·
    have c2 : (i 3138).toInt < (20 : Int32).toInt := kd_leF c; clear c
    refine ko_steps mi_in65 1 _ (10, [(0, .ref 49), (1, .int x1), (2, .int x2)], [.int x1], (0, 0), ks i a q r) (by rfl) ?_
    refine ko_if mi_in65 (decide (x1 < 0)) 59 13 ([(0, .ref 49), (1, .int x1), (2, .int x2)], [], (0, 0), ks i a q r) (by rfl) (fun c => ?_) (fun c => ?_)
    ·
      have c3 : x1.toInt < (0 : Int32).toInt := kd_lt c; clear c
      exact ko_ret mi_in65 (by rfl) (hP  _ _ _ _ hG trivial)
    ·
      have c4 : (0 : Int32).toInt ≤ x1.toInt := kd_ltF c; clear c
      refine ko_steps mi_in65 3 _ (18, [(0, .ref 49), (1, .int x1), (2, .int x2)], [.int (i 3138), .int x1], (0, 0), ks i a q r) (by rfl) ?_
      refine ko_if mi_in65 (decide ((i 3138) < x1)) 59 21 ([(0, .ref 49), (1, .int x1), (2, .int x2)], [], (0, 0), ks i a q r) (by rfl) (fun c => ?_) (fun c => ?_)
      ·
        have c5 : (i 3138).toInt < x1.toInt := kd_lt c; clear c
        exact ko_ret mi_in65 (by rfl) (hP  _ _ _ _ hG trivial)
      ·
        have c6 : x1.toInt ≤ (i 3138).toInt := kd_ltF c; clear c
        have s7 : (x1 + 1).toInt = x1.toInt + (1 : Int32).toInt := kd_add (oz950 c4 kn0 kn1) (oz1059 c6 fi_3138.2 kn1)
        have s8 : ((i 3138) - x1).toInt = (i 3138).toInt - x1.toInt := kd_sub (oz551 c6) (oz1060 c2 c4 kn20 kn0)
        refine ko_steps mi_in65 12 _ (39, [(0, .ref 49), (1, .int x1), (2, .int x2)], [.int ((i 3138) - x1), .int (x1 + 1), .ref 74, .int x1, .ref 74], (0, 0), ks i a q r) (by rfl) ?_
        refine ko_copyI3 mi_in65 (n := 20) (c := 20) (m := 20) (b := 20) (by rfl) (by rfl) (by rfl) (by rfl) (ksG74 _ _ _ _) (ksG74 _ _ _ _) (ksA74 _ _ _ _) (hG.I.2.1 74) rfl (hG.I.2.1 74) rfl (oz1061 c6 s8) (oz389 c4 kn0) (oz952 c4 s7 kn0 kn1) (oz1062 fi_3138.2 s8) (oz1063 c2 s7 s8 kn20 kn1) ?_
        intro a10 ea10 fa10
        have hJ10 := kG_al3 hG 74 rfl ea10 fa10 (kcpy_len2 (n := 20) (c := 20) (m := 20) (b := 20) (sp := x1) (dp := (x1 + 1)) (n1 := ((i 3138) - x1)) (hG.I.2.1 74) rfl (hG.I.2.1 74) rfl (oz1061 c6 s8) (oz389 c4 kn0) (oz952 c4 s7 kn0 kn1) (oz1062 fi_3138.2 s8) (oz1063 c2 s7 s8 kn20 kn1)) (fun _ => kd_bd _)
        refine ko_steps mi_in65 4 _ (48, [(0, .ref 49), (1, .int x1), (2, .int x2)], [.int x2, .int x1, .ref 74], (0, 0), ks i a10 q r) (by rfl) ?_
        refine ko_iast3 mi_in65 (n := 20) (c := 20) (ax := (0, 0, 0, 0, 0)) (by rfl) (by rfl) (ksG74 _ _ _ _) (ksA74 _ _ _ _) (hJ10.I.2.1 74) rfl (oz389 c4 kn0) (oz1064 c2 c6 kn20) ?_
        intro a11 ea11 fa11
        have hJ11 := kG_a3 hJ10 74 rfl ea11 fa11 (kd_bd _)
        have s12 : ((i 3138) + 1).toInt = (i 3138).toInt + (1 : Int32).toInt := kd_add (oz12 fi_3138.1 kn1) (oz448 fi_3138.2 kn1)
        have hJ13 := kG_i hJ11 3138 rfl (v := ((i 3138) + 1)) ⟨(oz14 fi_3138.1 s12 kn1), (oz224 c2 s12 kn20 kn1)⟩
        refine ko_steps mi_in65 6 _ (59, [(0, .ref 49), (1, .int x1), (2, .int x2)], [], (0, 0), ks (ku i 3138 ((i 3138) + 1)) a11 q r) (by rfl) ?_
        exact ko_ret mi_in65 (by rfl) (hP  _ _ _ _ hJ13 trivial)
def w63_49_1 : kW := ([645, 3200, 3206, 3207, 3208, 3209, 3214, 3215, 3216, 3586, 3781, 6405], [13, 51, 52, 53, 54, 55, 57, 58, 62, 63, 65, 66, 67, 68, 69, 70, 71, 72, 73, 103], [], [1])
def w63_49_1_L10 : kW := ([645, 3209, 3214, 3215, 3216, 3586, 3781, 6405], [13, 51, 55, 57, 58, 62, 63, 65, 66, 67, 68, 69, 70, 71, 72, 73, 103], [], [])
set_option maxRecDepth 100000 in
theorem kc63_49_1 {i : Nat → Int32} {a : Nat → List Int32} {q : Nat → List Int64} {r : Nat → Nat} (hI : kI i a q) (hr : kr r) (x2 : Int32) : km 9 63 [.ref 49, .ref 1, .int x2] (ks i a q r) (kVI w63_49_1 i a q r (fun v i1 a1 q1 r1 => True)) := by
  have hG := kG_self w63_49_1 hI hr
  refine km_ofI (q := (mi_h63, mi_c63)) rfl (by decide) (Nat.le_of_ble_eq_true rfl) ?_
  intro P hP
  refine ko_steps mi_in63 3 _ (5, [(0, .ref 49), (1, .ref 1), (2, .int x2)], [.ref 1, .ref 50], (0, 0), ks i a q r) (by rfl) ?_
  refine ko_callN mi_in63 (pc := 5) (ls := [(0, .ref 49), (1, .ref 1), (2, .int x2)]) (st := [.ref 1, .ref 50]) (h := ks i a q r) (i := (.invokevirtual 56, 3, 34, 0, 9, 0, 212)) (by rfl) (by rfl) (cy := mi_c34) rfl rfl (kc34_50_1 hG.I hG.R ) (by decide) ?_
  intro ig1 ag1 qg1 rg1 kg1 hg1
  have hGg1 := kG_call hG kg1 (by decide +kernel)
  refine ko_steps mi_in63 2 _ (10, [(3, .int 0), (0, .ref 49), (1, .ref 1), (2, .int x2)], [], (0, 0), ks ig1 ag1 qg1 rg1) (by rfl) ?_
  have lp2 : ∀ (n : Nat) (i2 : Nat → Int32) (a2 : Nat → List Int32) (q2 : Nat → List Int64) (r2 : Nat → Nat) (l3_2 : Int32), kG w63_49_1_L10 ig1 ag1 qg1 rg1 i2 a2 q2 r2 → (0 : Int) ≤ l3_2.toInt → ((20 - l3_2.toInt)).toNat < n → ko 9 (mi_h63, mi_c63) P (10, [(3, .int l3_2), (0, .ref 49), (1, .ref 1), (2, .int x2)], [], (0, 0), ks i2 a2 q2 r2) := by
    intro n
    induction n with
    | zero =>
      intro _ _ _ _ _ _ _ hm
      exact absurd hm (Nat.not_lt_zero _)
    | succ n ih2 =>
      intro i2 a2 q2 r2 l3_2 hL2 p2_0 hm2
      have fi2_3138 : ((0 : Int) ≤ (i2 3138).toInt) ∧ ((i2 3138).toInt ≤ 20) := hL2.I.1 3138
      have fig1_3138 : ((0 : Int) ≤ (ig1 3138).toInt) ∧ ((ig1 3138).toInt ≤ 20) := hGg1.I.1 3138
      have fi_3138 : ((0 : Int) ≤ (i 3138).toInt) ∧ ((i 3138).toInt ≤ 20) := hG.I.1 3138
      have efig1_3138 : (ig1 3138).toInt = (i 3138).toInt := kg1.ti 3138 rfl
      have efi2_3138 : (i2 3138).toInt = (ig1 3138).toInt := hL2.ti 3138 rfl
      refine ko_steps mi_in63 3 _ (15, [(3, .int l3_2), (0, .ref 49), (1, .ref 1), (2, .int x2)], [.int (i2 3138), .int l3_2], (0, 0), ks i2 a2 q2 r2) (by rfl) ?_
      refine ko_if mi_in63 (decide ((i2 3138) ≤ l3_2)) 44 18 ([(3, .int l3_2), (0, .ref 49), (1, .ref 1), (2, .int x2)], [], (0, 0), ks i2 a2 q2 r2) (by rfl) (fun c => ?_) (fun c => ?_)
      ·
        have c3 : (i2 3138).toInt ≤ l3_2.toInt := kd_le c; clear c
        have hG4 := kG_call hGg1 hL2 (by decide +kernel)
        refine ko_steps mi_in63 4 _ (50, [(3, .int l3_2), (0, .ref 49), (1, .ref 1), (2, .int x2)], [.int 0, .int x2, .ref 50], (0, 0), ks i2 a2 q2 r2) (by rfl) ?_
        refine ko_callPI mi_in63 (pc := 50) (ls := [(3, .int l3_2), (0, .ref 49), (1, .ref 1), (2, .int x2)]) (st := [.int 0, .int x2, .ref 50]) (h := ks i2 a2 q2 r2) (i := (.invokevirtual 85, 3, 27, 0, 9, 0, 240)) (by rfl) (by rfl) (cy := mi_c27) rfl rfl (kc27_50 hG4.I hG4.R x2 0) (by decide) ?_
        intro vg5 hg5
        exact ko_ret mi_in63 (by rfl) (hP vg5 _ _ _ _ hG4 trivial)
      ·
        have c6 : l3_2.toInt < (i2 3138).toInt := kd_leF c; clear c
        refine ko_steps mi_in63 2 _ (21, [(3, .int l3_2), (0, .ref 49), (1, .ref 1), (2, .int x2)], [.int 20, .int l3_2], (0, 0), ks i2 a2 q2 r2) (by rfl) ?_
        refine ko_if mi_in63 (decide (20 ≤ l3_2)) 44 24 ([(3, .int l3_2), (0, .ref 49), (1, .ref 1), (2, .int x2)], [], (0, 0), ks i2 a2 q2 r2) (by rfl) (fun c => ?_) (fun c => ?_)
        ·
          have c7 : (20 : Int32).toInt ≤ l3_2.toInt := kd_le c; clear c
          exact (oz1031 c6 c7 fi2_3138.2 kn20).elim
        ·
          have c8 : l3_2.toInt < (20 : Int32).toInt := kd_leF c; clear c
          refine ko_steps mi_in63 5 _ (33, [(3, .int l3_2), (0, .ref 49), (1, .ref 1), (2, .int x2)], [.int l3_2, .ref 74, .ref 50], (0, 0), ks i2 a2 q2 r2) (by rfl) ?_
          refine ko_iald3 mi_in63 (n := 20) (c := 20) (ax := (0, 0, 0, 0, 0)) (by rfl) (by rfl) (ksG74 _ _ _ _) (hL2.I.2.1 74) rfl (oz3 p2_0) (oz1013 c8 kn20) ?_
          refine ko_callI mi_in63 (pc := 34) (ls := [(3, .int l3_2), (0, .ref 49), (1, .ref 1), (2, .int x2)]) (st := [.int ((a2 74).getD l3_2.toNatClampNeg 0), .ref 50]) (h := ks i2 a2 q2 r2) (i := (.invokevirtual 63, 3, 29, 0, 9, 0, 220)) (by rfl) (by rfl) (cy := mi_c29) rfl rfl (kc29_50 hL2.I hL2.R ((a2 74).getD l3_2.toNatClampNeg 0)) (by decide) ?_
          intro vg9 ig9 ag9 qg9 rg9 kg9 hg9
          have hGg9 := kG_call hL2 kg9 (by decide +kernel)
          have s10 : (l3_2 + 1).toInt = l3_2.toInt + (1 : Int32).toInt := kd_add (oz12 p2_0 kn1) (oz1014 c8 kn20 kn1)
          refine ko_steps mi_in63 3 _ (10, [(3, .int (l3_2 + 1)), (0, .ref 49), (1, .ref 1), (2, .int x2)], [], (0, 0), ks ig9 ag9 qg9 rg9) (by rfl) ?_
          exact ih2 _ _ _ _ _ hGg9 (oz14 p2_0 s10 kn1) (kj_meas (oz218 s10 kn1) (oz225 c8 kn20) hm2)
  exact lp2 _ _ _ _ _ _ (kG_self _ hGg1.I hGg1.R) (oz46 kn0) (Nat.lt_succ_self _)
def w64_49 : kW := ([], [74], [], [])
set_option maxRecDepth 100000 in
theorem kc64_49 {i : Nat → Int32} {a : Nat → List Int32} {q : Nat → List Int64} {r : Nat → Nat} (hI : kI i a q) (hr : kr r) (x1 : Int32) (x2 : Int32) (hp0 : ((0 : Int) ≤ x1.toInt) ∧ (x1.toInt ≤ 19)) (hp1 : ((0 : Int) ≤ x2.toInt) ∧ (x2.toInt ≤ 19)) : km 1 64 [.ref 49, .int x1, .int x2] (ks i a q r) (kVN w64_49 i a q r (fun i1 a1 q1 r1 => True)) := by
  have hG := kG_self w64_49 hI hr
  refine km_ofN (q := (mi_h64, mi_c64)) rfl (by decide) (Nat.le_of_ble_eq_true rfl) ?_
  intro P hP
  refine ko_steps mi_in64 3 _ (5, [(0, .ref 49), (1, .int x1), (2, .int x2)], [.int x1, .ref 74], (0, 0), ks i a q r) (by rfl) ?_
  refine ko_iald3 mi_in64 (n := 20) (c := 20) (ax := (0, 0, 0, 0, 0)) (by rfl) (by rfl) (ksG74 _ _ _ _) (hG.I.2.1 74) rfl (oz3 hp0.1) (oz1065 hp0.2) ?_
  refine ko_steps mi_in64 7 _ (17, [(3, .int ((a 74).getD x1.toNatClampNeg 0)), (0, .ref 49), (1, .int x1), (2, .int x2)], [.int x2, .ref 74, .int x1, .ref 74], (0, 0), ks i a q r) (by rfl) ?_
  refine ko_iald3 mi_in64 (n := 20) (c := 20) (ax := (0, 0, 0, 0, 0)) (by rfl) (by rfl) (ksG74 _ _ _ _) (hG.I.2.1 74) rfl (oz3 hp1.1) (oz1065 hp1.2) ?_
  refine ko_iast3 mi_in64 (n := 20) (c := 20) (ax := (0, 0, 0, 0, 0)) (by rfl) (by rfl) (ksG74 _ _ _ _) (ksA74 _ _ _ _) (hG.I.2.1 74) rfl (oz3 hp0.1) (oz1065 hp0.2) ?_
  intro a1 ea1 fa1
  have hJ1 := kG_a3 hG 74 rfl ea1 fa1 (kd_bd _)
  refine ko_steps mi_in64 4 _ (25, [(3, .int ((a 74).getD x1.toNatClampNeg 0)), (0, .ref 49), (1, .int x1), (2, .int x2)], [.int ((a 74).getD x1.toNatClampNeg 0), .int x2, .ref 74], (0, 0), ks i a1 q r) (by rfl) ?_
  refine ko_iast3 mi_in64 (n := 20) (c := 20) (ax := (0, 0, 0, 0, 0)) (by rfl) (by rfl) (ksG74 _ _ _ _) (ksA74 _ _ _ _) (hJ1.I.2.1 74) rfl (oz3 hp1.1) (oz1065 hp1.2) ?_
  intro a2 ea2 fa2
  have hJ2 := kG_a3 hJ1 74 rfl ea2 fa2 (kd_bd _)
  exact ko_ret mi_in64 (by rfl) (hP  _ _ _ _ hJ2 trivial)
def w66_49_1 : kW := ([645, 3138, 3142, 3200, 3206, 3207, 3208, 3209, 3214, 3215, 3216, 3586, 3781, 6405], [13, 51, 52, 53, 54, 55, 57, 58, 62, 63, 65, 66, 67, 68, 69, 70, 71, 72, 73, 74, 103], [], [1])
def w66_49_1_L16 : kW := ([645, 3142, 3200, 3206, 3207, 3208, 3209, 3214, 3215, 3216, 3586, 3781, 6405], [13, 51, 52, 53, 54, 55, 57, 58, 62, 63, 65, 66, 67, 68, 69, 70, 71, 72, 73, 74, 103], [], [1])
set_option maxRecDepth 100000 in
theorem kc66_49_1 {i : Nat → Int32} {a : Nat → List Int32} {q : Nat → List Int64} {r : Nat → Nat} (hI : kI i a q) (hr : kr r) (x2 : Int32) : km 11 66 [.ref 49, .ref 1, .int x2] (ks i a q r) (kVI w66_49_1 i a q r (fun v i1 a1 q1 r1 => True)) := by
  have hG := kG_self w66_49_1 hI hr
  refine km_ofI (q := (mi_h66, mi_c66)) rfl (by decide) (Nat.le_of_ble_eq_true rfl) ?_
  intro P hP
  have hJ1 := kG_i hG 3142 rfl (v := (-1)) (kd_bd _)
  refine ko_steps mi_in66 8 _ (10, [(3, .int 0), (0, .ref 49), (1, .ref 1), (2, .int x2)], [.int x2, .int 0, .ref 49], (0, 0), ks (ku i 3142 (-1)) a q r) (by rfl) ?_
  refine ko_callN mi_in66 (pc := 10) (ls := [(3, .int 0), (0, .ref 49), (1, .ref 1), (2, .int x2)]) (st := [.int x2, .int 0, .ref 49]) (h := ks (ku i 3142 (-1)) a q r) (i := (.invokevirtual 95, 3, 65, 0, 9, 0, 237)) (by rfl) (by rfl) (cy := mi_c65) rfl rfl (kc65_49 hJ1.I hJ1.R 0 x2) (by decide) ?_
  intro ig2 ag2 qg2 rg2 kg2 hg2
  have hGg2 := kG_call hJ1 kg2 (by decide +kernel)
  refine ko_steps mi_in66 2 _ (16, [(4, .int 0), (3, .int 0), (0, .ref 49), (1, .ref 1), (2, .int x2)], [], (0, 0), ks ig2 ag2 qg2 rg2) (by rfl) ?_
  have lp3 : ∀ (n : Nat) (i3 : Nat → Int32) (a3 : Nat → List Int32) (q3 : Nat → List Int64) (r3 : Nat → Nat) (l4_3 : Int32) (l3_3 : Int32), kG w66_49_1_L16 ig2 ag2 qg2 rg2 i3 a3 q3 r3 → (0 : Int) ≤ l4_3.toInt → (((i3 3138).toInt - l4_3.toInt)).toNat < n → ko 11 (mi_h66, mi_c66) P (16, [(4, .int l4_3), (3, .int l3_3), (0, .ref 49), (1, .ref 1), (2, .int x2)], [], (0, 0), ks i3 a3 q3 r3) := by
    intro n
    induction n with
    | zero =>
      intro _ _ _ _ _ _ _ _ hm
      exact absurd hm (Nat.not_lt_zero _)
    | succ n ih3 =>
      intro i3 a3 q3 r3 l4_3 l3_3 hL3 p3_0 hm3
      have fi3_3138 : ((0 : Int) ≤ (i3 3138).toInt) ∧ ((i3 3138).toInt ≤ 20) := hL3.I.1 3138
      have fig2_3138 : ((0 : Int) ≤ (ig2 3138).toInt) ∧ ((ig2 3138).toInt ≤ 20) := hGg2.I.1 3138
      have efi3_3138 : (i3 3138).toInt = (ig2 3138).toInt := hL3.ti 3138 rfl
      refine ko_steps mi_in66 3 _ (22, [(4, .int l4_3), (3, .int l3_3), (0, .ref 49), (1, .ref 1), (2, .int x2)], [.int (i3 3138), .int l4_3], (0, 0), ks i3 a3 q3 r3) (by rfl) ?_
      refine ko_if mi_in66 (decide ((i3 3138) ≤ l4_3)) 78 25 ([(4, .int l4_3), (3, .int l3_3), (0, .ref 49), (1, .ref 1), (2, .int x2)], [], (0, 0), ks i3 a3 q3 r3) (by rfl) (fun c => ?_) (fun c => ?_)
      ·
        have c4 : (i3 3138).toInt ≤ l4_3.toInt := kd_le c; clear c
        have hG5 := kG_call hGg2 hL3 (by decide +kernel)
        refine ko_steps mi_in66 1 _ (79, [(4, .int l4_3), (3, .int l3_3), (0, .ref 49), (1, .ref 1), (2, .int x2)], [.int l3_3], (0, 0), ks i3 a3 q3 r3) (by rfl) ?_
        exact ko_ret mi_in66 (by rfl) (hP l3_3 _ _ _ _ hG5 trivial)
      ·
        have c6 : l4_3.toInt < (i3 3138).toInt := kd_leF c; clear c
        refine ko_steps mi_in66 3 _ (28, [(4, .int l4_3), (3, .int l3_3), (0, .ref 49), (1, .ref 1), (2, .int x2)], [.int x2, .ref 1, .ref 49], (0, 0), ks i3 a3 q3 r3) (by rfl) ?_
        refine ko_callI mi_in66 (pc := 28) (ls := [(4, .int l4_3), (3, .int l3_3), (0, .ref 49), (1, .ref 1), (2, .int x2)]) (st := [.int x2, .ref 1, .ref 49]) (h := ks i3 a3 q3 r3) (i := (.invokevirtual 99, 3, 63, 0, 9, 0, 239)) (by rfl) (by rfl) (cy := mi_c63) rfl rfl (kc63_49_1 hL3.I hL3.R x2) (by decide) ?_
        intro vg7 ig7 ag7 qg7 rg7 kg7 hg7
        have hGg7 := kG_call hL3 kg7 (by decide +kernel)
        have efig7_3142 : (ig7 3142).toInt = (i3 3142).toInt := kg7.ti 3142 rfl
        refine ko_steps mi_in66 4 _ (39, [(5, .int vg7), (4, .int l4_3), (3, .int l3_3), (0, .ref 49), (1, .ref 1), (2, .int x2)], [.int (ig7 3142), .int vg7], (0, 0), ks ig7 ag7 qg7 rg7) (by rfl) ?_
        refine ko_if mi_in66 (decide (vg7 ≤ (ig7 3142))) 51 42 ([(5, .int vg7), (4, .int l4_3), (3, .int l3_3), (0, .ref 49), (1, .ref 1), (2, .int x2)], [], (0, 0), ks ig7 ag7 qg7 rg7) (by rfl) (fun c => ?_) (fun c => ?_)
        ·
          have c8 : vg7.toInt ≤ (ig7 3142).toInt := kd_le c; clear c
          have s9 : (l4_3 + 1).toInt = l4_3.toInt + (1 : Int32).toInt := kd_add (oz12 p3_0 kn1) (oz1057 c6 fi3_3138.2 kn1)
          have fig7_3138 : ((0 : Int) ≤ (ig7 3138).toInt) ∧ ((ig7 3138).toInt ≤ 20) := hGg7.I.1 3138
          have efig7_3138 : (ig7 3138).toInt = (i3 3138).toInt := kg7.ti 3138 rfl
          refine ko_steps mi_in66 5 _ (59, [(5, .int vg7), (4, .int l4_3), (3, .int l3_3), (0, .ref 49), (1, .ref 1), (2, .int x2)], [.int (ig7 3138), .int (l4_3 + 1)], (0, 0), ks ig7 ag7 qg7 rg7) (by rfl) ?_
          refine ko_if mi_in66 (decide ((ig7 3138) ≤ (l4_3 + 1))) 72 62 ([(5, .int vg7), (4, .int l4_3), (3, .int l3_3), (0, .ref 49), (1, .ref 1), (2, .int x2)], [], (0, 0), ks ig7 ag7 qg7 rg7) (by rfl) (fun c => ?_) (fun c => ?_)
          ·
            have c10 : (ig7 3138).toInt ≤ (l4_3 + 1).toInt := kd_le c; clear c
            refine ko_steps mi_in66 2 _ (16, [(4, .int (l4_3 + 1)), (5, .int vg7), (3, .int l3_3), (0, .ref 49), (1, .ref 1), (2, .int x2)], [], (0, 0), ks ig7 ag7 qg7 rg7) (by rfl) ?_
            refine ko_perm [(4, .int (l4_3 + 1)), (3, .int l3_3), (0, .ref 49), (1, .ref 1), (2, .int x2)] (List.forall_mem_cons.mpr ⟨(List.Mem.head _), (List.forall_mem_cons.mpr ⟨(List.Mem.tail _ (List.Mem.tail _ (List.Mem.head _))), (List.forall_mem_cons.mpr ⟨(List.Mem.tail _ (List.Mem.tail _ (List.Mem.tail _ (List.Mem.head _)))), (List.forall_mem_cons.mpr ⟨(List.Mem.tail _ (List.Mem.tail _ (List.Mem.tail _ (List.Mem.tail _ (List.Mem.head _))))), (List.forall_mem_cons.mpr ⟨(List.Mem.tail _ (List.Mem.tail _ (List.Mem.tail _ (List.Mem.tail _ (List.Mem.tail _ (List.Mem.head _)))))), (fun _ h => absurd h List.not_mem_nil)⟩)⟩)⟩)⟩)⟩) ?_
            exact ih3 _ _ _ _ _ _ hGg7 (oz14 p3_0 s9 kn1) (kj_meas (oz308 efig7_3138 s9 kn1) (oz45 c6) hm3)
          ·
            have c11 : (l4_3 + 1).toInt < (ig7 3138).toInt := kd_leF c; clear c
            refine ko_steps mi_in66 5 _ (69, [(5, .int vg7), (4, .int l4_3), (3, .int l3_3), (0, .ref 49), (1, .ref 1), (2, .int x2)], [.int (l4_3 + 1), .int l4_3, .ref 49], (0, 0), ks ig7 ag7 qg7 rg7) (by rfl) ?_
            refine ko_callN mi_in66 (pc := 69) (ls := [(5, .int vg7), (4, .int l4_3), (3, .int l3_3), (0, .ref 49), (1, .ref 1), (2, .int x2)]) (st := [.int (l4_3 + 1), .int l4_3, .ref 49]) (h := ks ig7 ag7 qg7 rg7) (i := (.invokevirtual 103, 3, 64, 0, 9, 0, 241)) (by rfl) (by rfl) (cy := mi_c64) rfl rfl (kc64_49 hGg7.I hGg7.R l4_3 (l4_3 + 1) (oz1066 c6 fi3_3138.2 p3_0) (oz1067 c11 fig7_3138.2 p3_0 s9 kn1)) (by decide) ?_
            intro ig12 ag12 qg12 rg12 kg12 hg12
            have hGg12 := kG_call hGg7 kg12 (by decide +kernel)
            refine ko_steps mi_in66 2 _ (16, [(4, .int (l4_3 + 1)), (5, .int vg7), (3, .int l3_3), (0, .ref 49), (1, .ref 1), (2, .int x2)], [], (0, 0), ks ig12 ag12 qg12 rg12) (by rfl) ?_
            refine ko_perm [(4, .int (l4_3 + 1)), (3, .int l3_3), (0, .ref 49), (1, .ref 1), (2, .int x2)] (List.forall_mem_cons.mpr ⟨(List.Mem.head _), (List.forall_mem_cons.mpr ⟨(List.Mem.tail _ (List.Mem.tail _ (List.Mem.head _))), (List.forall_mem_cons.mpr ⟨(List.Mem.tail _ (List.Mem.tail _ (List.Mem.tail _ (List.Mem.head _)))), (List.forall_mem_cons.mpr ⟨(List.Mem.tail _ (List.Mem.tail _ (List.Mem.tail _ (List.Mem.tail _ (List.Mem.head _))))), (List.forall_mem_cons.mpr ⟨(List.Mem.tail _ (List.Mem.tail _ (List.Mem.tail _ (List.Mem.tail _ (List.Mem.tail _ (List.Mem.head _)))))), (fun _ h => absurd h List.not_mem_nil)⟩)⟩)⟩)⟩)⟩) ?_
            have fig12_3138 : ((0 : Int) ≤ (ig12 3138).toInt) ∧ ((ig12 3138).toInt ≤ 20) := hGg12.I.1 3138
            have efig12_3138 : (ig12 3138).toInt = (ig7 3138).toInt := kg12.ti 3138 rfl
            exact ih3 _ _ _ _ _ _ hGg12 (oz14 p3_0 s9 kn1) (kj_meas (oz1068 efig12_3138 efig7_3138 s9 kn1) (oz45 c6) hm3)
        ·
          have c13 : (ig7 3142).toInt < vg7.toInt := kd_leF c; clear c
          have hJ14 := kG_i hGg7 3142 rfl (v := vg7) (kd_bd _)
          have s15 : (l4_3 + 1).toInt = l4_3.toInt + (1 : Int32).toInt := kd_add (oz12 p3_0 kn1) (oz1057 c6 fi3_3138.2 kn1)
          have fig7_3138 : ((0 : Int) ≤ (ig7 3138).toInt) ∧ ((ig7 3138).toInt ≤ 20) := hJ14.I.1 3138
          have efig7_3138 : (ig7 3138).toInt = (i3 3138).toInt := kg7.ti 3138 rfl
          refine ko_steps mi_in66 10 _ (59, [(3, .int l4_3), (5, .int vg7), (4, .int l4_3), (0, .ref 49), (1, .ref 1), (2, .int x2)], [.int (ig7 3138), .int (l4_3 + 1)], (0, 0), ks (ku ig7 3142 vg7) ag7 qg7 rg7) (by rfl) ?_
          refine ko_if mi_in66 (decide ((ig7 3138) ≤ (l4_3 + 1))) 72 62 ([(3, .int l4_3), (5, .int vg7), (4, .int l4_3), (0, .ref 49), (1, .ref 1), (2, .int x2)], [], (0, 0), ks (ku ig7 3142 vg7) ag7 qg7 rg7) (by rfl) (fun c => ?_) (fun c => ?_)
          ·
            have c16 : (ig7 3138).toInt ≤ (l4_3 + 1).toInt := kd_le c; clear c
            refine ko_steps mi_in66 2 _ (16, [(4, .int (l4_3 + 1)), (3, .int l4_3), (5, .int vg7), (0, .ref 49), (1, .ref 1), (2, .int x2)], [], (0, 0), ks (ku ig7 3142 vg7) ag7 qg7 rg7) (by rfl) ?_
            refine ko_perm [(4, .int (l4_3 + 1)), (3, .int l4_3), (0, .ref 49), (1, .ref 1), (2, .int x2)] (List.forall_mem_cons.mpr ⟨(List.Mem.head _), (List.forall_mem_cons.mpr ⟨(List.Mem.tail _ (List.Mem.head _)), (List.forall_mem_cons.mpr ⟨(List.Mem.tail _ (List.Mem.tail _ (List.Mem.tail _ (List.Mem.head _)))), (List.forall_mem_cons.mpr ⟨(List.Mem.tail _ (List.Mem.tail _ (List.Mem.tail _ (List.Mem.tail _ (List.Mem.head _))))), (List.forall_mem_cons.mpr ⟨(List.Mem.tail _ (List.Mem.tail _ (List.Mem.tail _ (List.Mem.tail _ (List.Mem.tail _ (List.Mem.head _)))))), (fun _ h => absurd h List.not_mem_nil)⟩)⟩)⟩)⟩)⟩) ?_
            exact ih3 _ _ _ _ _ _ hJ14 (oz14 p3_0 s15 kn1) (kj_meas (oz308 efig7_3138 s15 kn1) (oz45 c6) hm3)
          ·
            have c17 : (l4_3 + 1).toInt < (ig7 3138).toInt := kd_leF c; clear c
            refine ko_steps mi_in66 5 _ (69, [(3, .int l4_3), (5, .int vg7), (4, .int l4_3), (0, .ref 49), (1, .ref 1), (2, .int x2)], [.int (l4_3 + 1), .int l4_3, .ref 49], (0, 0), ks (ku ig7 3142 vg7) ag7 qg7 rg7) (by rfl) ?_
            refine ko_callN mi_in66 (pc := 69) (ls := [(3, .int l4_3), (5, .int vg7), (4, .int l4_3), (0, .ref 49), (1, .ref 1), (2, .int x2)]) (st := [.int (l4_3 + 1), .int l4_3, .ref 49]) (h := ks (ku ig7 3142 vg7) ag7 qg7 rg7) (i := (.invokevirtual 103, 3, 64, 0, 9, 0, 241)) (by rfl) (by rfl) (cy := mi_c64) rfl rfl (kc64_49 hJ14.I hJ14.R l4_3 (l4_3 + 1) (oz1066 c6 fi3_3138.2 p3_0) (oz1067 c17 fig7_3138.2 p3_0 s15 kn1)) (by decide) ?_
            intro ig18 ag18 qg18 rg18 kg18 hg18
            have hGg18 := kG_call hJ14 kg18 (by decide +kernel)
            refine ko_steps mi_in66 2 _ (16, [(4, .int (l4_3 + 1)), (3, .int l4_3), (5, .int vg7), (0, .ref 49), (1, .ref 1), (2, .int x2)], [], (0, 0), ks ig18 ag18 qg18 rg18) (by rfl) ?_
            refine ko_perm [(4, .int (l4_3 + 1)), (3, .int l4_3), (0, .ref 49), (1, .ref 1), (2, .int x2)] (List.forall_mem_cons.mpr ⟨(List.Mem.head _), (List.forall_mem_cons.mpr ⟨(List.Mem.tail _ (List.Mem.head _)), (List.forall_mem_cons.mpr ⟨(List.Mem.tail _ (List.Mem.tail _ (List.Mem.tail _ (List.Mem.head _)))), (List.forall_mem_cons.mpr ⟨(List.Mem.tail _ (List.Mem.tail _ (List.Mem.tail _ (List.Mem.tail _ (List.Mem.head _))))), (List.forall_mem_cons.mpr ⟨(List.Mem.tail _ (List.Mem.tail _ (List.Mem.tail _ (List.Mem.tail _ (List.Mem.tail _ (List.Mem.head _)))))), (fun _ h => absurd h List.not_mem_nil)⟩)⟩)⟩)⟩)⟩) ?_
            have fig18_3138 : ((0 : Int) ≤ (ig18 3138).toInt) ∧ ((ig18 3138).toInt ≤ 20) := hGg18.I.1 3138
            have efig18_3138 : (ig18 3138).toInt = (ig7 3138).toInt := kg18.ti 3138 rfl
            exact ih3 _ _ _ _ _ _ hGg18 (oz14 p3_0 s15 kn1) (kj_meas (oz1068 efig18_3138 efig7_3138 s15 kn1) (oz45 c6) hm3)
  exact lp3 _ _ _ _ _ _ _ (kG_self _ hGg2.I hGg2.R) (oz46 kn0) (Nat.lt_succ_self _)
def w91_0 : kW := ([645, 3138, 3142, 3200, 3206, 3207, 3208, 3209, 3214, 3215, 3216, 3586, 3781, 6405], [13, 51, 52, 53, 54, 55, 57, 58, 62, 63, 65, 66, 67, 68, 69, 70, 71, 72, 73, 74, 103], [], [1])
set_option maxRecDepth 100000 in
theorem kc91_0 {i : Nat → Int32} {a : Nat → List Int32} {q : Nat → List Int64} {r : Nat → Nat} (hI : kI i a q) (hr : kr r) (x1 : Int32) (x2 : Int32) (x3 : Int32) : km 13 91 [.ref 0, .int x1, .int x2, .int x3] (ks i a q r) (kVI w91_0 i a q r (fun v i1 a1 q1 r1 => True)) := by
  have hG := kG_self w91_0 hI hr
  refine km_ofI (q := (mi_h91, mi_c91)) rfl (by decide) (Nat.le_of_ble_eq_true rfl) ?_
  intro P hP
  refine ko_steps mi_in91 2 _ (2, [(0, .ref 0), (1, .int x1), (2, .int x2), (3, .int x3)], [.int x2, .ref 0], (0, 0), ks i a q r) (by rfl) ?_
  refine ko_callPI mi_in91 (pc := 2) (ls := [(0, .ref 0), (1, .int x1), (2, .int x2), (3, .int x3)]) (st := [.int x2, .ref 0]) (h := ks i a q r) (i := (.invokevirtual 141, 3, 123, 0, 9, 0, 162)) (by rfl) (by rfl) (cy := mi_c123) rfl rfl (kc123_0 hG.I hG.R x2) (by decide) ?_
  intro vg1 hg1
  rcases hg1 with ⟨eg1, hg1⟩ | ⟨eg1, hg1⟩
  ·
    subst eg1
    have fi_64 : ((0 : Int) ≤ (i 64).toInt) ∧ ((i 64).toInt ≤ 8) := hG.I.1 64
    have z2 : ((0 : Int) ≤ x2.toInt) ∧ (x2.toInt < (i 64).toInt) := hg1
    refine ko_steps mi_in91 4 _ (11, [(0, .ref 0), (1, .int x1), (2, .int x2), (3, .int x3)], [.int 1, .int 0, .int x3], (0, 0), ks i a q r) (by rfl) ?_
    refine ko_callPI mi_in91 (pc := 11) (ls := [(0, .ref 0), (1, .int x1), (2, .int x2), (3, .int x3)]) (st := [.int 1, .int 0, .int x3]) (h := ks i a q r) (i := (.invokestatic 74, 3, 120, 0, 9, 0, 152)) (by rfl) (by rfl) (cy := mi_c120) rfl rfl (kc120 hG.I hG.R x3 0 1) (by decide) ?_
    intro vg3 hg3
    rcases hg3 with ⟨eg3, hg3⟩ | ⟨eg3, hg3⟩
    ·
      subst eg3
      have z4 : ((0 : Int32).toInt ≤ x3.toInt) ∧ (x3.toInt ≤ (1 : Int32).toInt) := hg3
      refine ko_steps mi_in91 3 _ (21, [(0, .ref 0), (1, .int x1), (2, .int x2), (3, .int x3)], [.int x1, .ref 0], (0, 0), ks i a q r) (by rfl) ?_
      refine ko_callI mi_in91 (pc := 21) (ls := [(0, .ref 0), (1, .int x1), (2, .int x2), (3, .int x3)]) (st := [.int x1, .ref 0]) (h := ks i a q r) (i := (.invokevirtual 144, 3, 129, 0, 9, 0, 208)) (by rfl) (by rfl) (cy := mi_c129) rfl rfl (kc129_0 hG.I hG.R x1) (by decide) ?_
      intro vg5 ig5 ag5 qg5 rg5 kg5 hg5
      have hGg5 := kG_call hG kg5 (by decide +kernel)
      have z6 : (vg5.toInt < 0) ∨ (vg5.toInt = 0) := hg5
      refine ko_steps mi_in91 2 _ (28, [(4, .int vg5), (0, .ref 0), (1, .int x1), (2, .int x2), (3, .int x3)], [.int vg5], (0, 0), ks ig5 ag5 qg5 rg5) (by rfl) ?_
      refine ko_if mi_in91 (decide (0 ≤ vg5)) 34 31 ([(4, .int vg5), (0, .ref 0), (1, .int x1), (2, .int x2), (3, .int x3)], [], (0, 0), ks ig5 ag5 qg5 rg5) (by rfl) (fun c => ?_) (fun c => ?_)
      ·
        have c7 : (0 : Int32).toInt ≤ vg5.toInt := kd_le c; clear c
        have fig5_3138 : ((0 : Int) ≤ (ig5 3138).toInt) ∧ ((ig5 3138).toInt ≤ 20) := hGg5.I.1 3138
        refine ko_steps mi_in91 4 _ (43, [(4, .int vg5), (0, .ref 0), (1, .int x1), (2, .int x2), (3, .int x3)], [.int 20, .int (ig5 3138)], (0, 0), ks ig5 ag5 qg5 rg5) (by rfl) ?_
        refine ko_if mi_in91 (decide ((ig5 3138) < 20)) 49 46 ([(4, .int vg5), (0, .ref 0), (1, .int x1), (2, .int x2), (3, .int x3)], [], (0, 0), ks ig5 ag5 qg5 rg5) (by rfl) (fun c => ?_) (fun c => ?_)
        ·
          have c8 : (ig5 3138).toInt < (20 : Int32).toInt := kd_lt c; clear c
          refine ko_steps mi_in91 5 _ (58, [(4, .int vg5), (0, .ref 0), (1, .int x1), (2, .int x2), (3, .int x3)], [.int x2, .ref 1, .ref 49], (0, 0), ks ig5 ag5 qg5 rg5) (by rfl) ?_
          refine ko_callI mi_in91 (pc := 58) (ls := [(4, .int vg5), (0, .ref 0), (1, .int x1), (2, .int x2), (3, .int x3)]) (st := [.int x2, .ref 1, .ref 49]) (h := ks ig5 ag5 qg5 rg5) (i := (.invokevirtual 174, 3, 66, 0, 9, 0, 236)) (by rfl) (by rfl) (cy := mi_c66) rfl rfl (kc66_49_1 hGg5.I hGg5.R x2) (by decide) ?_
          intro vg9 ig9 ag9 qg9 rg9 kg9 hg9
          have hGg9 := kG_call hGg5 kg9 (by decide +kernel)
          refine ko_steps mi_in91 2 _ (64, [(5, .int vg9), (4, .int vg5), (0, .ref 0), (1, .int x1), (2, .int x2), (3, .int x3)], [.int x3], (0, 0), ks ig9 ag9 qg9 rg9) (by rfl) ?_
          refine ko_if mi_in91 (x3 != 0) 72 67 ([(5, .int vg9), (4, .int vg5), (0, .ref 0), (1, .int x1), (2, .int x2), (3, .int x3)], [], (0, 0), ks ig9 ag9 qg9 rg9) (by rfl) (fun c => ?_) (fun c => ?_)
          ·
            have c10 : x3.toInt ≠ (0 : Int32).toInt := kd_ne c; clear c
            refine ko_steps mi_in91 3 _ (79, [(5, .int vg9), (4, .int vg5), (0, .ref 0), (1, .int x1), (2, .int x2), (3, .int x3)], [.int (ig9 3142)], (0, 0), ks ig9 ag9 qg9 rg9) (by rfl) ?_
            exact ko_ret mi_in91 (by rfl) (hP (ig9 3142) _ _ _ _ hGg9 trivial)
          ·
            have c11 : x3.toInt = (0 : Int32).toInt := kd_neF c; clear c
            refine ko_steps mi_in91 2 _ (79, [(5, .int vg9), (4, .int vg5), (0, .ref 0), (1, .int x1), (2, .int x2), (3, .int x3)], [.int vg9], (0, 0), ks ig9 ag9 qg9 rg9) (by rfl) ?_
            exact ko_ret mi_in91 (by rfl) (hP vg9 _ _ _ _ hGg9 trivial)
        ·
          have c12 : (20 : Int32).toInt ≤ (ig5 3138).toInt := kd_ltF c; clear c
          refine ko_steps mi_in91 1 _ (48, [(4, .int vg5), (0, .ref 0), (1, .int x1), (2, .int x2), (3, .int x3)], [.int (-5)], (0, 0), ks ig5 ag5 qg5 rg5) (by rfl) ?_
          exact ko_ret mi_in91 (by rfl) (hP (-5) _ _ _ _ hGg5 trivial)
      ·
        have c13 : vg5.toInt < (0 : Int32).toInt := kd_leF c; clear c
        refine ko_steps mi_in91 1 _ (33, [(4, .int vg5), (0, .ref 0), (1, .int x1), (2, .int x2), (3, .int x3)], [.int vg5], (0, 0), ks ig5 ag5 qg5 rg5) (by rfl) ?_
        exact ko_ret mi_in91 (by rfl) (hP vg5 _ _ _ _ hGg5 trivial)
    ·
      subst eg3
      have z14 : ¬ (((0 : Int32).toInt ≤ x3.toInt) ∧ (x3.toInt ≤ (1 : Int32).toInt)) := hg3
      refine ko_steps mi_in91 2 _ (18, [(0, .ref 0), (1, .int x1), (2, .int x2), (3, .int x3)], [.int (-1)], (0, 0), ks i a q r) (by rfl) ?_
      exact ko_ret mi_in91 (by rfl) (hP (-1) _ _ _ _ hG trivial)
  ·
    subst eg1
    have fi_64 : ((0 : Int) ≤ (i 64).toInt) ∧ ((i 64).toInt ≤ 8) := hG.I.1 64
    have z15 : ¬ (((0 : Int) ≤ x2.toInt) ∧ (x2.toInt < (i 64).toInt)) := hg1
    refine ko_steps mi_in91 2 _ (18, [(0, .ref 0), (1, .int x1), (2, .int x2), (3, .int x3)], [.int (-1)], (0, 0), ks i a q r) (by rfl) ?_
    exact ko_ret mi_in91 (by rfl) (hP (-1) _ _ _ _ hG trivial)
def w67_49_1 : kW := ([645, 3138, 3142, 3200, 3206, 3207, 3208, 3209, 3214, 3215, 3216, 3586, 3781, 6405], [13, 51, 52, 53, 54, 55, 57, 58, 62, 63, 65, 66, 67, 68, 69, 70, 71, 72, 73, 74, 103], [], [1])
def w67_49_1_L17 : kW := ([645, 3142, 3200, 3206, 3207, 3208, 3209, 3214, 3215, 3216, 3586, 3781, 6405], [13, 51, 52, 53, 54, 55, 57, 58, 62, 63, 65, 66, 67, 68, 69, 70, 71, 72, 73, 74, 103], [], [1])
set_option maxRecDepth 100000 in
theorem kc67_49_1 {i : Nat → Int32} {a : Nat → List Int32} {q : Nat → List Int64} {r : Nat → Nat} (hI : kI i a q) (hr : kr r) (x2 : Int32) (x3 : Int32) (hp0 : ((0 : Int) ≤ x2.toInt) ∧ (x2.toInt ≤ 19)) : km 11 67 [.ref 49, .ref 1, .int x2, .int x3] (ks i a q r) (kVI w67_49_1 i a q r (fun v i1 a1 q1 r1 => True)) := by
  have hG := kG_self w67_49_1 hI hr
  refine km_ofI (q := (mi_h67, mi_c67)) rfl (by decide) (Nat.le_of_ble_eq_true rfl) ?_
  intro P hP
  have hJ1 := kG_i hG 3142 rfl (v := (-1)) (kd_bd _)
  refine ko_steps mi_in67 8 _ (11, [(4, .int 0), (0, .ref 49), (1, .ref 1), (2, .int x2), (3, .int x3)], [.int 0, .int x2, .ref 49], (0, 0), ks (ku i 3142 (-1)) a q r) (by rfl) ?_
  refine ko_callN mi_in67 (pc := 11) (ls := [(4, .int 0), (0, .ref 49), (1, .ref 1), (2, .int x2), (3, .int x3)]) (st := [.int 0, .int x2, .ref 49]) (h := ks (ku i 3142 (-1)) a q r) (i := (.invokevirtual 95, 3, 65, 0, 9, 0, 237)) (by rfl) (by rfl) (cy := mi_c65) rfl rfl (kc65_49 hJ1.I hJ1.R x2 0) (by decide) ?_
  intro ig2 ag2 qg2 rg2 kg2 hg2
  have hGg2 := kG_call hJ1 kg2 (by decide +kernel)
  refine ko_steps mi_in67 2 _ (17, [(5, .int 0), (4, .int 0), (0, .ref 49), (1, .ref 1), (2, .int x2), (3, .int x3)], [], (0, 0), ks ig2 ag2 qg2 rg2) (by rfl) ?_
  have lp3 : ∀ (n : Nat) (i3 : Nat → Int32) (a3 : Nat → List Int32) (q3 : Nat → List Int64) (r3 : Nat → Nat) (l5_3 : Int32) (l4_3 : Int32), kG w67_49_1_L17 ig2 ag2 qg2 rg2 i3 a3 q3 r3 → (0 : Int) ≤ l5_3.toInt → (((i3 64).toInt - l5_3.toInt)).toNat < n → ko 11 (mi_h67, mi_c67) P (17, [(5, .int l5_3), (4, .int l4_3), (0, .ref 49), (1, .ref 1), (2, .int x2), (3, .int x3)], [], (0, 0), ks i3 a3 q3 r3) := by
    intro n
    induction n with
    | zero =>
      intro _ _ _ _ _ _ _ _ hm
      exact absurd hm (Nat.not_lt_zero _)
    | succ n ih3 =>
      intro i3 a3 q3 r3 l5_3 l4_3 hL3 p3_0 hm3
      have fi3_64 : ((0 : Int) ≤ (i3 64).toInt) ∧ ((i3 64).toInt ≤ 8) := hL3.I.1 64
      have fig2_64 : ((0 : Int) ≤ (ig2 64).toInt) ∧ ((ig2 64).toInt ≤ 8) := hGg2.I.1 64
      have fi_64 : ((0 : Int) ≤ (i 64).toInt) ∧ ((i 64).toInt ≤ 8) := hJ1.I.1 64
      have efig2_64 : (ig2 64).toInt = (i 64).toInt := kg2.ti 64 rfl
      have efi3_64 : (i3 64).toInt = (ig2 64).toInt := hL3.ti 64 rfl
      refine ko_steps mi_in67 3 _ (23, [(5, .int l5_3), (4, .int l4_3), (0, .ref 49), (1, .ref 1), (2, .int x2), (3, .int x3)], [.int (i3 64), .int l5_3], (0, 0), ks i3 a3 q3 r3) (by rfl) ?_
      refine ko_if mi_in67 (decide ((i3 64) ≤ l5_3)) 67 26 ([(5, .int l5_3), (4, .int l4_3), (0, .ref 49), (1, .ref 1), (2, .int x2), (3, .int x3)], [], (0, 0), ks i3 a3 q3 r3) (by rfl) (fun c => ?_) (fun c => ?_)
      ·
        have c4 : (i3 64).toInt ≤ l5_3.toInt := kd_le c; clear c
        have hG5 := kG_call hGg2 hL3 (by decide +kernel)
        refine ko_steps mi_in67 1 _ (69, [(5, .int l5_3), (4, .int l4_3), (0, .ref 49), (1, .ref 1), (2, .int x2), (3, .int x3)], [.int l4_3], (0, 0), ks i3 a3 q3 r3) (by rfl) ?_
        exact ko_ret mi_in67 (by rfl) (hP l4_3 _ _ _ _ hG5 trivial)
      ·
        have c6 : l5_3.toInt < (i3 64).toInt := kd_leF c; clear c
        refine ko_steps mi_in67 4 _ (33, [(5, .int l5_3), (4, .int l4_3), (0, .ref 49), (1, .ref 1), (2, .int x2), (3, .int x3)], [.int l5_3, .int x2, .ref 74], (0, 0), ks i3 a3 q3 r3) (by rfl) ?_
        refine ko_iast3 mi_in67 (n := 20) (c := 20) (ax := (0, 0, 0, 0, 0)) (by rfl) (by rfl) (ksG74 _ _ _ _) (ksA74 _ _ _ _) (hL3.I.2.1 74) rfl (oz3 hp0.1) (oz1065 hp0.2) ?_
        intro a7 ea7 fa7
        have hJ7 := kG_a3 hL3 74 rfl ea7 fa7 (kd_bd _)
        refine ko_steps mi_in67 3 _ (37, [(5, .int l5_3), (4, .int l4_3), (0, .ref 49), (1, .ref 1), (2, .int x2), (3, .int x3)], [.int x3, .ref 1, .ref 49], (0, 0), ks i3 a7 q3 r3) (by rfl) ?_
        refine ko_callI mi_in67 (pc := 37) (ls := [(5, .int l5_3), (4, .int l4_3), (0, .ref 49), (1, .ref 1), (2, .int x2), (3, .int x3)]) (st := [.int x3, .ref 1, .ref 49]) (h := ks i3 a7 q3 r3) (i := (.invokevirtual 99, 3, 63, 0, 9, 0, 239)) (by rfl) (by rfl) (cy := mi_c63) rfl rfl (kc63_49_1 hJ7.I hJ7.R x3) (by decide) ?_
        intro vg8 ig8 ag8 qg8 rg8 kg8 hg8
        have hGg8 := kG_call hJ7 kg8 (by decide +kernel)
        have efig8_3142 : (ig8 3142).toInt = (i3 3142).toInt := kg8.ti 3142 rfl
        refine ko_steps mi_in67 4 _ (48, [(6, .int vg8), (5, .int l5_3), (4, .int l4_3), (0, .ref 49), (1, .ref 1), (2, .int x2), (3, .int x3)], [.int (ig8 3142), .int vg8], (0, 0), ks ig8 ag8 qg8 rg8) (by rfl) ?_
        refine ko_if mi_in67 (decide (vg8 ≤ (ig8 3142))) 61 51 ([(6, .int vg8), (5, .int l5_3), (4, .int l4_3), (0, .ref 49), (1, .ref 1), (2, .int x2), (3, .int x3)], [], (0, 0), ks ig8 ag8 qg8 rg8) (by rfl) (fun c => ?_) (fun c => ?_)
        ·
          have c9 : vg8.toInt ≤ (ig8 3142).toInt := kd_le c; clear c
          have s10 : (l5_3 + 1).toInt = l5_3.toInt + (1 : Int32).toInt := kd_add (oz12 p3_0 kn1) (oz442 c6 fi3_64.2 kn1)
          refine ko_steps mi_in67 2 _ (17, [(5, .int (l5_3 + 1)), (6, .int vg8), (4, .int l4_3), (0, .ref 49), (1, .ref 1), (2, .int x2), (3, .int x3)], [], (0, 0), ks ig8 ag8 qg8 rg8) (by rfl) ?_
          refine ko_perm [(5, .int (l5_3 + 1)), (4, .int l4_3), (0, .ref 49), (1, .ref 1), (2, .int x2), (3, .int x3)] (List.forall_mem_cons.mpr ⟨(List.Mem.head _), (List.forall_mem_cons.mpr ⟨(List.Mem.tail _ (List.Mem.tail _ (List.Mem.head _))), (List.forall_mem_cons.mpr ⟨(List.Mem.tail _ (List.Mem.tail _ (List.Mem.tail _ (List.Mem.head _)))), (List.forall_mem_cons.mpr ⟨(List.Mem.tail _ (List.Mem.tail _ (List.Mem.tail _ (List.Mem.tail _ (List.Mem.head _))))), (List.forall_mem_cons.mpr ⟨(List.Mem.tail _ (List.Mem.tail _ (List.Mem.tail _ (List.Mem.tail _ (List.Mem.tail _ (List.Mem.head _)))))), (List.forall_mem_cons.mpr ⟨(List.Mem.tail _ (List.Mem.tail _ (List.Mem.tail _ (List.Mem.tail _ (List.Mem.tail _ (List.Mem.tail _ (List.Mem.head _))))))), (fun _ h => absurd h List.not_mem_nil)⟩)⟩)⟩)⟩)⟩)⟩) ?_
          have fig8_64 : ((0 : Int) ≤ (ig8 64).toInt) ∧ ((ig8 64).toInt ≤ 8) := hGg8.I.1 64
          have efig8_64 : (ig8 64).toInt = (i3 64).toInt := kg8.ti 64 rfl
          exact ih3 _ _ _ _ _ _ hGg8 (oz14 p3_0 s10 kn1) (kj_meas (oz308 efig8_64 s10 kn1) (oz45 c6) hm3)
        ·
          have c11 : (ig8 3142).toInt < vg8.toInt := kd_leF c; clear c
          have hJ12 := kG_i hGg8 3142 rfl (v := vg8) (kd_bd _)
          have s13 : (l5_3 + 1).toInt = l5_3.toInt + (1 : Int32).toInt := kd_add (oz12 p3_0 kn1) (oz442 c6 fi3_64.2 kn1)
          refine ko_steps mi_in67 7 _ (17, [(5, .int (l5_3 + 1)), (4, .int l5_3), (6, .int vg8), (0, .ref 49), (1, .ref 1), (2, .int x2), (3, .int x3)], [], (0, 0), ks (ku ig8 3142 vg8) ag8 qg8 rg8) (by rfl) ?_
          refine ko_perm [(5, .int (l5_3 + 1)), (4, .int l5_3), (0, .ref 49), (1, .ref 1), (2, .int x2), (3, .int x3)] (List.forall_mem_cons.mpr ⟨(List.Mem.head _), (List.forall_mem_cons.mpr ⟨(List.Mem.tail _ (List.Mem.head _)), (List.forall_mem_cons.mpr ⟨(List.Mem.tail _ (List.Mem.tail _ (List.Mem.tail _ (List.Mem.head _)))), (List.forall_mem_cons.mpr ⟨(List.Mem.tail _ (List.Mem.tail _ (List.Mem.tail _ (List.Mem.tail _ (List.Mem.head _))))), (List.forall_mem_cons.mpr ⟨(List.Mem.tail _ (List.Mem.tail _ (List.Mem.tail _ (List.Mem.tail _ (List.Mem.tail _ (List.Mem.head _)))))), (List.forall_mem_cons.mpr ⟨(List.Mem.tail _ (List.Mem.tail _ (List.Mem.tail _ (List.Mem.tail _ (List.Mem.tail _ (List.Mem.tail _ (List.Mem.head _))))))), (fun _ h => absurd h List.not_mem_nil)⟩)⟩)⟩)⟩)⟩)⟩) ?_
          have fig8_64 : ((0 : Int) ≤ (ig8 64).toInt) ∧ ((ig8 64).toInt ≤ 8) := hJ12.I.1 64
          have efig8_64 : (ig8 64).toInt = (i3 64).toInt := kg8.ti 64 rfl
          exact ih3 _ _ _ _ _ _ hJ12 (oz14 p3_0 s13 kn1) (kj_meas (oz308 efig8_64 s13 kn1) (oz45 c6) hm3)
  exact lp3 _ _ _ _ _ _ _ (kG_self _ hGg2.I hGg2.R) (oz46 kn0) (Nat.lt_succ_self _)
def w92_0 : kW := ([645, 3138, 3142, 3200, 3206, 3207, 3208, 3209, 3214, 3215, 3216, 3586, 3781, 6405], [13, 51, 52, 53, 54, 55, 57, 58, 62, 63, 65, 66, 67, 68, 69, 70, 71, 72, 73, 74, 103], [], [1])
set_option maxRecDepth 100000 in
theorem kc92_0 {i : Nat → Int32} {a : Nat → List Int32} {q : Nat → List Int64} {r : Nat → Nat} (hI : kI i a q) (hr : kr r) (x1 : Int32) (x2 : Int32) (x3 : Int32) (x4 : Int32) : km 13 92 [.ref 0, .int x1, .int x2, .int x3, .int x4] (ks i a q r) (kVI w92_0 i a q r (fun v i1 a1 q1 r1 => True)) := by
  have hG := kG_self w92_0 hI hr
  refine km_ofI (q := (mi_h92, mi_c92)) rfl (by decide) (Nat.le_of_ble_eq_true rfl) ?_
  intro P hP
  refine ko_steps mi_in92 1 _ (1, [(0, .ref 0), (1, .int x1), (2, .int x2), (3, .int x3), (4, .int x4)], [.int x2], (0, 0), ks i a q r) (by rfl) ?_
  refine ko_if mi_in92 (decide (x2 < 0)) 22 4 ([(0, .ref 0), (1, .int x1), (2, .int x2), (3, .int x3), (4, .int x4)], [], (0, 0), ks i a q r) (by rfl) (fun c => ?_) (fun c => ?_)
  ·
    have c1 : x2.toInt < (0 : Int32).toInt := kd_lt c; clear c
    refine ko_steps mi_in92 1 _ (23, [(0, .ref 0), (1, .int x1), (2, .int x2), (3, .int x3), (4, .int x4)], [.int (-1)], (0, 0), ks i a q r) (by rfl) ?_
    exact ko_ret mi_in92 (by rfl) (hP (-1) _ _ _ _ hG trivial)
  ·
    have c2 : (0 : Int32).toInt ≤ x2.toInt := kd_ltF c; clear c
    refine ko_steps mi_in92 2 _ (6, [(0, .ref 0), (1, .int x1), (2, .int x2), (3, .int x3), (4, .int x4)], [.int x3, .ref 0], (0, 0), ks i a q r) (by rfl) ?_
    refine ko_callPI mi_in92 (pc := 6) (ls := [(0, .ref 0), (1, .int x1), (2, .int x2), (3, .int x3), (4, .int x4)]) (st := [.int x3, .ref 0]) (h := ks i a q r) (i := (.invokevirtual 141, 3, 123, 0, 9, 0, 162)) (by rfl) (by rfl) (cy := mi_c123) rfl rfl (kc123_0 hG.I hG.R x3) (by decide) ?_
    intro vg3 hg3
    rcases hg3 with ⟨eg3, hg3⟩ | ⟨eg3, hg3⟩
    ·
      subst eg3
      have fi_64 : ((0 : Int) ≤ (i 64).toInt) ∧ ((i 64).toInt ≤ 8) := hG.I.1 64
      have z4 : ((0 : Int) ≤ x3.toInt) ∧ (x3.toInt < (i 64).toInt) := hg3
      refine ko_steps mi_in92 4 _ (16, [(0, .ref 0), (1, .int x1), (2, .int x2), (3, .int x3), (4, .int x4)], [.int 1, .int 0, .int x4], (0, 0), ks i a q r) (by rfl) ?_
      refine ko_callPI mi_in92 (pc := 16) (ls := [(0, .ref 0), (1, .int x1), (2, .int x2), (3, .int x3), (4, .int x4)]) (st := [.int 1, .int 0, .int x4]) (h := ks i a q r) (i := (.invokestatic 74, 3, 120, 0, 9, 0, 152)) (by rfl) (by rfl) (cy := mi_c120) rfl rfl (kc120 hG.I hG.R x4 0 1) (by decide) ?_
      intro vg5 hg5
      rcases hg5 with ⟨eg5, hg5⟩ | ⟨eg5, hg5⟩
      ·
        subst eg5
        have z6 : ((0 : Int32).toInt ≤ x4.toInt) ∧ (x4.toInt ≤ (1 : Int32).toInt) := hg5
        refine ko_steps mi_in92 3 _ (26, [(0, .ref 0), (1, .int x1), (2, .int x2), (3, .int x3), (4, .int x4)], [.int x1, .ref 0], (0, 0), ks i a q r) (by rfl) ?_
        refine ko_callI mi_in92 (pc := 26) (ls := [(0, .ref 0), (1, .int x1), (2, .int x2), (3, .int x3), (4, .int x4)]) (st := [.int x1, .ref 0]) (h := ks i a q r) (i := (.invokevirtual 144, 3, 129, 0, 9, 0, 208)) (by rfl) (by rfl) (cy := mi_c129) rfl rfl (kc129_0 hG.I hG.R x1) (by decide) ?_
        intro vg7 ig7 ag7 qg7 rg7 kg7 hg7
        have hGg7 := kG_call hG kg7 (by decide +kernel)
        have z8 : (vg7.toInt < 0) ∨ (vg7.toInt = 0) := hg7
        refine ko_steps mi_in92 2 _ (33, [(5, .int vg7), (0, .ref 0), (1, .int x1), (2, .int x2), (3, .int x3), (4, .int x4)], [.int vg7], (0, 0), ks ig7 ag7 qg7 rg7) (by rfl) ?_
        refine ko_if mi_in92 (decide (0 ≤ vg7)) 39 36 ([(5, .int vg7), (0, .ref 0), (1, .int x1), (2, .int x2), (3, .int x3), (4, .int x4)], [], (0, 0), ks ig7 ag7 qg7 rg7) (by rfl) (fun c => ?_) (fun c => ?_)
        ·
          have c9 : (0 : Int32).toInt ≤ vg7.toInt := kd_le c; clear c
          have fig7_3138 : ((0 : Int) ≤ (ig7 3138).toInt) ∧ ((ig7 3138).toInt ≤ 20) := hGg7.I.1 3138
          refine ko_steps mi_in92 4 _ (47, [(5, .int vg7), (0, .ref 0), (1, .int x1), (2, .int x2), (3, .int x3), (4, .int x4)], [.int (ig7 3138), .int x2], (0, 0), ks ig7 ag7 qg7 rg7) (by rfl) ?_
          refine ko_if mi_in92 (decide (x2 ≤ (ig7 3138))) 52 50 ([(5, .int vg7), (0, .ref 0), (1, .int x1), (2, .int x2), (3, .int x3), (4, .int x4)], [], (0, 0), ks ig7 ag7 qg7 rg7) (by rfl) (fun c => ?_) (fun c => ?_)
          ·
            have c10 : x2.toInt ≤ (ig7 3138).toInt := kd_le c; clear c
            refine ko_steps mi_in92 4 _ (61, [(5, .int vg7), (0, .ref 0), (1, .int x1), (2, .int x2), (3, .int x3), (4, .int x4)], [.int 20, .int (ig7 3138)], (0, 0), ks ig7 ag7 qg7 rg7) (by rfl) ?_
            refine ko_if mi_in92 (decide ((ig7 3138) < 20)) 67 64 ([(5, .int vg7), (0, .ref 0), (1, .int x1), (2, .int x2), (3, .int x3), (4, .int x4)], [], (0, 0), ks ig7 ag7 qg7 rg7) (by rfl) (fun c => ?_) (fun c => ?_)
            ·
              have c11 : (ig7 3138).toInt < (20 : Int32).toInt := kd_lt c; clear c
              refine ko_steps mi_in92 6 _ (77, [(5, .int vg7), (0, .ref 0), (1, .int x1), (2, .int x2), (3, .int x3), (4, .int x4)], [.int x3, .int x2, .ref 1, .ref 49], (0, 0), ks ig7 ag7 qg7 rg7) (by rfl) ?_
              refine ko_callI mi_in92 (pc := 77) (ls := [(5, .int vg7), (0, .ref 0), (1, .int x1), (2, .int x2), (3, .int x3), (4, .int x4)]) (st := [.int x3, .int x2, .ref 1, .ref 49]) (h := ks ig7 ag7 qg7 rg7) (i := (.invokevirtual 181, 3, 67, 0, 9, 0, 243)) (by rfl) (by rfl) (cy := mi_c67) rfl rfl (kc67_49_1 hGg7.I hGg7.R x2 x3 (oz1069 c10 c11 c2 kn20 kn0)) (by decide) ?_
              intro vg12 ig12 ag12 qg12 rg12 kg12 hg12
              have hGg12 := kG_call hGg7 kg12 (by decide +kernel)
              refine ko_steps mi_in92 2 _ (84, [(6, .int vg12), (5, .int vg7), (0, .ref 0), (1, .int x1), (2, .int x2), (3, .int x3), (4, .int x4)], [.int x4], (0, 0), ks ig12 ag12 qg12 rg12) (by rfl) ?_
              refine ko_if mi_in92 (x4 != 0) 92 87 ([(6, .int vg12), (5, .int vg7), (0, .ref 0), (1, .int x1), (2, .int x2), (3, .int x3), (4, .int x4)], [], (0, 0), ks ig12 ag12 qg12 rg12) (by rfl) (fun c => ?_) (fun c => ?_)
              ·
                have c13 : x4.toInt ≠ (0 : Int32).toInt := kd_ne c; clear c
                refine ko_steps mi_in92 3 _ (99, [(6, .int vg12), (5, .int vg7), (0, .ref 0), (1, .int x1), (2, .int x2), (3, .int x3), (4, .int x4)], [.int (ig12 3142)], (0, 0), ks ig12 ag12 qg12 rg12) (by rfl) ?_
                exact ko_ret mi_in92 (by rfl) (hP (ig12 3142) _ _ _ _ hGg12 trivial)
              ·
                have c14 : x4.toInt = (0 : Int32).toInt := kd_neF c; clear c
                refine ko_steps mi_in92 2 _ (99, [(6, .int vg12), (5, .int vg7), (0, .ref 0), (1, .int x1), (2, .int x2), (3, .int x3), (4, .int x4)], [.int vg12], (0, 0), ks ig12 ag12 qg12 rg12) (by rfl) ?_
                exact ko_ret mi_in92 (by rfl) (hP vg12 _ _ _ _ hGg12 trivial)
            ·
              have c15 : (20 : Int32).toInt ≤ (ig7 3138).toInt := kd_ltF c; clear c
              refine ko_steps mi_in92 1 _ (66, [(5, .int vg7), (0, .ref 0), (1, .int x1), (2, .int x2), (3, .int x3), (4, .int x4)], [.int (-5)], (0, 0), ks ig7 ag7 qg7 rg7) (by rfl) ?_
              exact ko_ret mi_in92 (by rfl) (hP (-5) _ _ _ _ hGg7 trivial)
          ·
            have c16 : (ig7 3138).toInt < x2.toInt := kd_leF c; clear c
            refine ko_steps mi_in92 1 _ (51, [(5, .int vg7), (0, .ref 0), (1, .int x1), (2, .int x2), (3, .int x3), (4, .int x4)], [.int (-1)], (0, 0), ks ig7 ag7 qg7 rg7) (by rfl) ?_
            exact ko_ret mi_in92 (by rfl) (hP (-1) _ _ _ _ hGg7 trivial)
        ·
          have c17 : vg7.toInt < (0 : Int32).toInt := kd_leF c; clear c
          refine ko_steps mi_in92 1 _ (38, [(5, .int vg7), (0, .ref 0), (1, .int x1), (2, .int x2), (3, .int x3), (4, .int x4)], [.int vg7], (0, 0), ks ig7 ag7 qg7 rg7) (by rfl) ?_
          exact ko_ret mi_in92 (by rfl) (hP vg7 _ _ _ _ hGg7 trivial)
      ·
        subst eg5
        have z18 : ¬ (((0 : Int32).toInt ≤ x4.toInt) ∧ (x4.toInt ≤ (1 : Int32).toInt)) := hg5
        refine ko_steps mi_in92 2 _ (23, [(0, .ref 0), (1, .int x1), (2, .int x2), (3, .int x3), (4, .int x4)], [.int (-1)], (0, 0), ks i a q r) (by rfl) ?_
        exact ko_ret mi_in92 (by rfl) (hP (-1) _ _ _ _ hG trivial)
    ·
      subst eg3
      have fi_64 : ((0 : Int) ≤ (i 64).toInt) ∧ ((i 64).toInt ≤ 8) := hG.I.1 64
      have z19 : ¬ (((0 : Int) ≤ x3.toInt) ∧ (x3.toInt < (i 64).toInt)) := hg3
      refine ko_steps mi_in92 2 _ (23, [(0, .ref 0), (1, .int x1), (2, .int x2), (3, .int x3), (4, .int x4)], [.int (-1)], (0, 0), ks i a q r) (by rfl) ?_
      exact ko_ret mi_in92 (by rfl) (hP (-1) _ _ _ _ hG trivial)
def w68_49_1 : kW := ([645, 3142, 3200, 3206, 3207, 3208, 3209, 3214, 3215, 3216, 3586, 3781, 6405], [13, 51, 52, 53, 54, 55, 57, 58, 62, 63, 65, 66, 67, 68, 69, 70, 71, 72, 73, 74, 103], [], [1])
def w68_49_1_L16 : kW := ([645, 3142, 3200, 3206, 3207, 3208, 3209, 3214, 3215, 3216, 3586, 3781, 6405], [13, 51, 52, 53, 54, 55, 57, 58, 62, 63, 65, 66, 67, 68, 69, 70, 71, 72, 73, 74, 103], [], [1])
set_option maxRecDepth 100000 in
theorem kc68_49_1 {i : Nat → Int32} {a : Nat → List Int32} {q : Nat → List Int64} {r : Nat → Nat} (hI : kI i a q) (hr : kr r) (x2 : Int32) : km 11 68 [.ref 49, .ref 1, .int x2] (ks i a q r) (kVI w68_49_1 i a q r (fun v i1 a1 q1 r1 => True)) := by
  have hG := kG_self w68_49_1 hI hr
  refine km_ofI (q := (mi_h68, mi_c68)) rfl (by decide) (Nat.le_of_ble_eq_true rfl) ?_
  intro P hP
  refine ko_steps mi_in68 6 _ (7, [(3, .int (-2)), (0, .ref 49), (1, .ref 1), (2, .int x2)], [.int x2, .ref 1, .ref 49, .ref 49], (0, 0), ks i a q r) (by rfl) ?_
  refine ko_callI mi_in68 (pc := 7) (ls := [(3, .int (-2)), (0, .ref 49), (1, .ref 1), (2, .int x2)]) (st := [.int x2, .ref 1, .ref 49, .ref 49]) (h := ks i a q r) (i := (.invokevirtual 99, 3, 63, 0, 9, 0, 239)) (by rfl) (by rfl) (cy := mi_c63) rfl rfl (kc63_49_1 hG.I hG.R x2) (by decide) ?_
  intro vg1 ig1 ag1 qg1 rg1 kg1 hg1
  have hGg1 := kG_call hG kg1 (by decide +kernel)
  have hJ2 := kG_i hGg1 3142 rfl (v := vg1) (kd_bd _)
  refine ko_steps mi_in68 3 _ (16, [(4, .int 0), (3, .int (-2)), (0, .ref 49), (1, .ref 1), (2, .int x2)], [], (0, 0), ks (ku ig1 3142 vg1) ag1 qg1 rg1) (by rfl) ?_
  have lp3 : ∀ (n : Nat) (i3 : Nat → Int32) (a3 : Nat → List Int32) (q3 : Nat → List Int64) (r3 : Nat → Nat) (l4_3 : Int32) (l3_3 : Int32), kG w68_49_1_L16 (ku ig1 3142 vg1) ag1 qg1 rg1 i3 a3 q3 r3 → ((0 : Int) ≤ l4_3.toInt) ∧ (l4_3.toInt ≤ 20) → (((i3 3138).toInt - l4_3.toInt)).toNat < n → ko 11 (mi_h68, mi_c68) P (16, [(4, .int l4_3), (3, .int l3_3), (0, .ref 49), (1, .ref 1), (2, .int x2)], [], (0, 0), ks i3 a3 q3 r3) := by
    intro n
    induction n with
    | zero =>
      intro _ _ _ _ _ _ _ _ hm
      exact absurd hm (Nat.not_lt_zero _)
    | succ n ih3 =>
      intro i3 a3 q3 r3 l4_3 l3_3 hL3 p3_0 hm3
      have fi3_3138 : ((0 : Int) ≤ (i3 3138).toInt) ∧ ((i3 3138).toInt ≤ 20) := hL3.I.1 3138
      have fig1_3138 : ((0 : Int) ≤ (ig1 3138).toInt) ∧ ((ig1 3138).toInt ≤ 20) := hJ2.I.1 3138
      have fi_3138 : ((0 : Int) ≤ (i 3138).toInt) ∧ ((i 3138).toInt ≤ 20) := hG.I.1 3138
      have efig1_3138 : (ig1 3138).toInt = (i 3138).toInt := kg1.ti 3138 rfl
      have efi3_3138 : (i3 3138).toInt = (ig1 3138).toInt := hL3.ti 3138 rfl
      have s4 : (l4_3 + 1).toInt = l4_3.toInt + (1 : Int32).toInt := kd_add (oz12 p3_0.1 kn1) (oz448 p3_0.2 kn1)
      refine ko_steps mi_in68 5 _ (24, [(4, .int l4_3), (3, .int l3_3), (0, .ref 49), (1, .ref 1), (2, .int x2)], [.int (i3 3138), .int (l4_3 + 1)], (0, 0), ks i3 a3 q3 r3) (by rfl) ?_
      refine ko_if mi_in68 (decide ((i3 3138) ≤ (l4_3 + 1))) 79 27 ([(4, .int l4_3), (3, .int l3_3), (0, .ref 49), (1, .ref 1), (2, .int x2)], [], (0, 0), ks i3 a3 q3 r3) (by rfl) (fun c => ?_) (fun c => ?_)
      ·
        have c5 : (i3 3138).toInt ≤ (l4_3 + 1).toInt := kd_le c; clear c
        have hG6 := kG_call hJ2 hL3 (by decide +kernel)
        refine ko_steps mi_in68 1 _ (80, [(4, .int l4_3), (3, .int l3_3), (0, .ref 49), (1, .ref 1), (2, .int x2)], [.int l3_3], (0, 0), ks i3 a3 q3 r3) (by rfl) ?_
        exact ko_ret mi_in68 (by rfl) (hP l3_3 _ _ _ _ hG6 trivial)
      ·
        have c7 : (l4_3 + 1).toInt < (i3 3138).toInt := kd_leF c; clear c
        refine ko_steps mi_in68 5 _ (34, [(4, .int l4_3), (3, .int l3_3), (0, .ref 49), (1, .ref 1), (2, .int x2)], [.int (l4_3 + 1), .int l4_3, .ref 49], (0, 0), ks i3 a3 q3 r3) (by rfl) ?_
        refine ko_callN mi_in68 (pc := 34) (ls := [(4, .int l4_3), (3, .int l3_3), (0, .ref 49), (1, .ref 1), (2, .int x2)]) (st := [.int (l4_3 + 1), .int l4_3, .ref 49]) (h := ks i3 a3 q3 r3) (i := (.invokevirtual 103, 3, 64, 0, 9, 0, 241)) (by rfl) (by rfl) (cy := mi_c64) rfl rfl (kc64_49 hL3.I hL3.R l4_3 (l4_3 + 1) (oz1070 c7 fi3_3138.2 p3_0.1 s4 kn1) (oz1067 c7 fi3_3138.2 p3_0.1 s4 kn1)) (by decide) ?_
        intro ig8 ag8 qg8 rg8 kg8 hg8
        have hGg8 := kG_call hL3 kg8 (by decide +kernel)
        refine ko_steps mi_in68 3 _ (40, [(4, .int l4_3), (3, .int l3_3), (0, .ref 49), (1, .ref 1), (2, .int x2)], [.int x2, .ref 1, .ref 49], (0, 0), ks ig8 ag8 qg8 rg8) (by rfl) ?_
        refine ko_callI mi_in68 (pc := 40) (ls := [(4, .int l4_3), (3, .int l3_3), (0, .ref 49), (1, .ref 1), (2, .int x2)]) (st := [.int x2, .ref 1, .ref 49]) (h := ks ig8 ag8 qg8 rg8) (i := (.invokevirtual 99, 3, 63, 0, 9, 0, 239)) (by rfl) (by rfl) (cy := mi_c63) rfl rfl (kc63_49_1 hGg8.I hGg8.R x2) (by decide) ?_
        intro vg9 ig9 ag9 qg9 rg9 kg9 hg9
        have hGg9 := kG_call hGg8 kg9 (by decide +kernel)
        refine ko_steps mi_in68 6 _ (52, [(5, .int vg9), (4, .int l4_3), (3, .int l3_3), (0, .ref 49), (1, .ref 1), (2, .int x2)], [.int (l4_3 + 1), .int l4_3, .ref 49], (0, 0), ks ig9 ag9 qg9 rg9) (by rfl) ?_
        refine ko_callN mi_in68 (pc := 52) (ls := [(5, .int vg9), (4, .int l4_3), (3, .int l3_3), (0, .ref 49), (1, .ref 1), (2, .int x2)]) (st := [.int (l4_3 + 1), .int l4_3, .ref 49]) (h := ks ig9 ag9 qg9 rg9) (i := (.invokevirtual 103, 3, 64, 0, 9, 0, 241)) (by rfl) (by rfl) (cy := mi_c64) rfl rfl (kc64_49 hGg9.I hGg9.R l4_3 (l4_3 + 1) (oz1070 c7 fi3_3138.2 p3_0.1 s4 kn1) (oz1067 c7 fi3_3138.2 p3_0.1 s4 kn1)) (by decide) ?_
        intro ig10 ag10 qg10 rg10 kg10 hg10
        have hGg10 := kG_call hGg9 kg10 (by decide +kernel)
        have efig8_3142 : (ig8 3142).toInt = (i3 3142).toInt := kg8.ti 3142 rfl
        have efig9_3142 : (ig9 3142).toInt = (ig8 3142).toInt := kg9.ti 3142 rfl
        have efig10_3142 : (ig10 3142).toInt = (ig9 3142).toInt := kg10.ti 3142 rfl
        refine ko_steps mi_in68 3 _ (61, [(5, .int vg9), (4, .int l4_3), (3, .int l3_3), (0, .ref 49), (1, .ref 1), (2, .int x2)], [.int (ig10 3142), .int vg9], (0, 0), ks ig10 ag10 qg10 rg10) (by rfl) ?_
        refine ko_if mi_in68 (decide (vg9 ≤ (ig10 3142))) 73 64 ([(5, .int vg9), (4, .int l4_3), (3, .int l3_3), (0, .ref 49), (1, .ref 1), (2, .int x2)], [], (0, 0), ks ig10 ag10 qg10 rg10) (by rfl) (fun c => ?_) (fun c => ?_)
        ·
          have c11 : vg9.toInt ≤ (ig10 3142).toInt := kd_le c; clear c
          refine ko_steps mi_in68 2 _ (16, [(4, .int (l4_3 + 1)), (5, .int vg9), (3, .int l3_3), (0, .ref 49), (1, .ref 1), (2, .int x2)], [], (0, 0), ks ig10 ag10 qg10 rg10) (by rfl) ?_
          refine ko_perm [(4, .int (l4_3 + 1)), (3, .int l3_3), (0, .ref 49), (1, .ref 1), (2, .int x2)] (List.forall_mem_cons.mpr ⟨(List.Mem.head _), (List.forall_mem_cons.mpr ⟨(List.Mem.tail _ (List.Mem.tail _ (List.Mem.head _))), (List.forall_mem_cons.mpr ⟨(List.Mem.tail _ (List.Mem.tail _ (List.Mem.tail _ (List.Mem.head _)))), (List.forall_mem_cons.mpr ⟨(List.Mem.tail _ (List.Mem.tail _ (List.Mem.tail _ (List.Mem.tail _ (List.Mem.head _))))), (List.forall_mem_cons.mpr ⟨(List.Mem.tail _ (List.Mem.tail _ (List.Mem.tail _ (List.Mem.tail _ (List.Mem.tail _ (List.Mem.head _)))))), (fun _ h => absurd h List.not_mem_nil)⟩)⟩)⟩)⟩)⟩) ?_
          have fig10_3138 : ((0 : Int) ≤ (ig10 3138).toInt) ∧ ((ig10 3138).toInt ≤ 20) := hGg10.I.1 3138
          have fig9_3138 : ((0 : Int) ≤ (ig9 3138).toInt) ∧ ((ig9 3138).toInt ≤ 20) := hGg9.I.1 3138
          have fig8_3138 : ((0 : Int) ≤ (ig8 3138).toInt) ∧ ((ig8 3138).toInt ≤ 20) := hGg8.I.1 3138
          have efig8_3138 : (ig8 3138).toInt = (i3 3138).toInt := kg8.ti 3138 rfl
          have efig9_3138 : (ig9 3138).toInt = (ig8 3138).toInt := kg9.ti 3138 rfl
          have efig10_3138 : (ig10 3138).toInt = (ig9 3138).toInt := kg10.ti 3138 rfl
          exact ih3 _ _ _ _ _ _ hGg10 (oz1071 c7 fi3_3138.2 p3_0.1 s4 kn1) (kj_meas (oz933 efig10_3138 efig8_3138 efig9_3138 s4 kn1) (oz455 c7 s4 kn1) hm3)
        ·
          have c12 : (ig10 3142).toInt < vg9.toInt := kd_leF c; clear c
          have hJ13 := kG_i hGg10 3142 rfl (v := vg9) (kd_bd _)
          refine ko_steps mi_in68 7 _ (16, [(4, .int (l4_3 + 1)), (3, .int l4_3), (5, .int vg9), (0, .ref 49), (1, .ref 1), (2, .int x2)], [], (0, 0), ks (ku ig10 3142 vg9) ag10 qg10 rg10) (by rfl) ?_
          refine ko_perm [(4, .int (l4_3 + 1)), (3, .int l4_3), (0, .ref 49), (1, .ref 1), (2, .int x2)] (List.forall_mem_cons.mpr ⟨(List.Mem.head _), (List.forall_mem_cons.mpr ⟨(List.Mem.tail _ (List.Mem.head _)), (List.forall_mem_cons.mpr ⟨(List.Mem.tail _ (List.Mem.tail _ (List.Mem.tail _ (List.Mem.head _)))), (List.forall_mem_cons.mpr ⟨(List.Mem.tail _ (List.Mem.tail _ (List.Mem.tail _ (List.Mem.tail _ (List.Mem.head _))))), (List.forall_mem_cons.mpr ⟨(List.Mem.tail _ (List.Mem.tail _ (List.Mem.tail _ (List.Mem.tail _ (List.Mem.tail _ (List.Mem.head _)))))), (fun _ h => absurd h List.not_mem_nil)⟩)⟩)⟩)⟩)⟩) ?_
          have fig10_3138 : ((0 : Int) ≤ (ig10 3138).toInt) ∧ ((ig10 3138).toInt ≤ 20) := hJ13.I.1 3138
          have fig9_3138 : ((0 : Int) ≤ (ig9 3138).toInt) ∧ ((ig9 3138).toInt ≤ 20) := hGg9.I.1 3138
          have fig8_3138 : ((0 : Int) ≤ (ig8 3138).toInt) ∧ ((ig8 3138).toInt ≤ 20) := hGg8.I.1 3138
          have efig8_3138 : (ig8 3138).toInt = (i3 3138).toInt := kg8.ti 3138 rfl
          have efig9_3138 : (ig9 3138).toInt = (ig8 3138).toInt := kg9.ti 3138 rfl
          have efig10_3138 : (ig10 3138).toInt = (ig9 3138).toInt := kg10.ti 3138 rfl
          exact ih3 _ _ _ _ _ _ hJ13 (oz1071 c7 fi3_3138.2 p3_0.1 s4 kn1) (kj_meas (oz933 efig10_3138 efig8_3138 efig9_3138 s4 kn1) (oz455 c7 s4 kn1) hm3)
  exact lp3 _ _ _ _ _ _ _ (kG_self _ hJ2.I hJ2.R) (oz456 kn0) (Nat.lt_succ_self _)
def w93_0 : kW := ([645, 3138, 3142, 3200, 3206, 3207, 3208, 3209, 3214, 3215, 3216, 3586, 3781, 6405], [13, 51, 52, 53, 54, 55, 57, 58, 62, 63, 65, 66, 67, 68, 69, 70, 71, 72, 73, 74, 103], [], [1])
set_option maxRecDepth 100000 in
theorem kc93_0 {i : Nat → Int32} {a : Nat → List Int32} {q : Nat → List Int64} {r : Nat → Nat} (hI : kI i a q) (hr : kr r) (x1 : Int32) (x2 : Int32) (x3 : Int32) : km 13 93 [.ref 0, .int x1, .int x2, .int x3] (ks i a q r) (kVI w93_0 i a q r (fun v i1 a1 q1 r1 => True)) := by
  have hG := kG_self w93_0 hI hr
  refine km_ofI (q := (mi_h93, mi_c93)) rfl (by decide) (Nat.le_of_ble_eq_true rfl) ?_
  intro P hP
  refine ko_steps mi_in93 2 _ (2, [(0, .ref 0), (1, .int x1), (2, .int x2), (3, .int x3)], [.int x2, .ref 0], (0, 0), ks i a q r) (by rfl) ?_
  refine ko_callPI mi_in93 (pc := 2) (ls := [(0, .ref 0), (1, .int x1), (2, .int x2), (3, .int x3)]) (st := [.int x2, .ref 0]) (h := ks i a q r) (i := (.invokevirtual 141, 3, 123, 0, 9, 0, 162)) (by rfl) (by rfl) (cy := mi_c123) rfl rfl (kc123_0 hG.I hG.R x2) (by decide) ?_
  intro vg1 hg1
  rcases hg1 with ⟨eg1, hg1⟩ | ⟨eg1, hg1⟩
  ·
    subst eg1
    have fi_64 : ((0 : Int) ≤ (i 64).toInt) ∧ ((i 64).toInt ≤ 8) := hG.I.1 64
    have z2 : ((0 : Int) ≤ x2.toInt) ∧ (x2.toInt < (i 64).toInt) := hg1
    refine ko_steps mi_in93 4 _ (11, [(0, .ref 0), (1, .int x1), (2, .int x2), (3, .int x3)], [.int 1, .int 0, .int x3], (0, 0), ks i a q r) (by rfl) ?_
    refine ko_callPI mi_in93 (pc := 11) (ls := [(0, .ref 0), (1, .int x1), (2, .int x2), (3, .int x3)]) (st := [.int 1, .int 0, .int x3]) (h := ks i a q r) (i := (.invokestatic 74, 3, 120, 0, 9, 0, 152)) (by rfl) (by rfl) (cy := mi_c120) rfl rfl (kc120 hG.I hG.R x3 0 1) (by decide) ?_
    intro vg3 hg3
    rcases hg3 with ⟨eg3, hg3⟩ | ⟨eg3, hg3⟩
    ·
      subst eg3
      have z4 : ((0 : Int32).toInt ≤ x3.toInt) ∧ (x3.toInt ≤ (1 : Int32).toInt) := hg3
      refine ko_steps mi_in93 3 _ (21, [(0, .ref 0), (1, .int x1), (2, .int x2), (3, .int x3)], [.int x1, .ref 0], (0, 0), ks i a q r) (by rfl) ?_
      refine ko_callI mi_in93 (pc := 21) (ls := [(0, .ref 0), (1, .int x1), (2, .int x2), (3, .int x3)]) (st := [.int x1, .ref 0]) (h := ks i a q r) (i := (.invokevirtual 144, 3, 129, 0, 9, 0, 208)) (by rfl) (by rfl) (cy := mi_c129) rfl rfl (kc129_0 hG.I hG.R x1) (by decide) ?_
      intro vg5 ig5 ag5 qg5 rg5 kg5 hg5
      have hGg5 := kG_call hG kg5 (by decide +kernel)
      have z6 : (vg5.toInt < 0) ∨ (vg5.toInt = 0) := hg5
      refine ko_steps mi_in93 2 _ (28, [(4, .int vg5), (0, .ref 0), (1, .int x1), (2, .int x2), (3, .int x3)], [.int vg5], (0, 0), ks ig5 ag5 qg5 rg5) (by rfl) ?_
      refine ko_if mi_in93 (decide (0 ≤ vg5)) 34 31 ([(4, .int vg5), (0, .ref 0), (1, .int x1), (2, .int x2), (3, .int x3)], [], (0, 0), ks ig5 ag5 qg5 rg5) (by rfl) (fun c => ?_) (fun c => ?_)
      ·
        have c7 : (0 : Int32).toInt ≤ vg5.toInt := kd_le c; clear c
        refine ko_steps mi_in93 5 _ (43, [(4, .int vg5), (0, .ref 0), (1, .int x1), (2, .int x2), (3, .int x3)], [.int x2, .ref 1, .ref 49], (0, 0), ks ig5 ag5 qg5 rg5) (by rfl) ?_
        refine ko_callI mi_in93 (pc := 43) (ls := [(4, .int vg5), (0, .ref 0), (1, .int x1), (2, .int x2), (3, .int x3)]) (st := [.int x2, .ref 1, .ref 49]) (h := ks ig5 ag5 qg5 rg5) (i := (.invokevirtual 185, 3, 68, 0, 9, 0, 245)) (by rfl) (by rfl) (cy := mi_c68) rfl rfl (kc68_49_1 hGg5.I hGg5.R x2) (by decide) ?_
        intro vg8 ig8 ag8 qg8 rg8 kg8 hg8
        have hGg8 := kG_call hGg5 kg8 (by decide +kernel)
        refine ko_steps mi_in93 2 _ (49, [(5, .int vg8), (4, .int vg5), (0, .ref 0), (1, .int x1), (2, .int x2), (3, .int x3)], [.int x3], (0, 0), ks ig8 ag8 qg8 rg8) (by rfl) ?_
        refine ko_if mi_in93 (x3 != 0) 57 52 ([(5, .int vg8), (4, .int vg5), (0, .ref 0), (1, .int x1), (2, .int x2), (3, .int x3)], [], (0, 0), ks ig8 ag8 qg8 rg8) (by rfl) (fun c => ?_) (fun c => ?_)
        ·
          have c9 : x3.toInt ≠ (0 : Int32).toInt := kd_ne c; clear c
          refine ko_steps mi_in93 3 _ (64, [(5, .int vg8), (4, .int vg5), (0, .ref 0), (1, .int x1), (2, .int x2), (3, .int x3)], [.int (ig8 3142)], (0, 0), ks ig8 ag8 qg8 rg8) (by rfl) ?_
          exact ko_ret mi_in93 (by rfl) (hP (ig8 3142) _ _ _ _ hGg8 trivial)
        ·
          have c10 : x3.toInt = (0 : Int32).toInt := kd_neF c; clear c
          refine ko_steps mi_in93 2 _ (64, [(5, .int vg8), (4, .int vg5), (0, .ref 0), (1, .int x1), (2, .int x2), (3, .int x3)], [.int vg8], (0, 0), ks ig8 ag8 qg8 rg8) (by rfl) ?_
          exact ko_ret mi_in93 (by rfl) (hP vg8 _ _ _ _ hGg8 trivial)
      ·
        have c11 : vg5.toInt < (0 : Int32).toInt := kd_leF c; clear c
        refine ko_steps mi_in93 1 _ (33, [(4, .int vg5), (0, .ref 0), (1, .int x1), (2, .int x2), (3, .int x3)], [.int vg5], (0, 0), ks ig5 ag5 qg5 rg5) (by rfl) ?_
        exact ko_ret mi_in93 (by rfl) (hP vg5 _ _ _ _ hGg5 trivial)
    ·
      subst eg3
      have z12 : ¬ (((0 : Int32).toInt ≤ x3.toInt) ∧ (x3.toInt ≤ (1 : Int32).toInt)) := hg3
      refine ko_steps mi_in93 2 _ (18, [(0, .ref 0), (1, .int x1), (2, .int x2), (3, .int x3)], [.int (-1)], (0, 0), ks i a q r) (by rfl) ?_
      exact ko_ret mi_in93 (by rfl) (hP (-1) _ _ _ _ hG trivial)
  ·
    subst eg1
    have fi_64 : ((0 : Int) ≤ (i 64).toInt) ∧ ((i 64).toInt ≤ 8) := hG.I.1 64
    have z13 : ¬ (((0 : Int) ≤ x2.toInt) ∧ (x2.toInt < (i 64).toInt)) := hg1
    refine ko_steps mi_in93 2 _ (18, [(0, .ref 0), (1, .int x1), (2, .int x2), (3, .int x3)], [.int (-1)], (0, 0), ks i a q r) (by rfl) ?_
    exact ko_ret mi_in93 (by rfl) (hP (-1) _ _ _ _ hG trivial)
def w70_49 : kW := ([], [74], [], [])
def w70_49_L91 : kW := ([], [74], [], [])
set_option maxRecDepth 100000 in
theorem kc70_49 {i : Nat → Int32} {a : Nat → List Int32} {q : Nat → List Int64} {r : Nat → Nat} (hI : kI i a q) (hr : kr r) (hp0 : (i 3138).toInt ≤ 5) : km 3 70 [.ref 49] (ks i a q r) (kVI w70_49 i a q r (fun v i1 a1 q1 r1 => (v = 1 ∧ (True)) ∨ (v = 0 ∧ (True)))) := by
  have hG := kG_self w70_49 hI hr
  refine km_ofI (q := (mi_h70, mi_c70)) rfl (by decide) (Nat.le_of_ble_eq_true rfl) ?_
  intro P hP
  have fi_3138 : ((0 : Int) ≤ (i 3138).toInt) ∧ ((i 3138).toInt ≤ 20) := hG.I.1 3138
  have s1 : ((i 3138) - 2).toInt = (i 3138).toInt - (2 : Int32).toInt := kd_sub (oz1072 fi_3138.1 kn2) (oz1073 fi_3138.2 kn2)
  refine ko_steps mi_in70 5 _ (7, [(1, .int ((i 3138) - 2)), (0, .ref 49)], [], (0, 0), ks i a q r) (by rfl) ?_
  have lp2 : ∀ (n : Nat) (l1_2 : Int32), l1_2.toInt ≤ ((i 3138).toInt - 2) → ((l1_2.toInt + 1)).toNat < n → ko 3 (mi_h70, mi_c70) P (7, [(1, .int l1_2), (0, .ref 49)], [], (0, 0), ks i a q r) := by
    intro n
    induction n with
    | zero =>
      intro _ _ hm
      exact absurd hm (Nat.not_lt_zero _)
    | succ n ih2 =>
      intro l1_2 p2_0 hm2
      refine ko_steps mi_in70 1 _ (8, [(1, .int l1_2), (0, .ref 49)], [.int l1_2], (0, 0), ks i a q r) (by rfl) ?_
      refine ko_if mi_in70 (decide (l1_2 < 0)) 34 11 ([(1, .int l1_2), (0, .ref 49)], [], (0, 0), ks i a q r) (by rfl) (fun c => ?_) (fun c => ?_)
      ·
        have c3 : l1_2.toInt < (0 : Int32).toInt := kd_lt c; clear c
        refine ko_steps mi_in70 1 _ (35, [(1, .int l1_2), (0, .ref 49)], [.int l1_2], (0, 0), ks i a q r) (by rfl) ?_
        refine ko_if mi_in70 (decide (0 ≤ l1_2)) 40 38 ([(1, .int l1_2), (0, .ref 49)], [], (0, 0), ks i a q r) (by rfl) (fun c => ?_) (fun c => ?_)
        ·
          have c4 : (0 : Int32).toInt ≤ l1_2.toInt := kd_le c; clear c
          exact (oz1074 c3 c4 kn0).elim
        ·
          have c5 : l1_2.toInt < (0 : Int32).toInt := kd_leF c; clear c
          refine ko_steps mi_in70 1 _ (39, [(1, .int l1_2), (0, .ref 49)], [.int 0], (0, 0), ks i a q r) (by rfl) ?_
          exact ko_ret mi_in70 (by rfl) (hP 0 _ _ _ _ hG (Or.inr ⟨rfl, trivial⟩))
      ·
        have c6 : (0 : Int32).toInt ≤ l1_2.toInt := kd_ltF c; clear c
        refine ko_steps mi_in70 3 _ (16, [(1, .int l1_2), (0, .ref 49)], [.int l1_2, .ref 74], (0, 0), ks i a q r) (by rfl) ?_
        refine ko_iald3 mi_in70 (n := 20) (c := 20) (ax := (0, 0, 0, 0, 0)) (by rfl) (by rfl) (ksG74 _ _ _ _) (hG.I.2.1 74) rfl (oz389 c6 kn0) (oz1075 fi_3138.2 p2_0) ?_
        have s7 : (l1_2 + 1).toInt = l1_2.toInt + (1 : Int32).toInt := kd_add (oz950 c6 kn0 kn1) (oz1076 fi_3138.2 p2_0 kn1)
        refine ko_steps mi_in70 5 _ (24, [(1, .int l1_2), (0, .ref 49)], [.int (l1_2 + 1), .ref 74, .int ((a 74).getD l1_2.toNatClampNeg 0)], (0, 0), ks i a q r) (by rfl) ?_
        refine ko_iald3 mi_in70 (n := 20) (c := 20) (ax := (0, 0, 0, 0, 0)) (by rfl) (by rfl) (ksG74 _ _ _ _) (hG.I.2.1 74) rfl (oz952 c6 s7 kn0 kn1) (oz1077 fi_3138.2 p2_0 s7 kn1) ?_
        refine ko_if mi_in70 (decide (((a 74).getD l1_2.toNatClampNeg 0) < ((a 74).getD (l1_2 + 1).toNatClampNeg 0))) 34 28 ([(1, .int l1_2), (0, .ref 49)], [], (0, 0), ks i a q r) (by rfl) (fun c => ?_) (fun c => ?_)
        ·
          have c8 : ((a 74).getD l1_2.toNatClampNeg 0).toInt < ((a 74).getD (l1_2 + 1).toNatClampNeg 0).toInt := kd_lt c; clear c
          refine ko_steps mi_in70 1 _ (35, [(1, .int l1_2), (0, .ref 49)], [.int l1_2], (0, 0), ks i a q r) (by rfl) ?_
          refine ko_if mi_in70 (decide (0 ≤ l1_2)) 40 38 ([(1, .int l1_2), (0, .ref 49)], [], (0, 0), ks i a q r) (by rfl) (fun c => ?_) (fun c => ?_)
          ·
            have c9 : (0 : Int32).toInt ≤ l1_2.toInt := kd_le c; clear c
            have s10 : ((i 3138) - 1).toInt = (i 3138).toInt - (1 : Int32).toInt := kd_sub (oz47 fi_3138.1 kn1) (oz1078 fi_3138.2 kn1)
            refine ko_steps mi_in70 5 _ (47, [(2, .int ((i 3138) - 1)), (1, .int l1_2), (0, .ref 49)], [], (0, 0), ks i a q r) (by rfl) ?_
            have lp11 : ∀ (n : Nat) (l2_11 : Int32), ((0 : Int) ≤ l1_2.toInt) ∧ (l1_2.toInt ≤ l2_11.toInt) → l2_11.toInt ≤ ((i 3138).toInt - 1) → ((l2_11.toInt - l1_2.toInt)).toNat < n → ko 3 (mi_h70, mi_c70) P (47, [(2, .int l2_11), (1, .int l1_2), (0, .ref 49)], [], (0, 0), ks i a q r) := by
              intro n
              induction n with
              | zero =>
                intro _ _ _ hm
                exact absurd hm (Nat.not_lt_zero _)
              | succ n ih11 =>
                intro l2_11 p11_0 p11_1 hm11
                refine ko_steps mi_in70 2 _ (49, [(2, .int l2_11), (1, .int l1_2), (0, .ref 49)], [.int l1_2, .int l2_11], (0, 0), ks i a q r) (by rfl) ?_
                refine ko_if mi_in70 (decide (l2_11 ≤ l1_2)) 73 52 ([(2, .int l2_11), (1, .int l1_2), (0, .ref 49)], [], (0, 0), ks i a q r) (by rfl) (fun c => ?_) (fun c => ?_)
                ·
                  have c12 : l2_11.toInt ≤ l1_2.toInt := kd_le c; clear c
                  refine ko_steps mi_in70 3 _ (76, [(2, .int l2_11), (1, .int l1_2), (0, .ref 49)], [.int l2_11, .int l1_2, .ref 49], (0, 0), ks i a q r) (by rfl) ?_
                  refine ko_callN mi_in70 (pc := 76) (ls := [(2, .int l2_11), (1, .int l1_2), (0, .ref 49)]) (st := [.int l2_11, .int l1_2, .ref 49]) (h := ks i a q r) (i := (.invokevirtual 103, 3, 64, 0, 9, 0, 241)) (by rfl) (by rfl) (cy := mi_c64) rfl rfl (kc64_49 hG.I hG.R l1_2 l2_11 (oz1079 c6 fi_3138.2 p2_0 kn0) (oz1080 c12 c6 fi_3138.2 p11_0.2 p2_0 kn0)) (by decide) ?_
                  intro ig13 ag13 qg13 rg13 kg13 hg13
                  have hGg13 := kG_call hG kg13 (by decide +kernel)
                  have fig13_3138 : ((0 : Int) ≤ (ig13 3138).toInt) ∧ ((ig13 3138).toInt ≤ 20) := hGg13.I.1 3138
                  have efig13_3138 : (ig13 3138).toInt = (i 3138).toInt := kg13.ti 3138 rfl
                  have s14 : ((ig13 3138) - 1).toInt = (ig13 3138).toInt - (1 : Int32).toInt := kd_sub (oz47 fig13_3138.1 kn1) (oz1078 fig13_3138.2 kn1)
                  refine ko_steps mi_in70 9 _ (91, [(4, .int (l1_2 + 1)), (3, .int ((ig13 3138) - 1)), (2, .int l2_11), (1, .int l1_2), (0, .ref 49)], [], (0, 0), ks ig13 ag13 qg13 rg13) (by rfl) ?_
                  have lp15 : ∀ (n : Nat) (i15 : Nat → Int32) (a15 : Nat → List Int32) (q15 : Nat → List Int64) (r15 : Nat → Nat) (l4_15 : Int32) (l3_15 : Int32), kG w70_49_L91 ig13 ag13 qg13 rg13 i15 a15 q15 r15 → (1 : Int) ≤ l4_15.toInt → l3_15.toInt ≤ ((i15 3138).toInt - 1) → ((l3_15.toInt - l4_15.toInt)).toNat < n → ko 3 (mi_h70, mi_c70) P (91, [(4, .int l4_15), (3, .int l3_15), (2, .int l2_11), (1, .int l1_2), (0, .ref 49)], [], (0, 0), ks i15 a15 q15 r15) := by
                    intro n
                    induction n with
                    | zero =>
                      intro _ _ _ _ _ _ _ _ _ hm
                      exact absurd hm (Nat.not_lt_zero _)
                    | succ n ih15 =>
                      intro i15 a15 q15 r15 l4_15 l3_15 hL15 p15_0 p15_1 hm15
                      have fi15_3138 : ((0 : Int) ≤ (i15 3138).toInt) ∧ ((i15 3138).toInt ≤ 20) := hL15.I.1 3138
                      have efi15_3138 : (i15 3138).toInt = (ig13 3138).toInt := hL15.ti 3138 rfl
                      refine ko_steps mi_in70 2 _ (94, [(4, .int l4_15), (3, .int l3_15), (2, .int l2_11), (1, .int l1_2), (0, .ref 49)], [.int l3_15, .int l4_15], (0, 0), ks i15 a15 q15 r15) (by rfl) ?_
                      refine ko_if mi_in70 (decide (l3_15 ≤ l4_15)) 113 97 ([(4, .int l4_15), (3, .int l3_15), (2, .int l2_11), (1, .int l1_2), (0, .ref 49)], [], (0, 0), ks i15 a15 q15 r15) (by rfl) (fun c => ?_) (fun c => ?_)
                      ·
                        have c16 : l3_15.toInt ≤ l4_15.toInt := kd_le c; clear c
                        have hG17 := kG_call hGg13 hL15 (by decide +kernel)
                        refine ko_steps mi_in70 1 _ (114, [(4, .int l4_15), (3, .int l3_15), (2, .int l2_11), (1, .int l1_2), (0, .ref 49)], [.int 1], (0, 0), ks i15 a15 q15 r15) (by rfl) ?_
                        exact ko_ret mi_in70 (by rfl) (hP 1 _ _ _ _ hG17 (Or.inl ⟨rfl, trivial⟩))
                      ·
                        have c18 : l4_15.toInt < l3_15.toInt := kd_leF c; clear c
                        refine ko_steps mi_in70 3 _ (101, [(4, .int l4_15), (3, .int l3_15), (2, .int l2_11), (1, .int l1_2), (0, .ref 49)], [.int l3_15, .int l4_15, .ref 49], (0, 0), ks i15 a15 q15 r15) (by rfl) ?_
                        refine ko_callN mi_in70 (pc := 101) (ls := [(4, .int l4_15), (3, .int l3_15), (2, .int l2_11), (1, .int l1_2), (0, .ref 49)]) (st := [.int l3_15, .int l4_15, .ref 49]) (h := ks i15 a15 q15 r15) (i := (.invokevirtual 103, 3, 64, 0, 9, 0, 241)) (by rfl) (by rfl) (cy := mi_c64) rfl rfl (kc64_49 hL15.I hL15.R l4_15 l3_15 (oz1081 c18 fi15_3138.2 p15_0 p15_1) (oz1082 c18 fi15_3138.2 p15_0 p15_1)) (by decide) ?_
                        intro ig19 ag19 qg19 rg19 kg19 hg19
                        have hGg19 := kG_call hL15 kg19 (by decide +kernel)
                        have s20 : (l3_15 + (-1)).toInt = l3_15.toInt + ((-1) : Int32).toInt := kd_add (oz1083 c18 p15_0 knm1) (oz1084 fi15_3138.2 p15_1 knm1)
                        have s21 : (l4_15 + 1).toInt = l4_15.toInt + (1 : Int32).toInt := kd_add (oz491 p15_0 kn1) (oz1085 c18 fi15_3138.2 p15_1 kn1)
                        refine ko_steps mi_in70 3 _ (91, [(4, .int (l4_15 + 1)), (3, .int (l3_15 + (-1))), (2, .int l2_11), (1, .int l1_2), (0, .ref 49)], [], (0, 0), ks ig19 ag19 qg19 rg19) (by rfl) ?_
                        have fig19_3138 : ((0 : Int) ≤ (ig19 3138).toInt) ∧ ((ig19 3138).toInt ≤ 20) := hGg19.I.1 3138
                        have efig19_3138 : (ig19 3138).toInt = (i15 3138).toInt := kg19.ti 3138 rfl
                        exact ih15 _ _ _ _ _ _ hGg19 (oz492 p15_0 s21 kn1) (oz1086 efig19_3138 p15_1 s20 knm1) (kj_meas (oz1087 s20 s21 knm1 kn1) (oz45 c18) hm15)
                  exact lp15 _ _ _ _ _ _ _ (kG_self _ hGg13.I hGg13.R) (oz1088 c9 s7 kn0 kn1) (oz643 s14 kn1) (Nat.lt_succ_self _)
                ·
                  have c22 : l1_2.toInt < l2_11.toInt := kd_leF c; clear c
                  refine ko_steps mi_in70 3 _ (57, [(2, .int l2_11), (1, .int l1_2), (0, .ref 49)], [.int l2_11, .ref 74], (0, 0), ks i a q r) (by rfl) ?_
                  refine ko_iald3 mi_in70 (n := 20) (c := 20) (ax := (0, 0, 0, 0, 0)) (by rfl) (by rfl) (ksG74 _ _ _ _) (hG.I.2.1 74) rfl (oz1089 c22 c6 kn0) (oz1090 fi_3138.2 p11_1) ?_
                  refine ko_steps mi_in70 3 _ (63, [(2, .int l2_11), (1, .int l1_2), (0, .ref 49)], [.int l1_2, .ref 74, .int ((a 74).getD l2_11.toNatClampNeg 0)], (0, 0), ks i a q r) (by rfl) ?_
                  refine ko_iald3 mi_in70 (n := 20) (c := 20) (ax := (0, 0, 0, 0, 0)) (by rfl) (by rfl) (ksG74 _ _ _ _) (hG.I.2.1 74) rfl (oz389 c6 kn0) (oz1075 fi_3138.2 p2_0) ?_
                  refine ko_if mi_in70 (decide (((a 74).getD l1_2.toNatClampNeg 0) < ((a 74).getD l2_11.toNatClampNeg 0))) 73 67 ([(2, .int l2_11), (1, .int l1_2), (0, .ref 49)], [], (0, 0), ks i a q r) (by rfl) (fun c => ?_) (fun c => ?_)
                  ·
                    have c23 : ((a 74).getD l1_2.toNatClampNeg 0).toInt < ((a 74).getD l2_11.toNatClampNeg 0).toInt := kd_lt c; clear c
                    refine ko_steps mi_in70 3 _ (76, [(2, .int l2_11), (1, .int l1_2), (0, .ref 49)], [.int l2_11, .int l1_2, .ref 49], (0, 0), ks i a q r) (by rfl) ?_
                    refine ko_callN mi_in70 (pc := 76) (ls := [(2, .int l2_11), (1, .int l1_2), (0, .ref 49)]) (st := [.int l2_11, .int l1_2, .ref 49]) (h := ks i a q r) (i := (.invokevirtual 103, 3, 64, 0, 9, 0, 241)) (by rfl) (by rfl) (cy := mi_c64) rfl rfl (kc64_49 hG.I hG.R l1_2 l2_11 (oz1079 c6 fi_3138.2 p2_0 kn0) (oz1091 c22 c6 fi_3138.2 p11_1 kn0)) (by decide) ?_
                    intro ig24 ag24 qg24 rg24 kg24 hg24
                    have hGg24 := kG_call hG kg24 (by decide +kernel)
                    have fig24_3138 : ((0 : Int) ≤ (ig24 3138).toInt) ∧ ((ig24 3138).toInt ≤ 20) := hGg24.I.1 3138
                    have efig24_3138 : (ig24 3138).toInt = (i 3138).toInt := kg24.ti 3138 rfl
                    have s25 : ((ig24 3138) - 1).toInt = (ig24 3138).toInt - (1 : Int32).toInt := kd_sub (oz47 fig24_3138.1 kn1) (oz1078 fig24_3138.2 kn1)
                    refine ko_steps mi_in70 9 _ (91, [(4, .int (l1_2 + 1)), (3, .int ((ig24 3138) - 1)), (2, .int l2_11), (1, .int l1_2), (0, .ref 49)], [], (0, 0), ks ig24 ag24 qg24 rg24) (by rfl) ?_
                    have lp26 : ∀ (n : Nat) (i26 : Nat → Int32) (a26 : Nat → List Int32) (q26 : Nat → List Int64) (r26 : Nat → Nat) (l4_26 : Int32) (l3_26 : Int32), kG w70_49_L91 ig24 ag24 qg24 rg24 i26 a26 q26 r26 → (1 : Int) ≤ l4_26.toInt → l3_26.toInt ≤ ((i26 3138).toInt - 1) → ((l3_26.toInt - l4_26.toInt)).toNat < n → ko 3 (mi_h70, mi_c70) P (91, [(4, .int l4_26), (3, .int l3_26), (2, .int l2_11), (1, .int l1_2), (0, .ref 49)], [], (0, 0), ks i26 a26 q26 r26) := by
                      intro n
                      induction n with
                      | zero =>
                        intro _ _ _ _ _ _ _ _ _ hm
                        exact absurd hm (Nat.not_lt_zero _)
                      | succ n ih26 =>
                        intro i26 a26 q26 r26 l4_26 l3_26 hL26 p26_0 p26_1 hm26
                        have fi26_3138 : ((0 : Int) ≤ (i26 3138).toInt) ∧ ((i26 3138).toInt ≤ 20) := hL26.I.1 3138
                        have efi26_3138 : (i26 3138).toInt = (ig24 3138).toInt := hL26.ti 3138 rfl
                        refine ko_steps mi_in70 2 _ (94, [(4, .int l4_26), (3, .int l3_26), (2, .int l2_11), (1, .int l1_2), (0, .ref 49)], [.int l3_26, .int l4_26], (0, 0), ks i26 a26 q26 r26) (by rfl) ?_
                        refine ko_if mi_in70 (decide (l3_26 ≤ l4_26)) 113 97 ([(4, .int l4_26), (3, .int l3_26), (2, .int l2_11), (1, .int l1_2), (0, .ref 49)], [], (0, 0), ks i26 a26 q26 r26) (by rfl) (fun c => ?_) (fun c => ?_)
                        ·
                          have c27 : l3_26.toInt ≤ l4_26.toInt := kd_le c; clear c
                          have hG28 := kG_call hGg24 hL26 (by decide +kernel)
                          refine ko_steps mi_in70 1 _ (114, [(4, .int l4_26), (3, .int l3_26), (2, .int l2_11), (1, .int l1_2), (0, .ref 49)], [.int 1], (0, 0), ks i26 a26 q26 r26) (by rfl) ?_
                          exact ko_ret mi_in70 (by rfl) (hP 1 _ _ _ _ hG28 (Or.inl ⟨rfl, trivial⟩))
                        ·
                          have c29 : l4_26.toInt < l3_26.toInt := kd_leF c; clear c
                          refine ko_steps mi_in70 3 _ (101, [(4, .int l4_26), (3, .int l3_26), (2, .int l2_11), (1, .int l1_2), (0, .ref 49)], [.int l3_26, .int l4_26, .ref 49], (0, 0), ks i26 a26 q26 r26) (by rfl) ?_
                          refine ko_callN mi_in70 (pc := 101) (ls := [(4, .int l4_26), (3, .int l3_26), (2, .int l2_11), (1, .int l1_2), (0, .ref 49)]) (st := [.int l3_26, .int l4_26, .ref 49]) (h := ks i26 a26 q26 r26) (i := (.invokevirtual 103, 3, 64, 0, 9, 0, 241)) (by rfl) (by rfl) (cy := mi_c64) rfl rfl (kc64_49 hL26.I hL26.R l4_26 l3_26 (oz1081 c29 fi26_3138.2 p26_0 p26_1) (oz1082 c29 fi26_3138.2 p26_0 p26_1)) (by decide) ?_
                          intro ig30 ag30 qg30 rg30 kg30 hg30
                          have hGg30 := kG_call hL26 kg30 (by decide +kernel)
                          have s31 : (l3_26 + (-1)).toInt = l3_26.toInt + ((-1) : Int32).toInt := kd_add (oz1083 c29 p26_0 knm1) (oz1084 fi26_3138.2 p26_1 knm1)
                          have s32 : (l4_26 + 1).toInt = l4_26.toInt + (1 : Int32).toInt := kd_add (oz491 p26_0 kn1) (oz1085 c29 fi26_3138.2 p26_1 kn1)
                          refine ko_steps mi_in70 3 _ (91, [(4, .int (l4_26 + 1)), (3, .int (l3_26 + (-1))), (2, .int l2_11), (1, .int l1_2), (0, .ref 49)], [], (0, 0), ks ig30 ag30 qg30 rg30) (by rfl) ?_
                          have fig30_3138 : ((0 : Int) ≤ (ig30 3138).toInt) ∧ ((ig30 3138).toInt ≤ 20) := hGg30.I.1 3138
                          have efig30_3138 : (ig30 3138).toInt = (i26 3138).toInt := kg30.ti 3138 rfl
                          exact ih26 _ _ _ _ _ _ hGg30 (oz492 p26_0 s32 kn1) (oz1086 efig30_3138 p26_1 s31 knm1) (kj_meas (oz1087 s31 s32 knm1 kn1) (oz45 c29) hm26)
                    exact lp26 _ _ _ _ _ _ _ (kG_self _ hGg24.I hGg24.R) (oz1088 c9 s7 kn0 kn1) (oz643 s25 kn1) (Nat.lt_succ_self _)
                  ·
                    have c33 : ((a 74).getD l2_11.toNatClampNeg 0).toInt ≤ ((a 74).getD l1_2.toNatClampNeg 0).toInt := kd_ltF c; clear c
                    have s34 : (l2_11 + (-1)).toInt = l2_11.toInt + ((-1) : Int32).toInt := kd_add (oz1092 c22 c6 kn0 knm1) (oz1084 fi_3138.2 p11_1 knm1)
                    refine ko_steps mi_in70 2 _ (47, [(2, .int (l2_11 + (-1))), (1, .int l1_2), (0, .ref 49)], [], (0, 0), ks i a q r) (by rfl) ?_
                    exact ih11 _ (oz1093 c22 c6 s34 kn0 knm1) (oz641 p11_1 s34 knm1) (kj_meas (oz420 s34 knm1) (oz45 c22) hm11)
            exact lp11 _ _ (oz1094 c6 p2_0 s10 kn0 kn1) (oz643 s10 kn1) (Nat.lt_succ_self _)
          ·
            have c35 : l1_2.toInt < (0 : Int32).toInt := kd_leF c; clear c
            exact (oz1074 c35 c6 kn0).elim
        ·
          have c36 : ((a 74).getD (l1_2 + 1).toNatClampNeg 0).toInt ≤ ((a 74).getD l1_2.toNatClampNeg 0).toInt := kd_ltF c; clear c
          have s37 : (l1_2 + (-1)).toInt = l1_2.toInt + ((-1) : Int32).toInt := kd_add (oz1095 c6 kn0 knm1) (oz1096 fi_3138.2 p2_0 knm1)
          refine ko_steps mi_in70 2 _ (7, [(1, .int (l1_2 + (-1))), (0, .ref 49)], [], (0, 0), ks i a q r) (by rfl) ?_
          exact ih2 _ (oz1097 p2_0 s37 knm1) (kj_meas (oz519 s37 knm1) (oz520 c6 kn0) hm2)
  exact lp2 _ _ (oz1098 s1 kn2) (Nat.lt_succ_self _)
def w69_49_1 : kW := ([645, 3138, 3142, 3200, 3206, 3207, 3208, 3209, 3214, 3215, 3216, 3586, 3781, 6405], [13, 51, 52, 53, 54, 55, 57, 58, 62, 63, 65, 66, 67, 68, 69, 70, 71, 72, 73, 74, 78, 103], [], [1])
def w69_49_1_L8 : kW := ([3138], [74], [], [])
def w69_49_1_L71 : kW := ([645, 3142, 3200, 3206, 3207, 3208, 3209, 3214, 3215, 3216, 3586, 3781, 6405], [13, 51, 52, 53, 54, 55, 57, 58, 62, 63, 65, 66, 67, 68, 69, 70, 71, 72, 73, 74, 78, 103], [], [1])
set_option maxRecDepth 100000 in
theorem kc69_49_1 {i : Nat → Int32} {a : Nat → List Int32} {q : Nat → List Int64} {r : Nat → Nat} (hI : kI i a q) (hr : kr r) (x2 : Int32) (x3 : Int32) : km 11 69 [.ref 49, .ref 1, .int x2, .int x3] (ks i a q r) (kVN w69_49_1 i a q r (fun i1 a1 q1 r1 => True)) := by
  have hG := kG_self w69_49_1 hI hr
  refine km_ofN (q := (mi_h69, mi_c69)) rfl (by decide) (Nat.le_of_ble_eq_true rfl) ?_
  intro P hP
  have hJ1 := kG_i hG 3138 rfl (v := 0) ⟨(oz46 kn0), (oz220 kn0)⟩
  refine ko_steps mi_in69 5 _ (8, [(4, .int 0), (0, .ref 49), (1, .ref 1), (2, .int x2), (3, .int x3)], [], (0, 0), ks (ku i 3138 0) a q r) (by rfl) ?_
  have lp2 : ∀ (n : Nat) (i2 : Nat → Int32) (a2 : Nat → List Int32) (q2 : Nat → List Int64) (r2 : Nat → Nat) (l4_2 : Int32), kG w69_49_1_L8 (ku i 3138 0) a q r i2 a2 q2 r2 → (0 : Int) ≤ l4_2.toInt → (i2 3138).toInt ≤ 5 → ((8 - l4_2.toInt)).toNat < n → ko 11 (mi_h69, mi_c69) P (8, [(4, .int l4_2), (0, .ref 49), (1, .ref 1), (2, .int x2), (3, .int x3)], [], (0, 0), ks i2 a2 q2 r2) := by
    intro n
    induction n with
    | zero =>
      intro _ _ _ _ _ _ _ _ hm
      exact absurd hm (Nat.not_lt_zero _)
    | succ n ih2 =>
      intro i2 a2 q2 r2 l4_2 hL2 p2_0 p2_1 hm2
      have fi2_3138 : ((0 : Int) ≤ (i2 3138).toInt) ∧ ((i2 3138).toInt ≤ 20) := hL2.I.1 3138
      refine ko_steps mi_in69 2 _ (12, [(4, .int l4_2), (0, .ref 49), (1, .ref 1), (2, .int x2), (3, .int x3)], [.int 8, .int l4_2], (0, 0), ks i2 a2 q2 r2) (by rfl) ?_
      refine ko_if mi_in69 (decide (8 ≤ l4_2)) 60 15 ([(4, .int l4_2), (0, .ref 49), (1, .ref 1), (2, .int x2), (3, .int x3)], [], (0, 0), ks i2 a2 q2 r2) (by rfl) (fun c => ?_) (fun c => ?_)
      ·
        have c3 : (8 : Int32).toInt ≤ l4_2.toInt := kd_le c; clear c
        have hG4 := kG_call hJ1 hL2 (by decide +kernel)
        have hJ5 := kG_i hG4 3142 rfl (v := (-1)) (kd_bd _)
        refine ko_steps mi_in69 7 _ (71, [(5, .int 0), (4, .int 1), (0, .ref 49), (1, .ref 1), (2, .int x2), (3, .int x3)], [], (0, 0), ks (ku i2 3142 (-1)) a2 q2 r2) (by rfl) ?_
        have lp6 : ∀ (n : Nat) (i6 : Nat → Int32) (a6 : Nat → List Int32) (q6 : Nat → List Int64) (r6 : Nat → Nat) (l5_6 : Int32) (l4_6 : Int32), kG w69_49_1_L71 (ku i2 3142 (-1)) a2 q2 r2 i6 a6 q6 r6 → (0 : Int) ≤ l5_6.toInt → (i6 3138).toInt ≤ 5 → ((120 - l5_6.toInt)).toNat < n → ko 11 (mi_h69, mi_c69) P (71, [(5, .int l5_6), (4, .int l4_6), (0, .ref 49), (1, .ref 1), (2, .int x2), (3, .int x3)], [], (0, 0), ks i6 a6 q6 r6) := by
          intro n
          induction n with
          | zero =>
            intro _ _ _ _ _ _ _ _ _ hm
            exact absurd hm (Nat.not_lt_zero _)
          | succ n ih6 =>
            intro i6 a6 q6 r6 l5_6 l4_6 hL6 p6_0 p6_1 hm6
            have fi6_3138 : ((0 : Int) ≤ (i6 3138).toInt) ∧ ((i6 3138).toInt ≤ 20) := hL6.I.1 3138
            have efi6_3138 : (i6 3138).toInt = (i2 3138).toInt := hL6.ti 3138 rfl
            refine ko_steps mi_in69 2 _ (75, [(5, .int l5_6), (4, .int l4_6), (0, .ref 49), (1, .ref 1), (2, .int x2), (3, .int x3)], [.int 120, .int l5_6], (0, 0), ks i6 a6 q6 r6) (by rfl) ?_
            refine ko_if mi_in69 (decide (120 ≤ l5_6)) 135 78 ([(5, .int l5_6), (4, .int l4_6), (0, .ref 49), (1, .ref 1), (2, .int x2), (3, .int x3)], [], (0, 0), ks i6 a6 q6 r6) (by rfl) (fun c => ?_) (fun c => ?_)
            ·
              have c7 : (120 : Int32).toInt ≤ l5_6.toInt := kd_le c; clear c
              have hG8 := kG_call hJ5 hL6 (by decide +kernel)
              exact ko_ret mi_in69 (by rfl) (hP  _ _ _ _ hG8 trivial)
            ·
              have c9 : l5_6.toInt < (120 : Int32).toInt := kd_leF c; clear c
              refine ko_steps mi_in69 1 _ (80, [(5, .int l5_6), (4, .int l4_6), (0, .ref 49), (1, .ref 1), (2, .int x2), (3, .int x3)], [.int l4_6], (0, 0), ks i6 a6 q6 r6) (by rfl) ?_
              refine ko_if mi_in69 (l4_6 == 0) 135 83 ([(5, .int l5_6), (4, .int l4_6), (0, .ref 49), (1, .ref 1), (2, .int x2), (3, .int x3)], [], (0, 0), ks i6 a6 q6 r6) (by rfl) (fun c => ?_) (fun c => ?_)
              ·
                have c10 : l4_6.toInt = (0 : Int32).toInt := kd_eq c; clear c
                have hG11 := kG_call hJ5 hL6 (by decide +kernel)
                exact ko_ret mi_in69 (by rfl) (hP  _ _ _ _ hG11 trivial)
              ·
                have c12 : l4_6.toInt ≠ (0 : Int32).toInt := kd_eqF c; clear c
                refine ko_steps mi_in69 3 _ (86, [(5, .int l5_6), (4, .int l4_6), (0, .ref 49), (1, .ref 1), (2, .int x2), (3, .int x3)], [.int x3, .ref 1, .ref 49], (0, 0), ks i6 a6 q6 r6) (by rfl) ?_
                refine ko_callI mi_in69 (pc := 86) (ls := [(5, .int l5_6), (4, .int l4_6), (0, .ref 49), (1, .ref 1), (2, .int x2), (3, .int x3)]) (st := [.int x3, .ref 1, .ref 49]) (h := ks i6 a6 q6 r6) (i := (.invokevirtual 99, 3, 63, 0, 9, 0, 239)) (by rfl) (by rfl) (cy := mi_c63) rfl rfl (kc63_49_1 hL6.I hL6.R x3) (by decide) ?_
                intro vg13 ig13 ag13 qg13 rg13 kg13 hg13
                have hGg13 := kG_call hL6 kg13 (by decide +kernel)
                have efig13_3142 : (ig13 3142).toInt = (i6 3142).toInt := kg13.ti 3142 rfl
                refine ko_steps mi_in69 4 _ (97, [(6, .int vg13), (5, .int l5_6), (4, .int l4_6), (0, .ref 49), (1, .ref 1), (2, .int x2), (3, .int x3)], [.int (ig13 3142), .int vg13], (0, 0), ks ig13 ag13 qg13 rg13) (by rfl) ?_
                refine ko_if mi_in69 (decide (vg13 ≤ (ig13 3142))) 123 100 ([(6, .int vg13), (5, .int l5_6), (4, .int l4_6), (0, .ref 49), (1, .ref 1), (2, .int x2), (3, .int x3)], [], (0, 0), ks ig13 ag13 qg13 rg13) (by rfl) (fun c => ?_) (fun c => ?_)
                ·
                  have c14 : vg13.toInt ≤ (ig13 3142).toInt := kd_le c; clear c
                  refine ko_steps mi_in69 1 _ (124, [(6, .int vg13), (5, .int l5_6), (4, .int l4_6), (0, .ref 49), (1, .ref 1), (2, .int x2), (3, .int x3)], [.ref 49], (0, 0), ks ig13 ag13 qg13 rg13) (by rfl) ?_
                  have fig13_3138 : ((0 : Int) ≤ (ig13 3138).toInt) ∧ ((ig13 3138).toInt ≤ 20) := hGg13.I.1 3138
                  have efig13_3138 : (ig13 3138).toInt = (i6 3138).toInt := kg13.ti 3138 rfl
                  refine ko_callI mi_in69 (pc := 124) (ls := [(6, .int vg13), (5, .int l5_6), (4, .int l4_6), (0, .ref 49), (1, .ref 1), (2, .int x2), (3, .int x3)]) (st := [.ref 49]) (h := ks ig13 ag13 qg13 rg13) (i := (.invokevirtual 109, 3, 70, 0, 9, 0, 252)) (by rfl) (by rfl) (cy := mi_c70) rfl rfl (kc70_49 hGg13.I hGg13.R (oz1099 efig13_3138 p6_1)) (by decide) ?_
                  intro vg15 ig15 ag15 qg15 rg15 kg15 hg15
                  have hGg15 := kG_call hGg13 kg15 (by decide +kernel)
                  rcases hg15 with ⟨eg15, hg15⟩ | ⟨eg15, hg15⟩
                  ·
                    subst eg15
                    have s16 : (l5_6 + 1).toInt = l5_6.toInt + (1 : Int32).toInt := kd_add (oz12 p6_0 kn1) (oz1100 c9 kn120 kn1)
                    refine ko_steps mi_in69 3 _ (71, [(5, .int (l5_6 + 1)), (4, .int 1), (6, .int vg13), (0, .ref 49), (1, .ref 1), (2, .int x2), (3, .int x3)], [], (0, 0), ks ig15 ag15 qg15 rg15) (by rfl) ?_
                    refine ko_perm [(5, .int (l5_6 + 1)), (4, .int 1), (0, .ref 49), (1, .ref 1), (2, .int x2), (3, .int x3)] (List.forall_mem_cons.mpr ⟨(List.Mem.head _), (List.forall_mem_cons.mpr ⟨(List.Mem.tail _ (List.Mem.head _)), (List.forall_mem_cons.mpr ⟨(List.Mem.tail _ (List.Mem.tail _ (List.Mem.tail _ (List.Mem.head _)))), (List.forall_mem_cons.mpr ⟨(List.Mem.tail _ (List.Mem.tail _ (List.Mem.tail _ (List.Mem.tail _ (List.Mem.head _))))), (List.forall_mem_cons.mpr ⟨(List.Mem.tail _ (List.Mem.tail _ (List.Mem.tail _ (List.Mem.tail _ (List.Mem.tail _ (List.Mem.head _)))))), (List.forall_mem_cons.mpr ⟨(List.Mem.tail _ (List.Mem.tail _ (List.Mem.tail _ (List.Mem.tail _ (List.Mem.tail _ (List.Mem.tail _ (List.Mem.head _))))))), (fun _ h => absurd h List.not_mem_nil)⟩)⟩)⟩)⟩)⟩)⟩) ?_
                    have fig15_3138 : ((0 : Int) ≤ (ig15 3138).toInt) ∧ ((ig15 3138).toInt ≤ 20) := hGg15.I.1 3138
                    have efig15_3138 : (ig15 3138).toInt = (ig13 3138).toInt := kg15.ti 3138 rfl
                    exact ih6 _ _ _ _ _ _ hGg15 (oz14 p6_0 s16 kn1) (oz1101 efig13_3138 efig15_3138 p6_1) (kj_meas (oz1102 s16 kn1) (oz1103 c9 kn120) hm6)
                  ·
                    subst eg15
                    have s17 : (l5_6 + 1).toInt = l5_6.toInt + (1 : Int32).toInt := kd_add (oz12 p6_0 kn1) (oz1100 c9 kn120 kn1)
                    refine ko_steps mi_in69 3 _ (71, [(5, .int (l5_6 + 1)), (4, .int 0), (6, .int vg13), (0, .ref 49), (1, .ref 1), (2, .int x2), (3, .int x3)], [], (0, 0), ks ig15 ag15 qg15 rg15) (by rfl) ?_
                    refine ko_perm [(5, .int (l5_6 + 1)), (4, .int 0), (0, .ref 49), (1, .ref 1), (2, .int x2), (3, .int x3)] (List.forall_mem_cons.mpr ⟨(List.Mem.head _), (List.forall_mem_cons.mpr ⟨(List.Mem.tail _ (List.Mem.head _)), (List.forall_mem_cons.mpr ⟨(List.Mem.tail _ (List.Mem.tail _ (List.Mem.tail _ (List.Mem.head _)))), (List.forall_mem_cons.mpr ⟨(List.Mem.tail _ (List.Mem.tail _ (List.Mem.tail _ (List.Mem.tail _ (List.Mem.head _))))), (List.forall_mem_cons.mpr ⟨(List.Mem.tail _ (List.Mem.tail _ (List.Mem.tail _ (List.Mem.tail _ (List.Mem.tail _ (List.Mem.head _)))))), (List.forall_mem_cons.mpr ⟨(List.Mem.tail _ (List.Mem.tail _ (List.Mem.tail _ (List.Mem.tail _ (List.Mem.tail _ (List.Mem.tail _ (List.Mem.head _))))))), (fun _ h => absurd h List.not_mem_nil)⟩)⟩)⟩)⟩)⟩)⟩) ?_
                    have fig15_3138 : ((0 : Int) ≤ (ig15 3138).toInt) ∧ ((ig15 3138).toInt ≤ 20) := hGg15.I.1 3138
                    have efig15_3138 : (ig15 3138).toInt = (ig13 3138).toInt := kg15.ti 3138 rfl
                    exact ih6 _ _ _ _ _ _ hGg15 (oz14 p6_0 s17 kn1) (oz1101 efig13_3138 efig15_3138 p6_1) (kj_meas (oz1102 s17 kn1) (oz1103 c9 kn120) hm6)
                ·
                  have c18 : (ig13 3142).toInt < vg13.toInt := kd_leF c; clear c
                  have hJ19 := kG_i hGg13 3142 rfl (v := vg13) (kd_bd _)
                  have fig13_3138 : ((0 : Int) ≤ (ig13 3138).toInt) ∧ ((ig13 3138).toInt ≤ 20) := hJ19.I.1 3138
                  have efig13_3138 : (ig13 3138).toInt = (i6 3138).toInt := kg13.ti 3138 rfl
                  refine ko_steps mi_in69 11 _ (120, [(6, .int vg13), (5, .int l5_6), (4, .int l4_6), (0, .ref 49), (1, .ref 1), (2, .int x2), (3, .int x3)], [.int (ig13 3138), .int 0, .ref 78, .int 0, .ref 74], (0, 0), ks (ku ig13 3142 vg13) ag13 qg13 rg13) (by rfl) ?_
                  refine ko_copyI3 mi_in69 (n := 20) (c := 20) (m := 5) (b := 5) (by rfl) (by rfl) (by rfl) (by rfl) (ksG74 _ _ _ _) (ksG78 _ _ _ _) (ksA78 _ _ _ _) (hJ19.I.2.1 74) rfl (hJ19.I.2.1 78) rfl (oz3 fig13_3138.1) (oz46 kn0) (oz46 kn0) (oz1104 fig13_3138.2 kn0) (oz1105 efig13_3138 p6_1 kn0) ?_
                  intro a21 ea21 fa21
                  have hJ21 := kG_al3 hJ19 78 rfl ea21 fa21 (kcpy_len2 (n := 20) (c := 20) (m := 5) (b := 5) (sp := 0) (dp := 0) (n1 := (ig13 3138)) (hJ19.I.2.1 74) rfl (hJ19.I.2.1 78) rfl (oz3 fig13_3138.1) (oz46 kn0) (oz46 kn0) (oz1104 fig13_3138.2 kn0) (oz1105 efig13_3138 p6_1 kn0)) (fun _ => kd_bd _)
                  refine ko_steps mi_in69 1 _ (124, [(6, .int vg13), (5, .int l5_6), (4, .int l4_6), (0, .ref 49), (1, .ref 1), (2, .int x2), (3, .int x3)], [.ref 49], (0, 0), ks (ku ig13 3142 vg13) a21 qg13 rg13) (by rfl) ?_
                  refine ko_callI mi_in69 (pc := 124) (ls := [(6, .int vg13), (5, .int l5_6), (4, .int l4_6), (0, .ref 49), (1, .ref 1), (2, .int x2), (3, .int x3)]) (st := [.ref 49]) (h := ks (ku ig13 3142 vg13) a21 qg13 rg13) (i := (.invokevirtual 109, 3, 70, 0, 9, 0, 252)) (by rfl) (by rfl) (cy := mi_c70) rfl rfl (kc70_49 hJ21.I hJ21.R (oz1099 efig13_3138 p6_1)) (by decide) ?_
                  intro vg22 ig22 ag22 qg22 rg22 kg22 hg22
                  have hGg22 := kG_call hJ21 kg22 (by decide +kernel)
                  rcases hg22 with ⟨eg22, hg22⟩ | ⟨eg22, hg22⟩
                  ·
                    subst eg22
                    have s23 : (l5_6 + 1).toInt = l5_6.toInt + (1 : Int32).toInt := kd_add (oz12 p6_0 kn1) (oz1100 c9 kn120 kn1)
                    refine ko_steps mi_in69 3 _ (71, [(5, .int (l5_6 + 1)), (4, .int 1), (6, .int vg13), (0, .ref 49), (1, .ref 1), (2, .int x2), (3, .int x3)], [], (0, 0), ks ig22 ag22 qg22 rg22) (by rfl) ?_
                    refine ko_perm [(5, .int (l5_6 + 1)), (4, .int 1), (0, .ref 49), (1, .ref 1), (2, .int x2), (3, .int x3)] (List.forall_mem_cons.mpr ⟨(List.Mem.head _), (List.forall_mem_cons.mpr ⟨(List.Mem.tail _ (List.Mem.head _)), (List.forall_mem_cons.mpr ⟨(List.Mem.tail _ (List.Mem.tail _ (List.Mem.tail _ (List.Mem.head _)))), (List.forall_mem_cons.mpr ⟨(List.Mem.tail _ (List.Mem.tail _ (List.Mem.tail _ (List.Mem.tail _ (List.Mem.head _))))), (List.forall_mem_cons.mpr ⟨(List.Mem.tail _ (List.Mem.tail _ (List.Mem.tail _ (List.Mem.tail _ (List.Mem.tail _ (List.Mem.head _)))))), (List.forall_mem_cons.mpr ⟨(List.Mem.tail _ (List.Mem.tail _ (List.Mem.tail _ (List.Mem.tail _ (List.Mem.tail _ (List.Mem.tail _ (List.Mem.head _))))))), (fun _ h => absurd h List.not_mem_nil)⟩)⟩)⟩)⟩)⟩)⟩) ?_
                    have fig22_3138 : ((0 : Int) ≤ (ig22 3138).toInt) ∧ ((ig22 3138).toInt ≤ 20) := hGg22.I.1 3138
                    have efig22_3138 : (ig22 3138).toInt = (ig13 3138).toInt := kg22.ti 3138 rfl
                    exact ih6 _ _ _ _ _ _ hGg22 (oz14 p6_0 s23 kn1) (oz1101 efig13_3138 efig22_3138 p6_1) (kj_meas (oz1102 s23 kn1) (oz1103 c9 kn120) hm6)
                  ·
                    subst eg22
                    have s24 : (l5_6 + 1).toInt = l5_6.toInt + (1 : Int32).toInt := kd_add (oz12 p6_0 kn1) (oz1100 c9 kn120 kn1)
                    refine ko_steps mi_in69 3 _ (71, [(5, .int (l5_6 + 1)), (4, .int 0), (6, .int vg13), (0, .ref 49), (1, .ref 1), (2, .int x2), (3, .int x3)], [], (0, 0), ks ig22 ag22 qg22 rg22) (by rfl) ?_
                    refine ko_perm [(5, .int (l5_6 + 1)), (4, .int 0), (0, .ref 49), (1, .ref 1), (2, .int x2), (3, .int x3)] (List.forall_mem_cons.mpr ⟨(List.Mem.head _), (List.forall_mem_cons.mpr ⟨(List.Mem.tail _ (List.Mem.head _)), (List.forall_mem_cons.mpr ⟨(List.Mem.tail _ (List.Mem.tail _ (List.Mem.tail _ (List.Mem.head _)))), (List.forall_mem_cons.mpr ⟨(List.Mem.tail _ (List.Mem.tail _ (List.Mem.tail _ (List.Mem.tail _ (List.Mem.head _))))), (List.forall_mem_cons.mpr ⟨(List.Mem.tail _ (List.Mem.tail _ (List.Mem.tail _ (List.Mem.tail _ (List.Mem.tail _ (List.Mem.head _)))))), (List.forall_mem_cons.mpr ⟨(List.Mem.tail _ (List.Mem.tail _ (List.Mem.tail _ (List.Mem.tail _ (List.Mem.tail _ (List.Mem.tail _ (List.Mem.head _))))))), (fun _ h => absurd h List.not_mem_nil)⟩)⟩)⟩)⟩)⟩)⟩) ?_
                    have fig22_3138 : ((0 : Int) ≤ (ig22 3138).toInt) ∧ ((ig22 3138).toInt ≤ 20) := hGg22.I.1 3138
                    have efig22_3138 : (ig22 3138).toInt = (ig13 3138).toInt := kg22.ti 3138 rfl
                    exact ih6 _ _ _ _ _ _ hGg22 (oz14 p6_0 s24 kn1) (oz1101 efig13_3138 efig22_3138 p6_1) (kj_meas (oz1102 s24 kn1) (oz1103 c9 kn120) hm6)
        exact lp6 _ _ _ _ _ _ _ (kG_self _ hJ5.I hJ5.R) (oz46 kn0) (oz527 p2_1) (Nat.lt_succ_self _)
      ·
        have c25 : l4_2.toInt < (8 : Int32).toInt := kd_leF c; clear c
        refine ko_steps mi_in69 3 _ (20, [(4, .int l4_2), (0, .ref 49), (1, .ref 1), (2, .int x2), (3, .int x3)], [.int 5, .int (i2 3138)], (0, 0), ks i2 a2 q2 r2) (by rfl) ?_
        refine ko_if mi_in69 (decide (5 ≤ (i2 3138))) 60 23 ([(4, .int l4_2), (0, .ref 49), (1, .ref 1), (2, .int x2), (3, .int x3)], [], (0, 0), ks i2 a2 q2 r2) (by rfl) (fun c => ?_) (fun c => ?_)
        ·
          have c26 : (5 : Int32).toInt ≤ (i2 3138).toInt := kd_le c; clear c
          have hG27 := kG_call hJ1 hL2 (by decide +kernel)
          have hJ28 := kG_i hG27 3142 rfl (v := (-1)) (kd_bd _)
          refine ko_steps mi_in69 7 _ (71, [(5, .int 0), (4, .int 1), (0, .ref 49), (1, .ref 1), (2, .int x2), (3, .int x3)], [], (0, 0), ks (ku i2 3142 (-1)) a2 q2 r2) (by rfl) ?_
          have lp29 : ∀ (n : Nat) (i29 : Nat → Int32) (a29 : Nat → List Int32) (q29 : Nat → List Int64) (r29 : Nat → Nat) (l5_29 : Int32) (l4_29 : Int32), kG w69_49_1_L71 (ku i2 3142 (-1)) a2 q2 r2 i29 a29 q29 r29 → (0 : Int) ≤ l5_29.toInt → (i29 3138).toInt ≤ 5 → ((120 - l5_29.toInt)).toNat < n → ko 11 (mi_h69, mi_c69) P (71, [(5, .int l5_29), (4, .int l4_29), (0, .ref 49), (1, .ref 1), (2, .int x2), (3, .int x3)], [], (0, 0), ks i29 a29 q29 r29) := by
            intro n
            induction n with
            | zero =>
              intro _ _ _ _ _ _ _ _ _ hm
              exact absurd hm (Nat.not_lt_zero _)
            | succ n ih29 =>
              intro i29 a29 q29 r29 l5_29 l4_29 hL29 p29_0 p29_1 hm29
              have fi29_3138 : ((0 : Int) ≤ (i29 3138).toInt) ∧ ((i29 3138).toInt ≤ 20) := hL29.I.1 3138
              have efi29_3138 : (i29 3138).toInt = (i2 3138).toInt := hL29.ti 3138 rfl
              refine ko_steps mi_in69 2 _ (75, [(5, .int l5_29), (4, .int l4_29), (0, .ref 49), (1, .ref 1), (2, .int x2), (3, .int x3)], [.int 120, .int l5_29], (0, 0), ks i29 a29 q29 r29) (by rfl) ?_
              refine ko_if mi_in69 (decide (120 ≤ l5_29)) 135 78 ([(5, .int l5_29), (4, .int l4_29), (0, .ref 49), (1, .ref 1), (2, .int x2), (3, .int x3)], [], (0, 0), ks i29 a29 q29 r29) (by rfl) (fun c => ?_) (fun c => ?_)
              ·
                have c30 : (120 : Int32).toInt ≤ l5_29.toInt := kd_le c; clear c
                have hG31 := kG_call hJ28 hL29 (by decide +kernel)
                exact ko_ret mi_in69 (by rfl) (hP  _ _ _ _ hG31 trivial)
              ·
                have c32 : l5_29.toInt < (120 : Int32).toInt := kd_leF c; clear c
                refine ko_steps mi_in69 1 _ (80, [(5, .int l5_29), (4, .int l4_29), (0, .ref 49), (1, .ref 1), (2, .int x2), (3, .int x3)], [.int l4_29], (0, 0), ks i29 a29 q29 r29) (by rfl) ?_
                refine ko_if mi_in69 (l4_29 == 0) 135 83 ([(5, .int l5_29), (4, .int l4_29), (0, .ref 49), (1, .ref 1), (2, .int x2), (3, .int x3)], [], (0, 0), ks i29 a29 q29 r29) (by rfl) (fun c => ?_) (fun c => ?_)
                ·
                  have c33 : l4_29.toInt = (0 : Int32).toInt := kd_eq c; clear c
                  have hG34 := kG_call hJ28 hL29 (by decide +kernel)
                  exact ko_ret mi_in69 (by rfl) (hP  _ _ _ _ hG34 trivial)
                ·
                  have c35 : l4_29.toInt ≠ (0 : Int32).toInt := kd_eqF c; clear c
                  refine ko_steps mi_in69 3 _ (86, [(5, .int l5_29), (4, .int l4_29), (0, .ref 49), (1, .ref 1), (2, .int x2), (3, .int x3)], [.int x3, .ref 1, .ref 49], (0, 0), ks i29 a29 q29 r29) (by rfl) ?_
                  refine ko_callI mi_in69 (pc := 86) (ls := [(5, .int l5_29), (4, .int l4_29), (0, .ref 49), (1, .ref 1), (2, .int x2), (3, .int x3)]) (st := [.int x3, .ref 1, .ref 49]) (h := ks i29 a29 q29 r29) (i := (.invokevirtual 99, 3, 63, 0, 9, 0, 239)) (by rfl) (by rfl) (cy := mi_c63) rfl rfl (kc63_49_1 hL29.I hL29.R x3) (by decide) ?_
                  intro vg36 ig36 ag36 qg36 rg36 kg36 hg36
                  have hGg36 := kG_call hL29 kg36 (by decide +kernel)
                  have efig36_3142 : (ig36 3142).toInt = (i29 3142).toInt := kg36.ti 3142 rfl
                  refine ko_steps mi_in69 4 _ (97, [(6, .int vg36), (5, .int l5_29), (4, .int l4_29), (0, .ref 49), (1, .ref 1), (2, .int x2), (3, .int x3)], [.int (ig36 3142), .int vg36], (0, 0), ks ig36 ag36 qg36 rg36) (by rfl) ?_
                  refine ko_if mi_in69 (decide (vg36 ≤ (ig36 3142))) 123 100 ([(6, .int vg36), (5, .int l5_29), (4, .int l4_29), (0, .ref 49), (1, .ref 1), (2, .int x2), (3, .int x3)], [], (0, 0), ks ig36 ag36 qg36 rg36) (by rfl) (fun c => ?_) (fun c => ?_)
                  ·
                    have c37 : vg36.toInt ≤ (ig36 3142).toInt := kd_le c; clear c
                    refine ko_steps mi_in69 1 _ (124, [(6, .int vg36), (5, .int l5_29), (4, .int l4_29), (0, .ref 49), (1, .ref 1), (2, .int x2), (3, .int x3)], [.ref 49], (0, 0), ks ig36 ag36 qg36 rg36) (by rfl) ?_
                    have fig36_3138 : ((0 : Int) ≤ (ig36 3138).toInt) ∧ ((ig36 3138).toInt ≤ 20) := hGg36.I.1 3138
                    have efig36_3138 : (ig36 3138).toInt = (i29 3138).toInt := kg36.ti 3138 rfl
                    refine ko_callI mi_in69 (pc := 124) (ls := [(6, .int vg36), (5, .int l5_29), (4, .int l4_29), (0, .ref 49), (1, .ref 1), (2, .int x2), (3, .int x3)]) (st := [.ref 49]) (h := ks ig36 ag36 qg36 rg36) (i := (.invokevirtual 109, 3, 70, 0, 9, 0, 252)) (by rfl) (by rfl) (cy := mi_c70) rfl rfl (kc70_49 hGg36.I hGg36.R (oz1099 efig36_3138 p29_1)) (by decide) ?_
                    intro vg38 ig38 ag38 qg38 rg38 kg38 hg38
                    have hGg38 := kG_call hGg36 kg38 (by decide +kernel)
                    rcases hg38 with ⟨eg38, hg38⟩ | ⟨eg38, hg38⟩
                    ·
                      subst eg38
                      have s39 : (l5_29 + 1).toInt = l5_29.toInt + (1 : Int32).toInt := kd_add (oz12 p29_0 kn1) (oz1100 c32 kn120 kn1)
                      refine ko_steps mi_in69 3 _ (71, [(5, .int (l5_29 + 1)), (4, .int 1), (6, .int vg36), (0, .ref 49), (1, .ref 1), (2, .int x2), (3, .int x3)], [], (0, 0), ks ig38 ag38 qg38 rg38) (by rfl) ?_
                      refine ko_perm [(5, .int (l5_29 + 1)), (4, .int 1), (0, .ref 49), (1, .ref 1), (2, .int x2), (3, .int x3)] (List.forall_mem_cons.mpr ⟨(List.Mem.head _), (List.forall_mem_cons.mpr ⟨(List.Mem.tail _ (List.Mem.head _)), (List.forall_mem_cons.mpr ⟨(List.Mem.tail _ (List.Mem.tail _ (List.Mem.tail _ (List.Mem.head _)))), (List.forall_mem_cons.mpr ⟨(List.Mem.tail _ (List.Mem.tail _ (List.Mem.tail _ (List.Mem.tail _ (List.Mem.head _))))), (List.forall_mem_cons.mpr ⟨(List.Mem.tail _ (List.Mem.tail _ (List.Mem.tail _ (List.Mem.tail _ (List.Mem.tail _ (List.Mem.head _)))))), (List.forall_mem_cons.mpr ⟨(List.Mem.tail _ (List.Mem.tail _ (List.Mem.tail _ (List.Mem.tail _ (List.Mem.tail _ (List.Mem.tail _ (List.Mem.head _))))))), (fun _ h => absurd h List.not_mem_nil)⟩)⟩)⟩)⟩)⟩)⟩) ?_
                      have fig38_3138 : ((0 : Int) ≤ (ig38 3138).toInt) ∧ ((ig38 3138).toInt ≤ 20) := hGg38.I.1 3138
                      have efig38_3138 : (ig38 3138).toInt = (ig36 3138).toInt := kg38.ti 3138 rfl
                      exact ih29 _ _ _ _ _ _ hGg38 (oz14 p29_0 s39 kn1) (oz1101 efig36_3138 efig38_3138 p29_1) (kj_meas (oz1102 s39 kn1) (oz1103 c32 kn120) hm29)
                    ·
                      subst eg38
                      have s40 : (l5_29 + 1).toInt = l5_29.toInt + (1 : Int32).toInt := kd_add (oz12 p29_0 kn1) (oz1100 c32 kn120 kn1)
                      refine ko_steps mi_in69 3 _ (71, [(5, .int (l5_29 + 1)), (4, .int 0), (6, .int vg36), (0, .ref 49), (1, .ref 1), (2, .int x2), (3, .int x3)], [], (0, 0), ks ig38 ag38 qg38 rg38) (by rfl) ?_
                      refine ko_perm [(5, .int (l5_29 + 1)), (4, .int 0), (0, .ref 49), (1, .ref 1), (2, .int x2), (3, .int x3)] (List.forall_mem_cons.mpr ⟨(List.Mem.head _), (List.forall_mem_cons.mpr ⟨(List.Mem.tail _ (List.Mem.head _)), (List.forall_mem_cons.mpr ⟨(List.Mem.tail _ (List.Mem.tail _ (List.Mem.tail _ (List.Mem.head _)))), (List.forall_mem_cons.mpr ⟨(List.Mem.tail _ (List.Mem.tail _ (List.Mem.tail _ (List.Mem.tail _ (List.Mem.head _))))), (List.forall_mem_cons.mpr ⟨(List.Mem.tail _ (List.Mem.tail _ (List.Mem.tail _ (List.Mem.tail _ (List.Mem.tail _ (List.Mem.head _)))))), (List.forall_mem_cons.mpr ⟨(List.Mem.tail _ (List.Mem.tail _ (List.Mem.tail _ (List.Mem.tail _ (List.Mem.tail _ (List.Mem.tail _ (List.Mem.head _))))))), (fun _ h => absurd h List.not_mem_nil)⟩)⟩)⟩)⟩)⟩)⟩) ?_
                      have fig38_3138 : ((0 : Int) ≤ (ig38 3138).toInt) ∧ ((ig38 3138).toInt ≤ 20) := hGg38.I.1 3138
                      have efig38_3138 : (ig38 3138).toInt = (ig36 3138).toInt := kg38.ti 3138 rfl
                      exact ih29 _ _ _ _ _ _ hGg38 (oz14 p29_0 s40 kn1) (oz1101 efig36_3138 efig38_3138 p29_1) (kj_meas (oz1102 s40 kn1) (oz1103 c32 kn120) hm29)
                  ·
                    have c41 : (ig36 3142).toInt < vg36.toInt := kd_leF c; clear c
                    have hJ42 := kG_i hGg36 3142 rfl (v := vg36) (kd_bd _)
                    have fig36_3138 : ((0 : Int) ≤ (ig36 3138).toInt) ∧ ((ig36 3138).toInt ≤ 20) := hJ42.I.1 3138
                    have efig36_3138 : (ig36 3138).toInt = (i29 3138).toInt := kg36.ti 3138 rfl
                    refine ko_steps mi_in69 11 _ (120, [(6, .int vg36), (5, .int l5_29), (4, .int l4_29), (0, .ref 49), (1, .ref 1), (2, .int x2), (3, .int x3)], [.int (ig36 3138), .int 0, .ref 78, .int 0, .ref 74], (0, 0), ks (ku ig36 3142 vg36) ag36 qg36 rg36) (by rfl) ?_
                    refine ko_copyI3 mi_in69 (n := 20) (c := 20) (m := 5) (b := 5) (by rfl) (by rfl) (by rfl) (by rfl) (ksG74 _ _ _ _) (ksG78 _ _ _ _) (ksA78 _ _ _ _) (hJ42.I.2.1 74) rfl (hJ42.I.2.1 78) rfl (oz1111 c26 efi29_3138 efig36_3138 kn5) (oz46 kn0) (oz46 kn0) (oz1104 fig36_3138.2 kn0) (oz1105 efig36_3138 p29_1 kn0) ?_
                    intro a44 ea44 fa44
                    have hJ44 := kG_al3 hJ42 78 rfl ea44 fa44 (kcpy_len2 (n := 20) (c := 20) (m := 5) (b := 5) (sp := 0) (dp := 0) (n1 := (ig36 3138)) (hJ42.I.2.1 74) rfl (hJ42.I.2.1 78) rfl (oz1111 c26 efi29_3138 efig36_3138 kn5) (oz46 kn0) (oz46 kn0) (oz1104 fig36_3138.2 kn0) (oz1105 efig36_3138 p29_1 kn0)) (fun _ => kd_bd _)
                    refine ko_steps mi_in69 1 _ (124, [(6, .int vg36), (5, .int l5_29), (4, .int l4_29), (0, .ref 49), (1, .ref 1), (2, .int x2), (3, .int x3)], [.ref 49], (0, 0), ks (ku ig36 3142 vg36) a44 qg36 rg36) (by rfl) ?_
                    refine ko_callI mi_in69 (pc := 124) (ls := [(6, .int vg36), (5, .int l5_29), (4, .int l4_29), (0, .ref 49), (1, .ref 1), (2, .int x2), (3, .int x3)]) (st := [.ref 49]) (h := ks (ku ig36 3142 vg36) a44 qg36 rg36) (i := (.invokevirtual 109, 3, 70, 0, 9, 0, 252)) (by rfl) (by rfl) (cy := mi_c70) rfl rfl (kc70_49 hJ44.I hJ44.R (oz1099 efig36_3138 p29_1)) (by decide) ?_
                    intro vg45 ig45 ag45 qg45 rg45 kg45 hg45
                    have hGg45 := kG_call hJ44 kg45 (by decide +kernel)
                    rcases hg45 with ⟨eg45, hg45⟩ | ⟨eg45, hg45⟩
                    ·
                      subst eg45
                      have s46 : (l5_29 + 1).toInt = l5_29.toInt + (1 : Int32).toInt := kd_add (oz12 p29_0 kn1) (oz1100 c32 kn120 kn1)
                      refine ko_steps mi_in69 3 _ (71, [(5, .int (l5_29 + 1)), (4, .int 1), (6, .int vg36), (0, .ref 49), (1, .ref 1), (2, .int x2), (3, .int x3)], [], (0, 0), ks ig45 ag45 qg45 rg45) (by rfl) ?_
                      refine ko_perm [(5, .int (l5_29 + 1)), (4, .int 1), (0, .ref 49), (1, .ref 1), (2, .int x2), (3, .int x3)] (List.forall_mem_cons.mpr ⟨(List.Mem.head _), (List.forall_mem_cons.mpr ⟨(List.Mem.tail _ (List.Mem.head _)), (List.forall_mem_cons.mpr ⟨(List.Mem.tail _ (List.Mem.tail _ (List.Mem.tail _ (List.Mem.head _)))), (List.forall_mem_cons.mpr ⟨(List.Mem.tail _ (List.Mem.tail _ (List.Mem.tail _ (List.Mem.tail _ (List.Mem.head _))))), (List.forall_mem_cons.mpr ⟨(List.Mem.tail _ (List.Mem.tail _ (List.Mem.tail _ (List.Mem.tail _ (List.Mem.tail _ (List.Mem.head _)))))), (List.forall_mem_cons.mpr ⟨(List.Mem.tail _ (List.Mem.tail _ (List.Mem.tail _ (List.Mem.tail _ (List.Mem.tail _ (List.Mem.tail _ (List.Mem.head _))))))), (fun _ h => absurd h List.not_mem_nil)⟩)⟩)⟩)⟩)⟩)⟩) ?_
                      have fig45_3138 : ((0 : Int) ≤ (ig45 3138).toInt) ∧ ((ig45 3138).toInt ≤ 20) := hGg45.I.1 3138
                      have efig45_3138 : (ig45 3138).toInt = (ig36 3138).toInt := kg45.ti 3138 rfl
                      exact ih29 _ _ _ _ _ _ hGg45 (oz14 p29_0 s46 kn1) (oz1101 efig36_3138 efig45_3138 p29_1) (kj_meas (oz1102 s46 kn1) (oz1103 c32 kn120) hm29)
                    ·
                      subst eg45
                      have s47 : (l5_29 + 1).toInt = l5_29.toInt + (1 : Int32).toInt := kd_add (oz12 p29_0 kn1) (oz1100 c32 kn120 kn1)
                      refine ko_steps mi_in69 3 _ (71, [(5, .int (l5_29 + 1)), (4, .int 0), (6, .int vg36), (0, .ref 49), (1, .ref 1), (2, .int x2), (3, .int x3)], [], (0, 0), ks ig45 ag45 qg45 rg45) (by rfl) ?_
                      refine ko_perm [(5, .int (l5_29 + 1)), (4, .int 0), (0, .ref 49), (1, .ref 1), (2, .int x2), (3, .int x3)] (List.forall_mem_cons.mpr ⟨(List.Mem.head _), (List.forall_mem_cons.mpr ⟨(List.Mem.tail _ (List.Mem.head _)), (List.forall_mem_cons.mpr ⟨(List.Mem.tail _ (List.Mem.tail _ (List.Mem.tail _ (List.Mem.head _)))), (List.forall_mem_cons.mpr ⟨(List.Mem.tail _ (List.Mem.tail _ (List.Mem.tail _ (List.Mem.tail _ (List.Mem.head _))))), (List.forall_mem_cons.mpr ⟨(List.Mem.tail _ (List.Mem.tail _ (List.Mem.tail _ (List.Mem.tail _ (List.Mem.tail _ (List.Mem.head _)))))), (List.forall_mem_cons.mpr ⟨(List.Mem.tail _ (List.Mem.tail _ (List.Mem.tail _ (List.Mem.tail _ (List.Mem.tail _ (List.Mem.tail _ (List.Mem.head _))))))), (fun _ h => absurd h List.not_mem_nil)⟩)⟩)⟩)⟩)⟩)⟩) ?_
                      have fig45_3138 : ((0 : Int) ≤ (ig45 3138).toInt) ∧ ((ig45 3138).toInt ≤ 20) := hGg45.I.1 3138
                      have efig45_3138 : (ig45 3138).toInt = (ig36 3138).toInt := kg45.ti 3138 rfl
                      exact ih29 _ _ _ _ _ _ hGg45 (oz14 p29_0 s47 kn1) (oz1101 efig36_3138 efig45_3138 p29_1) (kj_meas (oz1102 s47 kn1) (oz1103 c32 kn120) hm29)
          exact lp29 _ _ _ _ _ _ _ (kG_self _ hJ28.I hJ28.R) (oz46 kn0) (oz527 p2_1) (Nat.lt_succ_self _)
        ·
          have c48 : (i2 3138).toInt < (5 : Int32).toInt := kd_leF c; clear c
          refine ko_steps mi_in69 6 _ (30, [(4, .int l4_2), (0, .ref 49), (1, .ref 1), (2, .int x2), (3, .int x3)], [.int 1, .int ((x2 >>> (l4_2 &&& 31)) &&& 1)], (0, 0), ks i2 a2 q2 r2) (by rfl) ?_
          refine ko_if mi_in69 (((x2 >>> (l4_2 &&& 31)) &&& 1) != 1) 54 33 ([(4, .int l4_2), (0, .ref 49), (1, .ref 1), (2, .int x2), (3, .int x3)], [], (0, 0), ks i2 a2 q2 r2) (by rfl) (fun c => ?_) (fun c => ?_)
          ·
            have c49 : ((x2 >>> (l4_2 &&& 31)) &&& 1).toInt ≠ (1 : Int32).toInt := kd_ne c; clear c
            have s50 : (l4_2 + 1).toInt = l4_2.toInt + (1 : Int32).toInt := kd_add (oz12 p2_0 kn1) (oz474 c25 kn8 kn1)
            refine ko_steps mi_in69 2 _ (8, [(4, .int (l4_2 + 1)), (0, .ref 49), (1, .ref 1), (2, .int x2), (3, .int x3)], [], (0, 0), ks i2 a2 q2 r2) (by rfl) ?_
            exact ih2 _ _ _ _ _ hL2 (oz14 p2_0 s50 kn1) (oz527 p2_1) (kj_meas (oz475 s50 kn1) (oz476 c25 kn8) hm2)
          ·
            have c51 : ((x2 >>> (l4_2 &&& 31)) &&& 1).toInt = (1 : Int32).toInt := kd_neF c; clear c
            refine ko_steps mi_in69 5 _ (43, [(4, .int l4_2), (0, .ref 49), (1, .ref 1), (2, .int x2), (3, .int x3)], [.int l4_2, .int (i2 3138), .ref 74], (0, 0), ks i2 a2 q2 r2) (by rfl) ?_
            refine ko_iast3 mi_in69 (n := 20) (c := 20) (ax := (0, 0, 0, 0, 0)) (by rfl) (by rfl) (ksG74 _ _ _ _) (ksA74 _ _ _ _) (hL2.I.2.1 74) rfl (oz3 fi2_3138.1) (oz1112 p2_1) ?_
            intro a52 ea52 fa52
            have hJ52 := kG_a3 hL2 74 rfl ea52 fa52 (kd_bd _)
            have s53 : ((i2 3138) + 1).toInt = (i2 3138).toInt + (1 : Int32).toInt := kd_add (oz12 fi2_3138.1 kn1) (oz448 fi2_3138.2 kn1)
            have hJ54 := kG_i hJ52 3138 rfl (v := ((i2 3138) + 1)) ⟨(oz14 fi2_3138.1 s53 kn1), (oz1113 p2_1 s53 kn1)⟩
            have s55 : (l4_2 + 1).toInt = l4_2.toInt + (1 : Int32).toInt := kd_add (oz12 p2_0 kn1) (oz474 c25 kn8 kn1)
            refine ko_steps mi_in69 8 _ (8, [(4, .int (l4_2 + 1)), (0, .ref 49), (1, .ref 1), (2, .int x2), (3, .int x3)], [], (0, 0), ks (ku i2 3138 ((i2 3138) + 1)) a52 q2 r2) (by rfl) ?_
            exact ih2 _ _ _ _ _ hJ54 (oz14 p2_0 s55 kn1) (oz1044 c48 s53 kn5 kn1) (kj_meas (oz475 s55 kn1) (oz476 c25 kn8) hm2)
  exact lp2 _ _ _ _ _ _ (kG_self _ hJ1.I hJ1.R) (oz46 kn0) (oz1110 kn0) (Nat.lt_succ_self _)
