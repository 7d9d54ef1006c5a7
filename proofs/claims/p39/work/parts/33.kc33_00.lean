set_option maxRecDepth 100000 in
theorem kc1_56 {i : Nat → Int32} {a : Nat → List Int32} {q : Nat → List Int64} {r : Nat → Nat} (hI : kI i a q) (hr : kr r) (x1 : Int32) (x2 : Int32) : km 1 1 [.ref 56, .int x1, .int x2] (ks i a q r) (kVN w1_56 i a q r (fun i1 a1 q1 r1 => True)) := by
  have hG := kG_self w1_56 hI hr
  refine km_ofN (q := (mi_h1, mi_c1)) rfl (by decide) (Nat.le_of_ble_eq_true rfl) ?_
  intro P hP
  have fi_3586 : ((0 : Int) ≤ (i 3586).toInt) ∧ ((i 3586).toInt ≤ 5) := hG.I.1 3586
  refine ft_go mi_k1 3 5 [(0, .ref 56), (1, .int x1), (2, .int x2)] [.int 5, .int (i 3586)] i a q r (by rfl) ?_
  refine ft_if mi_k1 (decide (5 ≤ (i 3586))) 38 8 [(0, .ref 56), (1, .int x1), (2, .int x2)] [] (by rfl) (fun c => ?_) (fun c => ?_)
  ·
    have c1 : (5 : Int32).toInt ≤ (i 3586).toInt := kd_le c; clear c
    exact ft_ret mi_k1 (by rfl) (hP  _ _ _ _ hG trivial)
  ·
    have c2 : (i 3586).toInt < (5 : Int32).toInt := kd_leF c; clear c
    refine ft_go mi_k1 5 17 [(0, .ref 56), (1, .int x1), (2, .int x2)] [.int x1, .int (i 3586), .ref 57] i a q r (by rfl) ?_
    refine ko_iast3 mi_k1.1 (n := 5) (c := 5) (ax := (0, 0, 0, 0, 0)) (mi_k1.2 _ _ (by rfl)) (by rfl) (ksG57 _ _ _ _) (ksA57 _ _ _ _) (hG.I.2.1 57) rfl (oz3 fi_3586.1) (oz560 c2 kn5) ?_
    intro a3 ea3 fa3
    have hJ3 := kG_a3 hG 57 rfl ea3 fa3 (kd_bd _)
    refine ft_go mi_k1 5 27 [(0, .ref 56), (1, .int x1), (2, .int x2)] [.int x2, .int (i 3586), .ref 58] i a3 q r (by rfl) ?_
    refine ko_iast3 mi_k1.1 (n := 5) (c := 5) (ax := (0, 0, 0, 0, 0)) (mi_k1.2 _ _ (by rfl)) (by rfl) (ksG58 _ _ _ _) (ksA58 _ _ _ _) (hJ3.I.2.1 58) rfl (oz3 fi_3586.1) (oz560 c2 kn5) ?_
    intro a4 ea4 fa4
    have hJ4 := kG_a3 hJ3 58 rfl ea4 fa4 (kd_bd _)
    have s5 : ((i 3586) + 1).toInt = (i 3586).toInt + (1 : Int32).toInt := kd_add (oz12 fi_3586.1 kn1) (oz323 fi_3586.2 kn1)
    have hJ6 := kG_i hJ4 3586 rfl (v := ((i 3586) + 1)) ⟨(oz14 fi_3586.1 s5 kn1), (oz1044 c2 s5 kn5 kn1)⟩
    refine ft_go mi_k1 6 38 [(0, .ref 56), (1, .int x1), (2, .int x2)] [] (ku i 3586 ((i 3586) + 1)) a4 q r (by rfl) ?_
    exact ft_ret mi_k1 (by rfl) (hP  _ _ _ _ hJ6 trivial)
def w2_56 : kW := ([3586], [57, 58], [], [])
set_option maxRecDepth 100000 in
theorem kc2_56 {i : Nat → Int32} {a : Nat → List Int32} {q : Nat → List Int64} {r : Nat → Nat} (hI : kI i a q) (hr : kr r)  : km 1 2 [.ref 56] (ks i a q r) (kVN w2_56 i a q r (fun i1 a1 q1 r1 => True)) := by
  have hG := kG_self w2_56 hI hr
  refine km_ofN (q := (mi_h2, mi_c2)) rfl (by decide) (Nat.le_of_ble_eq_true rfl) ?_
  intro P hP
  have fi_3586 : ((0 : Int) ≤ (i 3586).toInt) ∧ ((i 3586).toInt ≤ 5) := hG.I.1 3586
  refine ft_go mi_k2 2 4 [(0, .ref 56)] [.int (i 3586)] i a q r (by rfl) ?_
  refine ft_if mi_k2 (decide ((i 3586) ≤ 0)) 51 7 [(0, .ref 56)] [] (by rfl) (fun c => ?_) (fun c => ?_)
  ·
    have c1 : (i 3586).toInt ≤ (0 : Int32).toInt := kd_le c; clear c
    exact ft_ret mi_k2 (by rfl) (hP  _ _ _ _ hG trivial)
  ·
    have c2 : (0 : Int32).toInt < (i 3586).toInt := kd_leF c; clear c
    have s3 : ((i 3586) - 1).toInt = (i 3586).toInt - (1 : Int32).toInt := kd_sub (oz1040 c2 kn0 kn1) (oz342 fi_3586.2 kn1)
    have hJ4 := kG_i hG 3586 rfl (v := ((i 3586) - 1)) ⟨(oz1041 c2 s3 kn0 kn1), (oz1047 fi_3586.2 s3 kn1)⟩
    refine ft_go mi_k2 14 31 [(0, .ref 56)] [.int ((i 3586) - 1), .int 0, .ref 57, .int 1, .ref 57] (ku i 3586 ((i 3586) - 1)) a q r (by rfl) ?_
    refine ko_copyI3 mi_k2.1 (n := 5) (c := 5) (m := 5) (b := 5) (mi_k2.2 _ _ (by rfl)) (by rfl) (by rfl) (by rfl) (ksG57 _ _ _ _) (ksG57 _ _ _ _) (ksA57 _ _ _ _) (hJ4.I.2.1 57) rfl (hJ4.I.2.1 57) rfl (oz1041 c2 s3 kn0 kn1) (oz246 kn1) (oz46 kn0) (oz1048 fi_3586.2 s3 kn1) (oz1049 fi_3586.2 s3 kn1 kn0) ?_
    intro a6 ea6 fa6
    have hJ6 := kG_al3 hJ4 57 rfl ea6 fa6 (kcpy_len2 (n := 5) (c := 5) (m := 5) (b := 5) (sp := 1) (dp := 0) (n1 := ((i 3586) - 1)) (hJ4.I.2.1 57) rfl (hJ4.I.2.1 57) rfl (oz1041 c2 s3 kn0 kn1) (oz246 kn1) (oz46 kn0) (oz1048 fi_3586.2 s3 kn1) (oz1049 fi_3586.2 s3 kn1 kn0)) (fun _ => kd_bd _)
    refine ft_go mi_k2 8 48 [(0, .ref 56)] [.int ((i 3586) - 1), .int 0, .ref 58, .int 1, .ref 58] (ku i 3586 ((i 3586) - 1)) a6 q r (by rfl) ?_
    refine ko_copyI3 mi_k2.1 (n := 5) (c := 5) (m := 5) (b := 5) (mi_k2.2 _ _ (by rfl)) (by rfl) (by rfl) (by rfl) (ksG58 _ _ _ _) (ksG58 _ _ _ _) (ksA58 _ _ _ _) (hJ6.I.2.1 58) rfl (hJ6.I.2.1 58) rfl (oz1041 c2 s3 kn0 kn1) (oz246 kn1) (oz46 kn0) (oz1048 fi_3586.2 s3 kn1) (oz1049 fi_3586.2 s3 kn1 kn0) ?_
    intro a8 ea8 fa8
    have hJ8 := kG_al3 hJ6 58 rfl ea8 fa8 (kcpy_len2 (n := 5) (c := 5) (m := 5) (b := 5) (sp := 1) (dp := 0) (n1 := ((i 3586) - 1)) (hJ6.I.2.1 58) rfl (hJ6.I.2.1 58) rfl (oz1041 c2 s3 kn0 kn1) (oz246 kn1) (oz46 kn0) (oz1048 fi_3586.2 s3 kn1) (oz1049 fi_3586.2 s3 kn1 kn0)) (fun _ => kd_bd _)
    exact ft_ret mi_k2 (by rfl) (hP  _ _ _ _ hJ8 trivial)
def w30_50 : kW := ([3214, 3215, 3586], [51, 57, 58, 63, 65, 66, 67, 68, 69, 70, 71, 72], [], [])
set_option maxRecDepth 100000 in
theorem kc30_50 {i : Nat → Int32} {a : Nat → List Int32} {q : Nat → List Int64} {r : Nat → Nat} (hI : kI i a q) (hr : kr r) (x1 : Int32) (hp0 : ((0 : Int) ≤ x1.toInt) ∧ (x1.toInt ≤ 7)) : km 3 30 [.ref 50, .int x1] (ks i a q r) (kVN w30_50 i a q r (fun i1 a1 q1 r1 => True)) := by
  have hG := kG_self w30_50 hI hr
  refine km_ofN (q := (mi_h30, mi_c30)) rfl (by decide) (Nat.le_of_ble_eq_true rfl) ?_
  intro P hP
  first | refine ft_go mi_k30 4 8 [(0, .ref 50), (1, .int x1)] [.int 0, .ref 57] i a q r (by rfl) ?_ | refine ko_steps mi_in30 4 _ (8, [(0, .ref 50), (1, .int x1)], [.int 0, .ref 57], (0, 0), ks i a q r) (by rfl) ?_
  refine ko_iald3 mi_k30.1 (n := 5) (c := 5) (ax := (0, 0, 0, 0, 0)) (mi_k30.2 _ _ (by rfl)) (by rfl) (ksG57 _ _ _ _) (hG.I.2.1 57) rfl (oz46 kn0) (oz547 kn0) ?_
  first | refine ft_go mi_k30 5 18 [(2, .int ((a 57).getD (0 : Int32).toNatClampNeg 0)), (0, .ref 50), (1, .int x1)] [.int 0, .ref 58] i a q r (by rfl) ?_ | refine ko_steps mi_in30 5 _ (18, [(2, .int ((a 57).getD (0 : Int32).toNatClampNeg 0)), (0, .ref 50), (1, .int x1)], [.int 0, .ref 58], (0, 0), ks i a q r) (by rfl) ?_
  refine ko_iald3 mi_k30.1 (n := 5) (c := 5) (ax := (0, 0, 0, 0, 0)) (mi_k30.2 _ _ (by rfl)) (by rfl) (ksG58 _ _ _ _) (hG.I.2.1 58) rfl (oz46 kn0) (oz547 kn0) ?_
  first | refine ft_go mi_k30 3 24 [(3, .int ((a 58).getD (0 : Int32).toNatClampNeg 0)), (2, .int ((a 57).getD (0 : Int32).toNatClampNeg 0)), (0, .ref 50), (1, .int x1)] [.ref 56] i a q r (by rfl) ?_ | refine ko_steps mi_in30 3 _ (24, [(3, .int ((a 58).getD (0 : Int32).toNatClampNeg 0)), (2, .int ((a 57).getD (0 : Int32).toNatClampNeg 0)), (0, .ref 50), (1, .int x1)], [.ref 56], (0, 0), ks i a q r) (by rfl) ?_
  refine ko_callN mi_k30.1 (pc := 24) (ls := [(3, .int ((a 58).getD (0 : Int32).toNatClampNeg 0)), (2, .int ((a 57).getD (0 : Int32).toNatClampNeg 0)), (0, .ref 50), (1, .int x1)]) (st := [.ref 56]) (h := ks i a q r) (i := (.invokevirtual 114, 3, 2, 0, 9, 0, 222)) (mi_k30.2 _ _ (by rfl)) (ft_invS mi_pq2 (by rfl)) (cy := mi_c2) mi_pq2 rfl (kc2_56 hG.I hG.R ) (by decide) ?_
  intro ig1 ag1 qg1 rg1 kg1 hg1
  have hGg1 := kG_call hG kg1 (by decide +kernel)
  have efig1_3214 : (ig1 3214).toInt = (i 3214).toInt := kg1.ti 3214 rfl
  first | refine ft_go mi_k30 3 33 [(3, .int ((a 58).getD (0 : Int32).toNatClampNeg 0)), (2, .int ((a 57).getD (0 : Int32).toNatClampNeg 0)), (0, .ref 50), (1, .int x1)] [.int 8, .int (ig1 3214)] ig1 ag1 qg1 rg1 (by rfl) ?_ | refine ko_steps mi_in30 3 _ (33, [(3, .int ((a 58).getD (0 : Int32).toNatClampNeg 0)), (2, .int ((a 57).getD (0 : Int32).toNatClampNeg 0)), (0, .ref 50), (1, .int x1)], [.int 8, .int (ig1 3214)], (0, 0), ks ig1 ag1 qg1 rg1) (by rfl) ?_
  refine ft_if mi_k30 ((ig1 3214) != 8) 41 36 [(3, .int ((a 58).getD (0 : Int32).toNatClampNeg 0)), (2, .int ((a 57).getD (0 : Int32).toNatClampNeg 0)), (0, .ref 50), (1, .int x1)] [] (by rfl) (fun c => ?_) (fun c => ?_)
  ·
    have c2 : (ig1 3214).toInt ≠ (8 : Int32).toInt := kd_ne c; clear c
    first | refine ft_go mi_k30 2 43 [(3, .int ((a 58).getD (0 : Int32).toNatClampNeg 0)), (2, .int ((a 57).getD (0 : Int32).toNatClampNeg 0)), (0, .ref 50), (1, .int x1)] [.int x1, .int ((a 57).getD (0 : Int32).toNatClampNeg 0)] ig1 ag1 qg1 rg1 (by rfl) ?_ | refine ko_steps mi_in30 2 _ (43, [(3, .int ((a 58).getD (0 : Int32).toNatClampNeg 0)), (2, .int ((a 57).getD (0 : Int32).toNatClampNeg 0)), (0, .ref 50), (1, .int x1)], [.int x1, .int ((a 57).getD (0 : Int32).toNatClampNeg 0)], (0, 0), ks ig1 ag1 qg1 rg1) (by rfl) ?_
    refine ft_if mi_k30 (((a 57).getD (0 : Int32).toNatClampNeg 0) == x1) 54 46 [(3, .int ((a 58).getD (0 : Int32).toNatClampNeg 0)), (2, .int ((a 57).getD (0 : Int32).toNatClampNeg 0)), (0, .ref 50), (1, .int x1)] [] (by rfl) (fun c => ?_) (fun c => ?_)
    ·
      have c3 : ((a 57).getD (0 : Int32).toNatClampNeg 0).toInt = x1.toInt := kd_eq c; clear c
      exact ft_ret mi_k30 (by rfl) (hP  _ _ _ _ hGg1 trivial)
    ·
      have c4 : ((a 57).getD (0 : Int32).toNatClampNeg 0).toInt ≠ x1.toInt := kd_eqF c; clear c
      first | refine ft_go mi_k30 2 48 [(3, .int ((a 58).getD (0 : Int32).toNatClampNeg 0)), (2, .int ((a 57).getD (0 : Int32).toNatClampNeg 0)), (0, .ref 50), (1, .int x1)] [.int ((a 57).getD (0 : Int32).toNatClampNeg 0), .ref 50] ig1 ag1 qg1 rg1 (by rfl) ?_ | refine ko_steps mi_in30 2 _ (48, [(3, .int ((a 58).getD (0 : Int32).toNatClampNeg 0)), (2, .int ((a 57).getD (0 : Int32).toNatClampNeg 0)), (0, .ref 50), (1, .int x1)], [.int ((a 57).getD (0 : Int32).toNatClampNeg 0), .ref 50], (0, 0), ks ig1 ag1 qg1 rg1) (by rfl) ?_
      refine ko_callPI mi_k30.1 (pc := 48) (ls := [(3, .int ((a 58).getD (0 : Int32).toNatClampNeg 0)), (2, .int ((a 57).getD (0 : Int32).toNatClampNeg 0)), (0, .ref 50), (1, .int x1)]) (st := [.int ((a 57).getD (0 : Int32).toNatClampNeg 0), .ref 50]) (h := ks ig1 ag1 qg1 rg1) (i := (.invokevirtual 85, 3, 24, 0, 9, 0, 165)) (mi_k30.2 _ _ (by rfl)) (ft_invS mi_pq24 (by rfl)) (cy := mi_c24) mi_pq24 rfl (kc24_50 hGg1.I hGg1.R ((a 57).getD (0 : Int32).toNatClampNeg 0)) (by decide) ?_
      intro vg5 hg5
      rcases hg5 with ⟨eg5, hg5⟩ | ⟨eg5, hg5⟩
      ·
        subst eg5
        have fig1_3200 : ((0 : Int) ≤ (ig1 3200).toInt) ∧ ((ig1 3200).toInt ≤ 8) := hGg1.I.1 3200
        have fi_3200 : ((0 : Int) ≤ (i 3200).toInt) ∧ ((i 3200).toInt ≤ 8) := hG.I.1 3200
        have efig1_3200 : (ig1 3200).toInt = (i 3200).toInt := kg1.ti 3200 rfl
        have z6 : ((0 : Int) ≤ ((a 57).getD (0 : Int32).toNatClampNeg 0).toInt) ∧ (((a 57).getD (0 : Int32).toNatClampNeg 0).toInt < (ig1 3200).toInt) := hg5
        first | refine ft_go mi_k30 5 61 [(3, .int ((a 58).getD (0 : Int32).toNatClampNeg 0)), (2, .int ((a 57).getD (0 : Int32).toNatClampNeg 0)), (0, .ref 50), (1, .int x1)] [.int ((a 57).getD (0 : Int32).toNatClampNeg 0), .ref 51, .int ((a 58).getD (0 : Int32).toNatClampNeg 0)] ig1 ag1 qg1 rg1 (by rfl) ?_ | refine ko_steps mi_in30 5 _ (61, [(3, .int ((a 58).getD (0 : Int32).toNatClampNeg 0)), (2, .int ((a 57).getD (0 : Int32).toNatClampNeg 0)), (0, .ref 50), (1, .int x1)], [.int ((a 57).getD (0 : Int32).toNatClampNeg 0), .ref 51, .int ((a 58).getD (0 : Int32).toNatClampNeg 0)], (0, 0), ks ig1 ag1 qg1 rg1) (by rfl) ?_
        refine ko_iald3 mi_k30.1 (n := 8) (c := 8) (ax := (0, 0, 0, 0, 0)) (mi_k30.2 _ _ (by rfl)) (by rfl) (ksG51 _ _ _ _) (hGg1.I.2.1 51) rfl (oz3 z6.1) (oz974 fig1_3200.2 z6.2) ?_
        have m8 : (((bif decide (((ag1 51).getD ((a 57).getD (0 : Int32).toNatClampNeg 0).toNatClampNeg 0) < ((a 58).getD (0 : Int32).toNatClampNeg 0)) then ((ag1 51).getD ((a 57).getD (0 : Int32).toNatClampNeg 0).toNatClampNeg 0) else ((a 58).getD (0 : Int32).toNatClampNeg 0)).toInt ≤ ((a 58).getD (0 : Int32).toNatClampNeg 0).toInt) ∧ ((bif decide (((ag1 51).getD ((a 57).getD (0 : Int32).toNatClampNeg 0).toNatClampNeg 0) < ((a 58).getD (0 : Int32).toNatClampNeg 0)) then ((ag1 51).getD ((a 57).getD (0 : Int32).toNatClampNeg 0).toNatClampNeg 0) else ((a 58).getD (0 : Int32).toNatClampNeg 0)).toInt ≤ ((ag1 51).getD ((a 57).getD (0 : Int32).toNatClampNeg 0).toNatClampNeg 0).toInt)) ∧ ((bif decide (((ag1 51).getD ((a 57).getD (0 : Int32).toNatClampNeg 0).toNatClampNeg 0) < ((a 58).getD (0 : Int32).toNatClampNeg 0)) then ((ag1 51).getD ((a 57).getD (0 : Int32).toNatClampNeg 0).toNatClampNeg 0) else ((a 58).getD (0 : Int32).toNatClampNeg 0)).toInt = ((a 58).getD (0 : Int32).toNatClampNeg 0).toInt ∨ (bif decide (((ag1 51).getD ((a 57).getD (0 : Int32).toNatClampNeg 0).toNatClampNeg 0) < ((a 58).getD (0 : Int32).toNatClampNeg 0)) then ((ag1 51).getD ((a 57).getD (0 : Int32).toNatClampNeg 0).toNatClampNeg 0) else ((a 58).getD (0 : Int32).toNatClampNeg 0)).toInt = ((ag1 51).getD ((a 57).getD (0 : Int32).toNatClampNeg 0).toNatClampNeg 0).toInt) := kd_min
        first | refine ft_go mi_k30 1 65 [(3, .int ((a 58).getD (0 : Int32).toNatClampNeg 0)), (2, .int ((a 57).getD (0 : Int32).toNatClampNeg 0)), (0, .ref 50), (1, .int x1)] [.int (bif decide (((ag1 51).getD ((a 57).getD (0 : Int32).toNatClampNeg 0).toNatClampNeg 0) < ((a 58).getD (0 : Int32).toNatClampNeg 0)) then ((ag1 51).getD ((a 57).getD (0 : Int32).toNatClampNeg 0).toNatClampNeg 0) else ((a 58).getD (0 : Int32).toNatClampNeg 0))] ig1 ag1 qg1 rg1 (by rfl) ?_ | refine ko_steps mi_in30 1 _ (65, [(3, .int ((a 58).getD (0 : Int32).toNatClampNeg 0)), (2, .int ((a 57).getD (0 : Int32).toNatClampNeg 0)), (0, .ref 50), (1, .int x1)], [.int (bif decide (((ag1 51).getD ((a 57).getD (0 : Int32).toNatClampNeg 0).toNatClampNeg 0) < ((a 58).getD (0 : Int32).toNatClampNeg 0)) then ((ag1 51).getD ((a 57).getD (0 : Int32).toNatClampNeg 0).toNatClampNeg 0) else ((a 58).getD (0 : Int32).toNatClampNeg 0))], (0, 0), ks ig1 ag1 qg1 rg1) (by rfl) ?_
        generalize (bif decide (((ag1 51).getD ((a 57).getD (0 : Int32).toNatClampNeg 0).toNatClampNeg 0) < ((a 58).getD (0 : Int32).toNatClampNeg 0)) then ((ag1 51).getD ((a 57).getD (0 : Int32).toNatClampNeg 0).toNatClampNeg 0) else ((a 58).getD (0 : Int32).toNatClampNeg 0)) = m7 at m8 ⊢
        first | refine ft_go mi_k30 5 73 [(4, .int m7), (3, .int ((a 58).getD (0 : Int32).toNatClampNeg 0)), (2, .int ((a 57).getD (0 : Int32).toNatClampNeg 0)), (0, .ref 50), (1, .int x1)] [.int ((a 57).getD (0 : Int32).toNatClampNeg 0), .ref 51, .int ((a 57).getD (0 : Int32).toNatClampNeg 0), .ref 51] ig1 ag1 qg1 rg1 (by rfl) ?_ | refine ko_steps mi_in30 5 _ (73, [(4, .int m7), (3, .int ((a 58).getD (0 : Int32).toNatClampNeg 0)), (2, .int ((a 57).getD (0 : Int32).toNatClampNeg 0)), (0, .ref 50), (1, .int x1)], [.int ((a 57).getD (0 : Int32).toNatClampNeg 0), .ref 51, .int ((a 57).getD (0 : Int32).toNatClampNeg 0), .ref 51], (0, 0), ks ig1 ag1 qg1 rg1) (by rfl) ?_
        refine ko_iald3 mi_k30.1 (n := 8) (c := 8) (ax := (0, 0, 0, 0, 0)) (mi_k30.2 _ _ (by rfl)) (by rfl) (ksG51 _ _ _ _) (hGg1.I.2.1 51) rfl (oz3 z6.1) (oz974 fig1_3200.2 z6.2) ?_
        have b9 : ((-2147483648 : Int) ≤ ((ag1 51).getD ((a 57).getD (0 : Int32).toNatClampNeg 0).toNatClampNeg 0).toInt) ∧ (((ag1 51).getD ((a 57).getD (0 : Int32).toNatClampNeg 0).toNatClampNeg 0).toInt ≤ 2147483647) := kd_bd ((ag1 51).getD ((a 57).getD (0 : Int32).toNatClampNeg 0).toNatClampNeg 0)
        have b10 : ((-2147483648 : Int) ≤ m7.toInt) ∧ (m7.toInt ≤ 2147483647) := kd_bd m7
        first | refine ft_go mi_k30 2 77 [(4, .int m7), (3, .int ((a 58).getD (0 : Int32).toNatClampNeg 0)), (2, .int ((a 57).getD (0 : Int32).toNatClampNeg 0)), (0, .ref 50), (1, .int x1)] [.int (((ag1 51).getD ((a 57).getD (0 : Int32).toNatClampNeg 0).toNatClampNeg 0) - m7), .int ((a 57).getD (0 : Int32).toNatClampNeg 0), .ref 51] ig1 ag1 qg1 rg1 (by rfl) ?_ | refine ko_steps mi_in30 2 _ (77, [(4, .int m7), (3, .int ((a 58).getD (0 : Int32).toNatClampNeg 0)), (2, .int ((a 57).getD (0 : Int32).toNatClampNeg 0)), (0, .ref 50), (1, .int x1)], [.int (((ag1 51).getD ((a 57).getD (0 : Int32).toNatClampNeg 0).toNatClampNeg 0) - m7), .int ((a 57).getD (0 : Int32).toNatClampNeg 0), .ref 51], (0, 0), ks ig1 ag1 qg1 rg1) (by rfl) ?_
        refine ko_iast3 mi_k30.1 (n := 8) (c := 8) (ax := (0, 0, 0, 0, 0)) (mi_k30.2 _ _ (by rfl)) (by rfl) (ksG51 _ _ _ _) (ksA51 _ _ _ _) (hGg1.I.2.1 51) rfl (oz3 z6.1) (oz974 fig1_3200.2 z6.2) ?_
        intro a11 ea11 fa11
        have hJ11 := kG_a3 hGg1 51 rfl ea11 fa11 (kd_bd _)
        first | refine ft_go mi_k30 7 91 [(4, .int m7), (3, .int ((a 58).getD (0 : Int32).toNatClampNeg 0)), (2, .int ((a 57).getD (0 : Int32).toNatClampNeg 0)), (0, .ref 50), (1, .int x1)] [.int x1, .ref 51, .int 999, .int x1, .ref 51] ig1 a11 qg1 rg1 (by rfl) ?_ | refine ko_steps mi_in30 7 _ (91, [(4, .int m7), (3, .int ((a 58).getD (0 : Int32).toNatClampNeg 0)), (2, .int ((a 57).getD (0 : Int32).toNatClampNeg 0)), (0, .ref 50), (1, .int x1)], [.int x1, .ref 51, .int 999, .int x1, .ref 51], (0, 0), ks ig1 a11 qg1 rg1) (by rfl) ?_
        refine ko_iald3 mi_k30.1 (n := 8) (c := 8) (ax := (0, 0, 0, 0, 0)) (mi_k30.2 _ _ (by rfl)) (by rfl) (ksG51 _ _ _ _) (hJ11.I.2.1 51) rfl (oz3 hp0.1) (oz1032 hp0.2) ?_
        have b12 : ((-2147483648 : Int) ≤ ((a11 51).getD x1.toNatClampNeg 0).toInt) ∧ (((a11 51).getD x1.toNatClampNeg 0).toInt ≤ 2147483647) := kd_bd ((a11 51).getD x1.toNatClampNeg 0)
        first | refine ft_go mi_k30 2 95 [(4, .int m7), (3, .int ((a 58).getD (0 : Int32).toNatClampNeg 0)), (2, .int ((a 57).getD (0 : Int32).toNatClampNeg 0)), (0, .ref 50), (1, .int x1)] [.int (((a11 51).getD x1.toNatClampNeg 0) + m7), .int 999, .int x1, .ref 51] ig1 a11 qg1 rg1 (by rfl) ?_ | refine ko_steps mi_in30 2 _ (95, [(4, .int m7), (3, .int ((a 58).getD (0 : Int32).toNatClampNeg 0)), (2, .int ((a 57).getD (0 : Int32).toNatClampNeg 0)), (0, .ref 50), (1, .int x1)], [.int (((a11 51).getD x1.toNatClampNeg 0) + m7), .int 999, .int x1, .ref 51], (0, 0), ks ig1 a11 qg1 rg1) (by rfl) ?_
        have m14 : (((bif decide ((((a11 51).getD x1.toNatClampNeg 0) + m7) < 999) then (((a11 51).getD x1.toNatClampNeg 0) + m7) else 999).toInt ≤ (999 : Int32).toInt) ∧ ((bif decide ((((a11 51).getD x1.toNatClampNeg 0) + m7) < 999) then (((a11 51).getD x1.toNatClampNeg 0) + m7) else 999).toInt ≤ (((a11 51).getD x1.toNatClampNeg 0) + m7).toInt)) ∧ ((bif decide ((((a11 51).getD x1.toNatClampNeg 0) + m7) < 999) then (((a11 51).getD x1.toNatClampNeg 0) + m7) else 999).toInt = (999 : Int32).toInt ∨ (bif decide ((((a11 51).getD x1.toNatClampNeg 0) + m7) < 999) then (((a11 51).getD x1.toNatClampNeg 0) + m7) else 999).toInt = (((a11 51).getD x1.toNatClampNeg 0) + m7).toInt) := kd_min
        first | refine ft_go mi_k30 1 98 [(4, .int m7), (3, .int ((a 58).getD (0 : Int32).toNatClampNeg 0)), (2, .int ((a 57).getD (0 : Int32).toNatClampNeg 0)), (0, .ref 50), (1, .int x1)] [.int (bif decide ((((a11 51).getD x1.toNatClampNeg 0) + m7) < 999) then (((a11 51).getD x1.toNatClampNeg 0) + m7) else 999), .int x1, .ref 51] ig1 a11 qg1 rg1 (by rfl) ?_ | refine ko_steps mi_in30 1 _ (98, [(4, .int m7), (3, .int ((a 58).getD (0 : Int32).toNatClampNeg 0)), (2, .int ((a 57).getD (0 : Int32).toNatClampNeg 0)), (0, .ref 50), (1, .int x1)], [.int (bif decide ((((a11 51).getD x1.toNatClampNeg 0) + m7) < 999) then (((a11 51).getD x1.toNatClampNeg 0) + m7) else 999), .int x1, .ref 51], (0, 0), ks ig1 a11 qg1 rg1) (by rfl) ?_
        generalize (bif decide ((((a11 51).getD x1.toNatClampNeg 0) + m7) < 999) then (((a11 51).getD x1.toNatClampNeg 0) + m7) else 999) = m13 at m14 ⊢
        refine ko_iast3 mi_k30.1 (n := 8) (c := 8) (ax := (0, 0, 0, 0, 0)) (mi_k30.2 _ _ (by rfl)) (by rfl) (ksG51 _ _ _ _) (ksA51 _ _ _ _) (hJ11.I.2.1 51) rfl (oz3 hp0.1) (oz1032 hp0.2) ?_
        intro a15 ea15 fa15
        have hJ15 := kG_a3 hJ11 51 rfl ea15 fa15 (kd_bd _)
        have efig1_3215 : (ig1 3215).toInt = (i 3215).toInt := kg1.ti 3215 rfl
        have b16 : ((-2147483648 : Int) ≤ (ig1 3215).toInt) ∧ ((ig1 3215).toInt ≤ 2147483647) := kd_bd (ig1 3215)
        have hJ17 := kG_i hJ15 3215 rfl (v := ((ig1 3215) + m7)) (kd_bd _)
        first | refine ft_go mi_k30 10 116 [(4, .int m7), (3, .int ((a 58).getD (0 : Int32).toNatClampNeg 0)), (2, .int ((a 57).getD (0 : Int32).toNatClampNeg 0)), (0, .ref 50), (1, .int x1)] [.int 2, .ref 63, .int 2, .ref 63] (ku ig1 3215 ((ig1 3215) + m7)) a15 qg1 rg1 (by rfl) ?_ | refine ko_steps mi_in30 10 _ (116, [(4, .int m7), (3, .int ((a 58).getD (0 : Int32).toNatClampNeg 0)), (2, .int ((a 57).getD (0 : Int32).toNatClampNeg 0)), (0, .ref 50), (1, .int x1)], [.int 2, .ref 63, .int 2, .ref 63], (0, 0), ks (ku ig1 3215 ((ig1 3215) + m7)) a15 qg1 rg1) (by rfl) ?_
        refine ko_iald3 mi_k30.1 (n := 5) (c := 5) (ax := (0, 0, 0, 0, 0)) (mi_k30.2 _ _ (by rfl)) (by rfl) (ksG63 _ _ _ _) (hJ17.I.2.1 63) rfl (oz256 kn2) (oz549 kn2) ?_
        have b18 : ((-2147483648 : Int) ≤ ((a 58).getD (0 : Int32).toNatClampNeg 0).toInt) ∧ (((a 58).getD (0 : Int32).toNatClampNeg 0).toInt ≤ 2147483647) := kd_bd ((a 58).getD (0 : Int32).toNatClampNeg 0)
        have b19 : ((-2147483648 : Int) ≤ ((a15 63).getD (2 : Int32).toNatClampNeg 0).toInt) ∧ (((a15 63).getD (2 : Int32).toNatClampNeg 0).toInt ≤ 2147483647) := kd_bd ((a15 63).getD (2 : Int32).toNatClampNeg 0)
        have b20 : ((-2147483648 : Int) ≤ (((a 58).getD (0 : Int32).toNatClampNeg 0) - m7).toInt) ∧ ((((a 58).getD (0 : Int32).toNatClampNeg 0) - m7).toInt ≤ 2147483647) := kd_bd (((a 58).getD (0 : Int32).toNatClampNeg 0) - m7)
        first | refine ft_go mi_k30 4 122 [(4, .int m7), (3, .int ((a 58).getD (0 : Int32).toNatClampNeg 0)), (2, .int ((a 57).getD (0 : Int32).toNatClampNeg 0)), (0, .ref 50), (1, .int x1)] [.int (((a15 63).getD (2 : Int32).toNatClampNeg 0) + (((a 58).getD (0 : Int32).toNatClampNeg 0) - m7)), .int 2, .ref 63] (ku ig1 3215 ((ig1 3215) + m7)) a15 qg1 rg1 (by rfl) ?_ | refine ko_steps mi_in30 4 _ (122, [(4, .int m7), (3, .int ((a 58).getD (0 : Int32).toNatClampNeg 0)), (2, .int ((a 57).getD (0 : Int32).toNatClampNeg 0)), (0, .ref 50), (1, .int x1)], [.int (((a15 63).getD (2 : Int32).toNatClampNeg 0) + (((a 58).getD (0 : Int32).toNatClampNeg 0) - m7)), .int 2, .ref 63], (0, 0), ks (ku ig1 3215 ((ig1 3215) + m7)) a15 qg1 rg1) (by rfl) ?_
        refine ko_iast3 mi_k30.1 (n := 5) (c := 5) (ax := (0, 0, 0, 0, 0)) (mi_k30.2 _ _ (by rfl)) (by rfl) (ksG63 _ _ _ _) (ksA63 _ _ _ _) (hJ17.I.2.1 63) rfl (oz256 kn2) (oz549 kn2) ?_
        intro a21 ea21 fa21
        have hJ21 := kG_a3 hJ17 63 rfl ea21 fa21 (kd_bd _)
        first | refine ft_go mi_k30 3 128 [(4, .int m7), (3, .int ((a 58).getD (0 : Int32).toNatClampNeg 0)), (2, .int ((a 57).getD (0 : Int32).toNatClampNeg 0)), (0, .ref 50), (1, .int x1)] [.int ((a 57).getD (0 : Int32).toNatClampNeg 0), .ref 64] (ku ig1 3215 ((ig1 3215) + m7)) a21 qg1 rg1 (by rfl) ?_ | refine ko_steps mi_in30 3 _ (128, [(4, .int m7), (3, .int ((a 58).getD (0 : Int32).toNatClampNeg 0)), (2, .int ((a 57).getD (0 : Int32).toNatClampNeg 0)), (0, .ref 50), (1, .int x1)], [.int ((a 57).getD (0 : Int32).toNatClampNeg 0), .ref 64], (0, 0), ks (ku ig1 3215 ((ig1 3215) + m7)) a21 qg1 rg1) (by rfl) ?_
        by_cases w22 : ((a 57).getD (0 : Int32).toNatClampNeg 0).toInt = 0
        ·
          refine ko_eq (x1 := (128, [(4, .int m7), (3, .int ((a 58).getD (0 : Int32).toNatClampNeg 0)), (2, .int ((a 57).getD (0 : Int32).toNatClampNeg 0)), (0, .ref 50), (1, .int x1)], [.int 0, .ref 64], (0, 0), ks (ku ig1 3215 ((ig1 3215) + m7)) a21 qg1 rg1)) (by rw [(kj_eq w22 (by decide) : ((a 57).getD (0 : Int32).toNatClampNeg 0) = 0)]) ?_
          first | refine ft_go mi_k30 3 131 [(4, .int m7), (3, .int ((a 58).getD (0 : Int32).toNatClampNeg 0)), (2, .int ((a 57).getD (0 : Int32).toNatClampNeg 0)), (0, .ref 50), (1, .int x1)] [.int x1, .ref 65, .int x1, .ref 65] (ku ig1 3215 ((ig1 3215) + m7)) a21 qg1 rg1 (by rfl) ?_ | refine ko_steps mi_in30 3 _ (131, [(4, .int m7), (3, .int ((a 58).getD (0 : Int32).toNatClampNeg 0)), (2, .int ((a 57).getD (0 : Int32).toNatClampNeg 0)), (0, .ref 50), (1, .int x1)], [.int x1, .ref 65, .int x1, .ref 65], (0, 0), ks (ku ig1 3215 ((ig1 3215) + m7)) a21 qg1 rg1) (by rfl) ?_
          refine ko_iald3 mi_k30.1 (n := 8) (c := 8) (ax := (0, 0, 0, 0, 0)) (mi_k30.2 _ _ (by rfl)) (by rfl) (ksG65 _ _ _ _) (hJ21.I.2.1 65) rfl (oz3 hp0.1) (oz1032 hp0.2) ?_
          have b23 : ((-2147483648 : Int) ≤ ((a21 65).getD x1.toNatClampNeg 0).toInt) ∧ (((a21 65).getD x1.toNatClampNeg 0).toInt ≤ 2147483647) := kd_bd ((a21 65).getD x1.toNatClampNeg 0)
          first | refine ft_go mi_k30 2 135 [(4, .int m7), (3, .int ((a 58).getD (0 : Int32).toNatClampNeg 0)), (2, .int ((a 57).getD (0 : Int32).toNatClampNeg 0)), (0, .ref 50), (1, .int x1)] [.int (((a21 65).getD x1.toNatClampNeg 0) + m7), .int x1, .ref 65] (ku ig1 3215 ((ig1 3215) + m7)) a21 qg1 rg1 (by rfl) ?_ | refine ko_steps mi_in30 2 _ (135, [(4, .int m7), (3, .int ((a 58).getD (0 : Int32).toNatClampNeg 0)), (2, .int ((a 57).getD (0 : Int32).toNatClampNeg 0)), (0, .ref 50), (1, .int x1)], [.int (((a21 65).getD x1.toNatClampNeg 0) + m7), .int x1, .ref 65], (0, 0), ks (ku ig1 3215 ((ig1 3215) + m7)) a21 qg1 rg1) (by rfl) ?_
          refine ko_iast3 mi_k30.1 (n := 8) (c := 8) (ax := (0, 0, 0, 0, 0)) (mi_k30.2 _ _ (by rfl)) (by rfl) (ksG65 _ _ _ _) (ksA65 _ _ _ _) (hJ21.I.2.1 65) rfl (oz3 hp0.1) (oz1032 hp0.2) ?_
          intro a24 ea24 fa24
          have hJ24 := kG_a3 hJ21 65 rfl ea24 fa24 (kd_bd _)
          exact ft_ret mi_k30 (by rfl) (hP  _ _ _ _ hJ24 trivial)
        by_cases w25 : ((a 57).getD (0 : Int32).toNatClampNeg 0).toInt = 1
        ·
          refine ko_eq (x1 := (128, [(4, .int m7), (3, .int ((a 58).getD (0 : Int32).toNatClampNeg 0)), (2, .int ((a 57).getD (0 : Int32).toNatClampNeg 0)), (0, .ref 50), (1, .int x1)], [.int 1, .ref 64], (0, 0), ks (ku ig1 3215 ((ig1 3215) + m7)) a21 qg1 rg1)) (by rw [(kj_eq w25 (by decide) : ((a 57).getD (0 : Int32).toNatClampNeg 0) = 1)]) ?_
          first | refine ft_go mi_k30 3 131 [(4, .int m7), (3, .int ((a 58).getD (0 : Int32).toNatClampNeg 0)), (2, .int ((a 57).getD (0 : Int32).toNatClampNeg 0)), (0, .ref 50), (1, .int x1)] [.int x1, .ref 66, .int x1, .ref 66] (ku ig1 3215 ((ig1 3215) + m7)) a21 qg1 rg1 (by rfl) ?_ | refine ko_steps mi_in30 3 _ (131, [(4, .int m7), (3, .int ((a 58).getD (0 : Int32).toNatClampNeg 0)), (2, .int ((a 57).getD (0 : Int32).toNatClampNeg 0)), (0, .ref 50), (1, .int x1)], [.int x1, .ref 66, .int x1, .ref 66], (0, 0), ks (ku ig1 3215 ((ig1 3215) + m7)) a21 qg1 rg1) (by rfl) ?_
          refine ko_iald3 mi_k30.1 (n := 8) (c := 8) (ax := (0, 0, 0, 0, 0)) (mi_k30.2 _ _ (by rfl)) (by rfl) (ksG66 _ _ _ _) (hJ21.I.2.1 66) rfl (oz3 hp0.1) (oz1032 hp0.2) ?_
          have b26 : ((-2147483648 : Int) ≤ ((a21 66).getD x1.toNatClampNeg 0).toInt) ∧ (((a21 66).getD x1.toNatClampNeg 0).toInt ≤ 2147483647) := kd_bd ((a21 66).getD x1.toNatClampNeg 0)
          first | refine ft_go mi_k30 2 135 [(4, .int m7), (3, .int ((a 58).getD (0 : Int32).toNatClampNeg 0)), (2, .int ((a 57).getD (0 : Int32).toNatClampNeg 0)), (0, .ref 50), (1, .int x1)] [.int (((a21 66).getD x1.toNatClampNeg 0) + m7), .int x1, .ref 66] (ku ig1 3215 ((ig1 3215) + m7)) a21 qg1 rg1 (by rfl) ?_ | refine ko_steps mi_in30 2 _ (135, [(4, .int m7), (3, .int ((a 58).getD (0 : Int32).toNatClampNeg 0)), (2, .int ((a 57).getD (0 : Int32).toNatClampNeg 0)), (0, .ref 50), (1, .int x1)], [.int (((a21 66).getD x1.toNatClampNeg 0) + m7), .int x1, .ref 66], (0, 0), ks (ku ig1 3215 ((ig1 3215) + m7)) a21 qg1 rg1) (by rfl) ?_
          refine ko_iast3 mi_k30.1 (n := 8) (c := 8) (ax := (0, 0, 0, 0, 0)) (mi_k30.2 _ _ (by rfl)) (by rfl) (ksG66 _ _ _ _) (ksA66 _ _ _ _) (hJ21.I.2.1 66) rfl (oz3 hp0.1) (oz1032 hp0.2) ?_
          intro a27 ea27 fa27
          have hJ27 := kG_a3 hJ21 66 rfl ea27 fa27 (kd_bd _)
          exact ft_ret mi_k30 (by rfl) (hP  _ _ _ _ hJ27 trivial)
        by_cases w28 : ((a 57).getD (0 : Int32).toNatClampNeg 0).toInt = 2
        ·
          refine ko_eq (x1 := (128, [(4, .int m7), (3, .int ((a 58).getD (0 : Int32).toNatClampNeg 0)), (2, .int ((a 57).getD (0 : Int32).toNatClampNeg 0)), (0, .ref 50), (1, .int x1)], [.int 2, .ref 64], (0, 0), ks (ku ig1 3215 ((ig1 3215) + m7)) a21 qg1 rg1)) (by rw [(kj_eq w28 (by decide) : ((a 57).getD (0 : Int32).toNatClampNeg 0) = 2)]) ?_
          first | refine ft_go mi_k30 3 131 [(4, .int m7), (3, .int ((a 58).getD (0 : Int32).toNatClampNeg 0)), (2, .int ((a 57).getD (0 : Int32).toNatClampNeg 0)), (0, .ref 50), (1, .int x1)] [.int x1, .ref 67, .int x1, .ref 67] (ku ig1 3215 ((ig1 3215) + m7)) a21 qg1 rg1 (by rfl) ?_ | refine ko_steps mi_in30 3 _ (131, [(4, .int m7), (3, .int ((a 58).getD (0 : Int32).toNatClampNeg 0)), (2, .int ((a 57).getD (0 : Int32).toNatClampNeg 0)), (0, .ref 50), (1, .int x1)], [.int x1, .ref 67, .int x1, .ref 67], (0, 0), ks (ku ig1 3215 ((ig1 3215) + m7)) a21 qg1 rg1) (by rfl) ?_
          refine ko_iald3 mi_k30.1 (n := 8) (c := 8) (ax := (0, 0, 0, 0, 0)) (mi_k30.2 _ _ (by rfl)) (by rfl) (ksG67 _ _ _ _) (hJ21.I.2.1 67) rfl (oz3 hp0.1) (oz1032 hp0.2) ?_
          have b29 : ((-2147483648 : Int) ≤ ((a21 67).getD x1.toNatClampNeg 0).toInt) ∧ (((a21 67).getD x1.toNatClampNeg 0).toInt ≤ 2147483647) := kd_bd ((a21 67).getD x1.toNatClampNeg 0)
          first | refine ft_go mi_k30 2 135 [(4, .int m7), (3, .int ((a 58).getD (0 : Int32).toNatClampNeg 0)), (2, .int ((a 57).getD (0 : Int32).toNatClampNeg 0)), (0, .ref 50), (1, .int x1)] [.int (((a21 67).getD x1.toNatClampNeg 0) + m7), .int x1, .ref 67] (ku ig1 3215 ((ig1 3215) + m7)) a21 qg1 rg1 (by rfl) ?_ | refine ko_steps mi_in30 2 _ (135, [(4, .int m7), (3, .int ((a 58).getD (0 : Int32).toNatClampNeg 0)), (2, .int ((a 57).getD (0 : Int32).toNatClampNeg 0)), (0, .ref 50), (1, .int x1)], [.int (((a21 67).getD x1.toNatClampNeg 0) + m7), .int x1, .ref 67], (0, 0), ks (ku ig1 3215 ((ig1 3215) + m7)) a21 qg1 rg1) (by rfl) ?_
          refine ko_iast3 mi_k30.1 (n := 8) (c := 8) (ax := (0, 0, 0, 0, 0)) (mi_k30.2 _ _ (by rfl)) (by rfl) (ksG67 _ _ _ _) (ksA67 _ _ _ _) (hJ21.I.2.1 67) rfl (oz3 hp0.1) (oz1032 hp0.2) ?_
          intro a30 ea30 fa30
          have hJ30 := kG_a3 hJ21 67 rfl ea30 fa30 (kd_bd _)
          exact ft_ret mi_k30 (by rfl) (hP  _ _ _ _ hJ30 trivial)
        by_cases w31 : ((a 57).getD (0 : Int32).toNatClampNeg 0).toInt = 3
        ·
          refine ko_eq (x1 := (128, [(4, .int m7), (3, .int ((a 58).getD (0 : Int32).toNatClampNeg 0)), (2, .int ((a 57).getD (0 : Int32).toNatClampNeg 0)), (0, .ref 50), (1, .int x1)], [.int 3, .ref 64], (0, 0), ks (ku ig1 3215 ((ig1 3215) + m7)) a21 qg1 rg1)) (by rw [(kj_eq w31 (by decide) : ((a 57).getD (0 : Int32).toNatClampNeg 0) = 3)]) ?_
          first | refine ft_go mi_k30 3 131 [(4, .int m7), (3, .int ((a 58).getD (0 : Int32).toNatClampNeg 0)), (2, .int ((a 57).getD (0 : Int32).toNatClampNeg 0)), (0, .ref 50), (1, .int x1)] [.int x1, .ref 68, .int x1, .ref 68] (ku ig1 3215 ((ig1 3215) + m7)) a21 qg1 rg1 (by rfl) ?_ | refine ko_steps mi_in30 3 _ (131, [(4, .int m7), (3, .int ((a 58).getD (0 : Int32).toNatClampNeg 0)), (2, .int ((a 57).getD (0 : Int32).toNatClampNeg 0)), (0, .ref 50), (1, .int x1)], [.int x1, .ref 68, .int x1, .ref 68], (0, 0), ks (ku ig1 3215 ((ig1 3215) + m7)) a21 qg1 rg1) (by rfl) ?_
          refine ko_iald3 mi_k30.1 (n := 8) (c := 8) (ax := (0, 0, 0, 0, 0)) (mi_k30.2 _ _ (by rfl)) (by rfl) (ksG68 _ _ _ _) (hJ21.I.2.1 68) rfl (oz3 hp0.1) (oz1032 hp0.2) ?_
          have b32 : ((-2147483648 : Int) ≤ ((a21 68).getD x1.toNatClampNeg 0).toInt) ∧ (((a21 68).getD x1.toNatClampNeg 0).toInt ≤ 2147483647) := kd_bd ((a21 68).getD x1.toNatClampNeg 0)
          first | refine ft_go mi_k30 2 135 [(4, .int m7), (3, .int ((a 58).getD (0 : Int32).toNatClampNeg 0)), (2, .int ((a 57).getD (0 : Int32).toNatClampNeg 0)), (0, .ref 50), (1, .int x1)] [.int (((a21 68).getD x1.toNatClampNeg 0) + m7), .int x1, .ref 68] (ku ig1 3215 ((ig1 3215) + m7)) a21 qg1 rg1 (by rfl) ?_ | refine ko_steps mi_in30 2 _ (135, [(4, .int m7), (3, .int ((a 58).getD (0 : Int32).toNatClampNeg 0)), (2, .int ((a 57).getD (0 : Int32).toNatClampNeg 0)), (0, .ref 50), (1, .int x1)], [.int (((a21 68).getD x1.toNatClampNeg 0) + m7), .int x1, .ref 68], (0, 0), ks (ku ig1 3215 ((ig1 3215) + m7)) a21 qg1 rg1) (by rfl) ?_
          refine ko_iast3 mi_k30.1 (n := 8) (c := 8) (ax := (0, 0, 0, 0, 0)) (mi_k30.2 _ _ (by rfl)) (by rfl) (ksG68 _ _ _ _) (ksA68 _ _ _ _) (hJ21.I.2.1 68) rfl (oz3 hp0.1) (oz1032 hp0.2) ?_
          intro a33 ea33 fa33
          have hJ33 := kG_a3 hJ21 68 rfl ea33 fa33 (kd_bd _)
          exact ft_ret mi_k30 (by rfl) (hP  _ _ _ _ hJ33 trivial)
        by_cases w34 : ((a 57).getD (0 : Int32).toNatClampNeg 0).toInt = 4
        ·
          refine ko_eq (x1 := (128, [(4, .int m7), (3, .int ((a 58).getD (0 : Int32).toNatClampNeg 0)), (2, .int ((a 57).getD (0 : Int32).toNatClampNeg 0)), (0, .ref 50), (1, .int x1)], [.int 4, .ref 64], (0, 0), ks (ku ig1 3215 ((ig1 3215) + m7)) a21 qg1 rg1)) (by rw [(kj_eq w34 (by decide) : ((a 57).getD (0 : Int32).toNatClampNeg 0) = 4)]) ?_
          first | refine ft_go mi_k30 3 131 [(4, .int m7), (3, .int ((a 58).getD (0 : Int32).toNatClampNeg 0)), (2, .int ((a 57).getD (0 : Int32).toNatClampNeg 0)), (0, .ref 50), (1, .int x1)] [.int x1, .ref 69, .int x1, .ref 69] (ku ig1 3215 ((ig1 3215) + m7)) a21 qg1 rg1 (by rfl) ?_ | refine ko_steps mi_in30 3 _ (131, [(4, .int m7), (3, .int ((a 58).getD (0 : Int32).toNatClampNeg 0)), (2, .int ((a 57).getD (0 : Int32).toNatClampNeg 0)), (0, .ref 50), (1, .int x1)], [.int x1, .ref 69, .int x1, .ref 69], (0, 0), ks (ku ig1 3215 ((ig1 3215) + m7)) a21 qg1 rg1) (by rfl) ?_
          refine ko_iald3 mi_k30.1 (n := 8) (c := 8) (ax := (0, 0, 0, 0, 0)) (mi_k30.2 _ _ (by rfl)) (by rfl) (ksG69 _ _ _ _) (hJ21.I.2.1 69) rfl (oz3 hp0.1) (oz1032 hp0.2) ?_
          have b35 : ((-2147483648 : Int) ≤ ((a21 69).getD x1.toNatClampNeg 0).toInt) ∧ (((a21 69).getD x1.toNatClampNeg 0).toInt ≤ 2147483647) := kd_bd ((a21 69).getD x1.toNatClampNeg 0)
          first | refine ft_go mi_k30 2 135 [(4, .int m7), (3, .int ((a 58).getD (0 : Int32).toNatClampNeg 0)), (2, .int ((a 57).getD (0 : Int32).toNatClampNeg 0)), (0, .ref 50), (1, .int x1)] [.int (((a21 69).getD x1.toNatClampNeg 0) + m7), .int x1, .ref 69] (ku ig1 3215 ((ig1 3215) + m7)) a21 qg1 rg1 (by rfl) ?_ | refine ko_steps mi_in30 2 _ (135, [(4, .int m7), (3, .int ((a 58).getD (0 : Int32).toNatClampNeg 0)), (2, .int ((a 57).getD (0 : Int32).toNatClampNeg 0)), (0, .ref 50), (1, .int x1)], [.int (((a21 69).getD x1.toNatClampNeg 0) + m7), .int x1, .ref 69], (0, 0), ks (ku ig1 3215 ((ig1 3215) + m7)) a21 qg1 rg1) (by rfl) ?_
          refine ko_iast3 mi_k30.1 (n := 8) (c := 8) (ax := (0, 0, 0, 0, 0)) (mi_k30.2 _ _ (by rfl)) (by rfl) (ksG69 _ _ _ _) (ksA69 _ _ _ _) (hJ21.I.2.1 69) rfl (oz3 hp0.1) (oz1032 hp0.2) ?_
          intro a36 ea36 fa36
          have hJ36 := kG_a3 hJ21 69 rfl ea36 fa36 (kd_bd _)
          exact ft_ret mi_k30 (by rfl) (hP  _ _ _ _ hJ36 trivial)
        by_cases w37 : ((a 57).getD (0 : Int32).toNatClampNeg 0).toInt = 5
        ·
          refine ko_eq (x1 := (128, [(4, .int m7), (3, .int ((a 58).getD (0 : Int32).toNatClampNeg 0)), (2, .int ((a 57).getD (0 : Int32).toNatClampNeg 0)), (0, .ref 50), (1, .int x1)], [.int 5, .ref 64], (0, 0), ks (ku ig1 3215 ((ig1 3215) + m7)) a21 qg1 rg1)) (by rw [(kj_eq w37 (by decide) : ((a 57).getD (0 : Int32).toNatClampNeg 0) = 5)]) ?_
          first | refine ft_go mi_k30 3 131 [(4, .int m7), (3, .int ((a 58).getD (0 : Int32).toNatClampNeg 0)), (2, .int ((a 57).getD (0 : Int32).toNatClampNeg 0)), (0, .ref 50), (1, .int x1)] [.int x1, .ref 70, .int x1, .ref 70] (ku ig1 3215 ((ig1 3215) + m7)) a21 qg1 rg1 (by rfl) ?_ | refine ko_steps mi_in30 3 _ (131, [(4, .int m7), (3, .int ((a 58).getD (0 : Int32).toNatClampNeg 0)), (2, .int ((a 57).getD (0 : Int32).toNatClampNeg 0)), (0, .ref 50), (1, .int x1)], [.int x1, .ref 70, .int x1, .ref 70], (0, 0), ks (ku ig1 3215 ((ig1 3215) + m7)) a21 qg1 rg1) (by rfl) ?_
          refine ko_iald3 mi_k30.1 (n := 8) (c := 8) (ax := (0, 0, 0, 0, 0)) (mi_k30.2 _ _ (by rfl)) (by rfl) (ksG70 _ _ _ _) (hJ21.I.2.1 70) rfl (oz3 hp0.1) (oz1032 hp0.2) ?_
          have b38 : ((-2147483648 : Int) ≤ ((a21 70).getD x1.toNatClampNeg 0).toInt) ∧ (((a21 70).getD x1.toNatClampNeg 0).toInt ≤ 2147483647) := kd_bd ((a21 70).getD x1.toNatClampNeg 0)
          first | refine ft_go mi_k30 2 135 [(4, .int m7), (3, .int ((a 58).getD (0 : Int32).toNatClampNeg 0)), (2, .int ((a 57).getD (0 : Int32).toNatClampNeg 0)), (0, .ref 50), (1, .int x1)] [.int (((a21 70).getD x1.toNatClampNeg 0) + m7), .int x1, .ref 70] (ku ig1 3215 ((ig1 3215) + m7)) a21 qg1 rg1 (by rfl) ?_ | refine ko_steps mi_in30 2 _ (135, [(4, .int m7), (3, .int ((a 58).getD (0 : Int32).toNatClampNeg 0)), (2, .int ((a 57).getD (0 : Int32).toNatClampNeg 0)), (0, .ref 50), (1, .int x1)], [.int (((a21 70).getD x1.toNatClampNeg 0) + m7), .int x1, .ref 70], (0, 0), ks (ku ig1 3215 ((ig1 3215) + m7)) a21 qg1 rg1) (by rfl) ?_
          refine ko_iast3 mi_k30.1 (n := 8) (c := 8) (ax := (0, 0, 0, 0, 0)) (mi_k30.2 _ _ (by rfl)) (by rfl) (ksG70 _ _ _ _) (ksA70 _ _ _ _) (hJ21.I.2.1 70) rfl (oz3 hp0.1) (oz1032 hp0.2) ?_
          intro a39 ea39 fa39
          have hJ39 := kG_a3 hJ21 70 rfl ea39 fa39 (kd_bd _)
          exact ft_ret mi_k30 (by rfl) (hP  _ _ _ _ hJ39 trivial)
        by_cases w40 : ((a 57).getD (0 : Int32).toNatClampNeg 0).toInt = 6
        ·
          refine ko_eq (x1 := (128, [(4, .int m7), (3, .int ((a 58).getD (0 : Int32).toNatClampNeg 0)), (2, .int ((a 57).getD (0 : Int32).toNatClampNeg 0)), (0, .ref 50), (1, .int x1)], [.int 6, .ref 64], (0, 0), ks (ku ig1 3215 ((ig1 3215) + m7)) a21 qg1 rg1)) (by rw [(kj_eq w40 (by decide) : ((a 57).getD (0 : Int32).toNatClampNeg 0) = 6)]) ?_
          first | refine ft_go mi_k30 3 131 [(4, .int m7), (3, .int ((a 58).getD (0 : Int32).toNatClampNeg 0)), (2, .int ((a 57).getD (0 : Int32).toNatClampNeg 0)), (0, .ref 50), (1, .int x1)] [.int x1, .ref 71, .int x1, .ref 71] (ku ig1 3215 ((ig1 3215) + m7)) a21 qg1 rg1 (by rfl) ?_ | refine ko_steps mi_in30 3 _ (131, [(4, .int m7), (3, .int ((a 58).getD (0 : Int32).toNatClampNeg 0)), (2, .int ((a 57).getD (0 : Int32).toNatClampNeg 0)), (0, .ref 50), (1, .int x1)], [.int x1, .ref 71, .int x1, .ref 71], (0, 0), ks (ku ig1 3215 ((ig1 3215) + m7)) a21 qg1 rg1) (by rfl) ?_
          refine ko_iald3 mi_k30.1 (n := 8) (c := 8) (ax := (0, 0, 0, 0, 0)) (mi_k30.2 _ _ (by rfl)) (by rfl) (ksG71 _ _ _ _) (hJ21.I.2.1 71) rfl (oz3 hp0.1) (oz1032 hp0.2) ?_
          have b41 : ((-2147483648 : Int) ≤ ((a21 71).getD x1.toNatClampNeg 0).toInt) ∧ (((a21 71).getD x1.toNatClampNeg 0).toInt ≤ 2147483647) := kd_bd ((a21 71).getD x1.toNatClampNeg 0)
          first | refine ft_go mi_k30 2 135 [(4, .int m7), (3, .int ((a 58).getD (0 : Int32).toNatClampNeg 0)), (2, .int ((a 57).getD (0 : Int32).toNatClampNeg 0)), (0, .ref 50), (1, .int x1)] [.int (((a21 71).getD x1.toNatClampNeg 0) + m7), .int x1, .ref 71] (ku ig1 3215 ((ig1 3215) + m7)) a21 qg1 rg1 (by rfl) ?_ | refine ko_steps mi_in30 2 _ (135, [(4, .int m7), (3, .int ((a 58).getD (0 : Int32).toNatClampNeg 0)), (2, .int ((a 57).getD (0 : Int32).toNatClampNeg 0)), (0, .ref 50), (1, .int x1)], [.int (((a21 71).getD x1.toNatClampNeg 0) + m7), .int x1, .ref 71], (0, 0), ks (ku ig1 3215 ((ig1 3215) + m7)) a21 qg1 rg1) (by rfl) ?_
          refine ko_iast3 mi_k30.1 (n := 8) (c := 8) (ax := (0, 0, 0, 0, 0)) (mi_k30.2 _ _ (by rfl)) (by rfl) (ksG71 _ _ _ _) (ksA71 _ _ _ _) (hJ21.I.2.1 71) rfl (oz3 hp0.1) (oz1032 hp0.2) ?_
          intro a42 ea42 fa42
          have hJ42 := kG_a3 hJ21 71 rfl ea42 fa42 (kd_bd _)
          exact ft_ret mi_k30 (by rfl) (hP  _ _ _ _ hJ42 trivial)
        by_cases w43 : ((a 57).getD (0 : Int32).toNatClampNeg 0).toInt = 7
        ·
          refine ko_eq (x1 := (128, [(4, .int m7), (3, .int ((a 58).getD (0 : Int32).toNatClampNeg 0)), (2, .int ((a 57).getD (0 : Int32).toNatClampNeg 0)), (0, .ref 50), (1, .int x1)], [.int 7, .ref 64], (0, 0), ks (ku ig1 3215 ((ig1 3215) + m7)) a21 qg1 rg1)) (by rw [(kj_eq w43 (by decide) : ((a 57).getD (0 : Int32).toNatClampNeg 0) = 7)]) ?_
          first | refine ft_go mi_k30 3 131 [(4, .int m7), (3, .int ((a 58).getD (0 : Int32).toNatClampNeg 0)), (2, .int ((a 57).getD (0 : Int32).toNatClampNeg 0)), (0, .ref 50), (1, .int x1)] [.int x1, .ref 72, .int x1, .ref 72] (ku ig1 3215 ((ig1 3215) + m7)) a21 qg1 rg1 (by rfl) ?_ | refine ko_steps mi_in30 3 _ (131, [(4, .int m7), (3, .int ((a 58).getD (0 : Int32).toNatClampNeg 0)), (2, .int ((a 57).getD (0 : Int32).toNatClampNeg 0)), (0, .ref 50), (1, .int x1)], [.int x1, .ref 72, .int x1, .ref 72], (0, 0), ks (ku ig1 3215 ((ig1 3215) + m7)) a21 qg1 rg1) (by rfl) ?_
          refine ko_iald3 mi_k30.1 (n := 8) (c := 8) (ax := (0, 0, 0, 0, 0)) (mi_k30.2 _ _ (by rfl)) (by rfl) (ksG72 _ _ _ _) (hJ21.I.2.1 72) rfl (oz3 hp0.1) (oz1032 hp0.2) ?_
          have b44 : ((-2147483648 : Int) ≤ ((a21 72).getD x1.toNatClampNeg 0).toInt) ∧ (((a21 72).getD x1.toNatClampNeg 0).toInt ≤ 2147483647) := kd_bd ((a21 72).getD x1.toNatClampNeg 0)
          first | refine ft_go mi_k30 2 135 [(4, .int m7), (3, .int ((a 58).getD (0 : Int32).toNatClampNeg 0)), (2, .int ((a 57).getD (0 : Int32).toNatClampNeg 0)), (0, .ref 50), (1, .int x1)] [.int (((a21 72).getD x1.toNatClampNeg 0) + m7), .int x1, .ref 72] (ku ig1 3215 ((ig1 3215) + m7)) a21 qg1 rg1 (by rfl) ?_ | refine ko_steps mi_in30 2 _ (135, [(4, .int m7), (3, .int ((a 58).getD (0 : Int32).toNatClampNeg 0)), (2, .int ((a 57).getD (0 : Int32).toNatClampNeg 0)), (0, .ref 50), (1, .int x1)], [.int (((a21 72).getD x1.toNatClampNeg 0) + m7), .int x1, .ref 72], (0, 0), ks (ku ig1 3215 ((ig1 3215) + m7)) a21 qg1 rg1) (by rfl) ?_
          refine ko_iast3 mi_k30.1 (n := 8) (c := 8) (ax := (0, 0, 0, 0, 0)) (mi_k30.2 _ _ (by rfl)) (by rfl) (ksG72 _ _ _ _) (ksA72 _ _ _ _) (hJ21.I.2.1 72) rfl (oz3 hp0.1) (oz1032 hp0.2) ?_
          intro a45 ea45 fa45
          have hJ45 := kG_a3 hJ21 72 rfl ea45 fa45 (kd_bd _)
          exact ft_ret mi_k30 (by rfl) (hP  _ _ _ _ hJ45 trivial)
        exact (oz1051 fig1_3200.2 w22 w25 w28 w31 w34 w37 w40 w43 z6.1 z6.2).elim
      ·
        subst eg5
        have fig1_3200 : ((0 : Int) ≤ (ig1 3200).toInt) ∧ ((ig1 3200).toInt ≤ 8) := hGg1.I.1 3200
        have fi_3200 : ((0 : Int) ≤ (i 3200).toInt) ∧ ((i 3200).toInt ≤ 8) := hG.I.1 3200
        have efig1_3200 : (ig1 3200).toInt = (i 3200).toInt := kg1.ti 3200 rfl
        have z46 : ¬ (((0 : Int) ≤ ((a 57).getD (0 : Int32).toNatClampNeg 0).toInt) ∧ (((a 57).getD (0 : Int32).toNatClampNeg 0).toInt < (ig1 3200).toInt)) := hg5
        first | refine ft_go mi_k30 1 54 [(3, .int ((a 58).getD (0 : Int32).toNatClampNeg 0)), (2, .int ((a 57).getD (0 : Int32).toNatClampNeg 0)), (0, .ref 50), (1, .int x1)] [] ig1 ag1 qg1 rg1 (by rfl) ?_ | refine ko_steps mi_in30 1 _ (54, [(3, .int ((a 58).getD (0 : Int32).toNatClampNeg 0)), (2, .int ((a 57).getD (0 : Int32).toNatClampNeg 0)), (0, .ref 50), (1, .int x1)], [], (0, 0), ks ig1 ag1 qg1 rg1) (by rfl) ?_
        exact ft_ret mi_k30 (by rfl) (hP  _ _ _ _ hGg1 trivial)
  ·
    have c47 : (ig1 3214).toInt = (8 : Int32).toInt := kd_neF c; clear c
    have hJ48 := kG_i hGg1 3214 rfl (v := ((a 57).getD (0 : Int32).toNatClampNeg 0)) (kd_bd _)
    first | refine ft_go mi_k30 5 43 [(3, .int ((a 58).getD (0 : Int32).toNatClampNeg 0)), (2, .int ((a 57).getD (0 : Int32).toNatClampNeg 0)), (0, .ref 50), (1, .int x1)] [.int x1, .int ((a 57).getD (0 : Int32).toNatClampNeg 0)] (ku ig1 3214 ((a 57).getD (0 : Int32).toNatClampNeg 0)) ag1 qg1 rg1 (by rfl) ?_ | refine ko_steps mi_in30 5 _ (43, [(3, .int ((a 58).getD (0 : Int32).toNatClampNeg 0)), (2, .int ((a 57).getD (0 : Int32).toNatClampNeg 0)), (0, .ref 50), (1, .int x1)], [.int x1, .int ((a 57).getD (0 : Int32).toNatClampNeg 0)], (0, 0), ks (ku ig1 3214 ((a 57).getD (0 : Int32).toNatClampNeg 0)) ag1 qg1 rg1) (by rfl) ?_
    refine ft_if mi_k30 (((a 57).getD (0 : Int32).toNatClampNeg 0) == x1) 54 46 [(3, .int ((a 58).getD (0 : Int32).toNatClampNeg 0)), (2, .int ((a 57).getD (0 : Int32).toNatClampNeg 0)), (0, .ref 50), (1, .int x1)] [] (by rfl) (fun c => ?_) (fun c => ?_)
    ·
      have c49 : ((a 57).getD (0 : Int32).toNatClampNeg 0).toInt = x1.toInt := kd_eq c; clear c
      exact ft_ret mi_k30 (by rfl) (hP  _ _ _ _ hJ48 trivial)
    ·
      have c50 : ((a 57).getD (0 : Int32).toNatClampNeg 0).toInt ≠ x1.toInt := kd_eqF c; clear c
      first | refine ft_go mi_k30 2 48 [(3, .int ((a 58).getD (0 : Int32).toNatClampNeg 0)), (2, .int ((a 57).getD (0 : Int32).toNatClampNeg 0)), (0, .ref 50), (1, .int x1)] [.int ((a 57).getD (0 : Int32).toNatClampNeg 0), .ref 50] (ku ig1 3214 ((a 57).getD (0 : Int32).toNatClampNeg 0)) ag1 qg1 rg1 (by rfl) ?_ | refine ko_steps mi_in30 2 _ (48, [(3, .int ((a 58).getD (0 : Int32).toNatClampNeg 0)), (2, .int ((a 57).getD (0 : Int32).toNatClampNeg 0)), (0, .ref 50), (1, .int x1)], [.int ((a 57).getD (0 : Int32).toNatClampNeg 0), .ref 50], (0, 0), ks (ku ig1 3214 ((a 57).getD (0 : Int32).toNatClampNeg 0)) ag1 qg1 rg1) (by rfl) ?_
      refine ko_callPI mi_k30.1 (pc := 48) (ls := [(3, .int ((a 58).getD (0 : Int32).toNatClampNeg 0)), (2, .int ((a 57).getD (0 : Int32).toNatClampNeg 0)), (0, .ref 50), (1, .int x1)]) (st := [.int ((a 57).getD (0 : Int32).toNatClampNeg 0), .ref 50]) (h := ks (ku ig1 3214 ((a 57).getD (0 : Int32).toNatClampNeg 0)) ag1 qg1 rg1) (i := (.invokevirtual 85, 3, 24, 0, 9, 0, 165)) (mi_k30.2 _ _ (by rfl)) (ft_invS mi_pq24 (by rfl)) (cy := mi_c24) mi_pq24 rfl (kc24_50 hJ48.I hJ48.R ((a 57).getD (0 : Int32).toNatClampNeg 0)) (by decide) ?_
      intro vg51 hg51
      rcases hg51 with ⟨eg51, hg51⟩ | ⟨eg51, hg51⟩
      ·
        subst eg51
        have fig1_3200 : ((0 : Int) ≤ (ig1 3200).toInt) ∧ ((ig1 3200).toInt ≤ 8) := hJ48.I.1 3200
        have fi_3200 : ((0 : Int) ≤ (i 3200).toInt) ∧ ((i 3200).toInt ≤ 8) := hG.I.1 3200
        have efig1_3200 : (ig1 3200).toInt = (i 3200).toInt := kg1.ti 3200 rfl
        have z52 : ((0 : Int) ≤ ((a 57).getD (0 : Int32).toNatClampNeg 0).toInt) ∧ (((a 57).getD (0 : Int32).toNatClampNeg 0).toInt < (ig1 3200).toInt) := hg51
        first | refine ft_go mi_k30 5 61 [(3, .int ((a 58).getD (0 : Int32).toNatClampNeg 0)), (2, .int ((a 57).getD (0 : Int32).toNatClampNeg 0)), (0, .ref 50), (1, .int x1)] [.int ((a 57).getD (0 : Int32).toNatClampNeg 0), .ref 51, .int ((a 58).getD (0 : Int32).toNatClampNeg 0)] (ku ig1 3214 ((a 57).getD (0 : Int32).toNatClampNeg 0)) ag1 qg1 rg1 (by rfl) ?_ | refine ko_steps mi_in30 5 _ (61, [(3, .int ((a 58).getD (0 : Int32).toNatClampNeg 0)), (2, .int ((a 57).getD (0 : Int32).toNatClampNeg 0)), (0, .ref 50), (1, .int x1)], [.int ((a 57).getD (0 : Int32).toNatClampNeg 0), .ref 51, .int ((a 58).getD (0 : Int32).toNatClampNeg 0)], (0, 0), ks (ku ig1 3214 ((a 57).getD (0 : Int32).toNatClampNeg 0)) ag1 qg1 rg1) (by rfl) ?_
        refine ko_iald3 mi_k30.1 (n := 8) (c := 8) (ax := (0, 0, 0, 0, 0)) (mi_k30.2 _ _ (by rfl)) (by rfl) (ksG51 _ _ _ _) (hJ48.I.2.1 51) rfl (oz3 z52.1) (oz974 fig1_3200.2 z52.2) ?_
        have m54 : (((bif decide (((ag1 51).getD ((a 57).getD (0 : Int32).toNatClampNeg 0).toNatClampNeg 0) < ((a 58).getD (0 : Int32).toNatClampNeg 0)) then ((ag1 51).getD ((a 57).getD (0 : Int32).toNatClampNeg 0).toNatClampNeg 0) else ((a 58).getD (0 : Int32).toNatClampNeg 0)).toInt ≤ ((a 58).getD (0 : Int32).toNatClampNeg 0).toInt) ∧ ((bif decide (((ag1 51).getD ((a 57).getD (0 : Int32).toNatClampNeg 0).toNatClampNeg 0) < ((a 58).getD (0 : Int32).toNatClampNeg 0)) then ((ag1 51).getD ((a 57).getD (0 : Int32).toNatClampNeg 0).toNatClampNeg 0) else ((a 58).getD (0 : Int32).toNatClampNeg 0)).toInt ≤ ((ag1 51).getD ((a 57).getD (0 : Int32).toNatClampNeg 0).toNatClampNeg 0).toInt)) ∧ ((bif decide (((ag1 51).getD ((a 57).getD (0 : Int32).toNatClampNeg 0).toNatClampNeg 0) < ((a 58).getD (0 : Int32).toNatClampNeg 0)) then ((ag1 51).getD ((a 57).getD (0 : Int32).toNatClampNeg 0).toNatClampNeg 0) else ((a 58).getD (0 : Int32).toNatClampNeg 0)).toInt = ((a 58).getD (0 : Int32).toNatClampNeg 0).toInt ∨ (bif decide (((ag1 51).getD ((a 57).getD (0 : Int32).toNatClampNeg 0).toNatClampNeg 0) < ((a 58).getD (0 : Int32).toNatClampNeg 0)) then ((ag1 51).getD ((a 57).getD (0 : Int32).toNatClampNeg 0).toNatClampNeg 0) else ((a 58).getD (0 : Int32).toNatClampNeg 0)).toInt = ((ag1 51).getD ((a 57).getD (0 : Int32).toNatClampNeg 0).toNatClampNeg 0).toInt) := kd_min
        first | refine ft_go mi_k30 1 65 [(3, .int ((a 58).getD (0 : Int32).toNatClampNeg 0)), (2, .int ((a 57).getD (0 : Int32).toNatClampNeg 0)), (0, .ref 50), (1, .int x1)] [.int (bif decide (((ag1 51).getD ((a 57).getD (0 : Int32).toNatClampNeg 0).toNatClampNeg 0) < ((a 58).getD (0 : Int32).toNatClampNeg 0)) then ((ag1 51).getD ((a 57).getD (0 : Int32).toNatClampNeg 0).toNatClampNeg 0) else ((a 58).getD (0 : Int32).toNatClampNeg 0))] (ku ig1 3214 ((a 57).getD (0 : Int32).toNatClampNeg 0)) ag1 qg1 rg1 (by rfl) ?_ | refine ko_steps mi_in30 1 _ (65, [(3, .int ((a 58).getD (0 : Int32).toNatClampNeg 0)), (2, .int ((a 57).getD (0 : Int32).toNatClampNeg 0)), (0, .ref 50), (1, .int x1)], [.int (bif decide (((ag1 51).getD ((a 57).getD (0 : Int32).toNatClampNeg 0).toNatClampNeg 0) < ((a 58).getD (0 : Int32).toNatClampNeg 0)) then ((ag1 51).getD ((a 57).getD (0 : Int32).toNatClampNeg 0).toNatClampNeg 0) else ((a 58).getD (0 : Int32).toNatClampNeg 0))], (0, 0), ks (ku ig1 3214 ((a 57).getD (0 : Int32).toNatClampNeg 0)) ag1 qg1 rg1) (by rfl) ?_
        generalize (bif decide (((ag1 51).getD ((a 57).getD (0 : Int32).toNatClampNeg 0).toNatClampNeg 0) < ((a 58).getD (0 : Int32).toNatClampNeg 0)) then ((ag1 51).getD ((a 57).getD (0 : Int32).toNatClampNeg 0).toNatClampNeg 0) else ((a 58).getD (0 : Int32).toNatClampNeg 0)) = m53 at m54 ⊢
        first | refine ft_go mi_k30 5 73 [(4, .int m53), (3, .int ((a 58).getD (0 : Int32).toNatClampNeg 0)), (2, .int ((a 57).getD (0 : Int32).toNatClampNeg 0)), (0, .ref 50), (1, .int x1)] [.int ((a 57).getD (0 : Int32).toNatClampNeg 0), .ref 51, .int ((a 57).getD (0 : Int32).toNatClampNeg 0), .ref 51] (ku ig1 3214 ((a 57).getD (0 : Int32).toNatClampNeg 0)) ag1 qg1 rg1 (by rfl) ?_ | refine ko_steps mi_in30 5 _ (73, [(4, .int m53), (3, .int ((a 58).getD (0 : Int32).toNatClampNeg 0)), (2, .int ((a 57).getD (0 : Int32).toNatClampNeg 0)), (0, .ref 50), (1, .int x1)], [.int ((a 57).getD (0 : Int32).toNatClampNeg 0), .ref 51, .int ((a 57).getD (0 : Int32).toNatClampNeg 0), .ref 51], (0, 0), ks (ku ig1 3214 ((a 57).getD (0 : Int32).toNatClampNeg 0)) ag1 qg1 rg1) (by rfl) ?_
        refine ko_iald3 mi_k30.1 (n := 8) (c := 8) (ax := (0, 0, 0, 0, 0)) (mi_k30.2 _ _ (by rfl)) (by rfl) (ksG51 _ _ _ _) (hJ48.I.2.1 51) rfl (oz3 z52.1) (oz974 fig1_3200.2 z52.2) ?_
        have b55 : ((-2147483648 : Int) ≤ ((ag1 51).getD ((a 57).getD (0 : Int32).toNatClampNeg 0).toNatClampNeg 0).toInt) ∧ (((ag1 51).getD ((a 57).getD (0 : Int32).toNatClampNeg 0).toNatClampNeg 0).toInt ≤ 2147483647) := kd_bd ((ag1 51).getD ((a 57).getD (0 : Int32).toNatClampNeg 0).toNatClampNeg 0)
        have b56 : ((-2147483648 : Int) ≤ m53.toInt) ∧ (m53.toInt ≤ 2147483647) := kd_bd m53
        first | refine ft_go mi_k30 2 77 [(4, .int m53), (3, .int ((a 58).getD (0 : Int32).toNatClampNeg 0)), (2, .int ((a 57).getD (0 : Int32).toNatClampNeg 0)), (0, .ref 50), (1, .int x1)] [.int (((ag1 51).getD ((a 57).getD (0 : Int32).toNatClampNeg 0).toNatClampNeg 0) - m53), .int ((a 57).getD (0 : Int32).toNatClampNeg 0), .ref 51] (ku ig1 3214 ((a 57).getD (0 : Int32).toNatClampNeg 0)) ag1 qg1 rg1 (by rfl) ?_ | refine ko_steps mi_in30 2 _ (77, [(4, .int m53), (3, .int ((a 58).getD (0 : Int32).toNatClampNeg 0)), (2, .int ((a 57).getD (0 : Int32).toNatClampNeg 0)), (0, .ref 50), (1, .int x1)], [.int (((ag1 51).getD ((a 57).getD (0 : Int32).toNatClampNeg 0).toNatClampNeg 0) - m53), .int ((a 57).getD (0 : Int32).toNatClampNeg 0), .ref 51], (0, 0), ks (ku ig1 3214 ((a 57).getD (0 : Int32).toNatClampNeg 0)) ag1 qg1 rg1) (by rfl) ?_
        refine ko_iast3 mi_k30.1 (n := 8) (c := 8) (ax := (0, 0, 0, 0, 0)) (mi_k30.2 _ _ (by rfl)) (by rfl) (ksG51 _ _ _ _) (ksA51 _ _ _ _) (hJ48.I.2.1 51) rfl (oz3 z52.1) (oz974 fig1_3200.2 z52.2) ?_
        intro a57 ea57 fa57
        have hJ57 := kG_a3 hJ48 51 rfl ea57 fa57 (kd_bd _)
        first | refine ft_go mi_k30 7 91 [(4, .int m53), (3, .int ((a 58).getD (0 : Int32).toNatClampNeg 0)), (2, .int ((a 57).getD (0 : Int32).toNatClampNeg 0)), (0, .ref 50), (1, .int x1)] [.int x1, .ref 51, .int 999, .int x1, .ref 51] (ku ig1 3214 ((a 57).getD (0 : Int32).toNatClampNeg 0)) a57 qg1 rg1 (by rfl) ?_ | refine ko_steps mi_in30 7 _ (91, [(4, .int m53), (3, .int ((a 58).getD (0 : Int32).toNatClampNeg 0)), (2, .int ((a 57).getD (0 : Int32).toNatClampNeg 0)), (0, .ref 50), (1, .int x1)], [.int x1, .ref 51, .int 999, .int x1, .ref 51], (0, 0), ks (ku ig1 3214 ((a 57).getD (0 : Int32).toNatClampNeg 0)) a57 qg1 rg1) (by rfl) ?_
        refine ko_iald3 mi_k30.1 (n := 8) (c := 8) (ax := (0, 0, 0, 0, 0)) (mi_k30.2 _ _ (by rfl)) (by rfl) (ksG51 _ _ _ _) (hJ57.I.2.1 51) rfl (oz3 hp0.1) (oz1032 hp0.2) ?_
        have b58 : ((-2147483648 : Int) ≤ ((a57 51).getD x1.toNatClampNeg 0).toInt) ∧ (((a57 51).getD x1.toNatClampNeg 0).toInt ≤ 2147483647) := kd_bd ((a57 51).getD x1.toNatClampNeg 0)
        first | refine ft_go mi_k30 2 95 [(4, .int m53), (3, .int ((a 58).getD (0 : Int32).toNatClampNeg 0)), (2, .int ((a 57).getD (0 : Int32).toNatClampNeg 0)), (0, .ref 50), (1, .int x1)] [.int (((a57 51).getD x1.toNatClampNeg 0) + m53), .int 999, .int x1, .ref 51] (ku ig1 3214 ((a 57).getD (0 : Int32).toNatClampNeg 0)) a57 qg1 rg1 (by rfl) ?_ | refine ko_steps mi_in30 2 _ (95, [(4, .int m53), (3, .int ((a 58).getD (0 : Int32).toNatClampNeg 0)), (2, .int ((a 57).getD (0 : Int32).toNatClampNeg 0)), (0, .ref 50), (1, .int x1)], [.int (((a57 51).getD x1.toNatClampNeg 0) + m53), .int 999, .int x1, .ref 51], (0, 0), ks (ku ig1 3214 ((a 57).getD (0 : Int32).toNatClampNeg 0)) a57 qg1 rg1) (by rfl) ?_
        have m60 : (((bif decide ((((a57 51).getD x1.toNatClampNeg 0) + m53) < 999) then (((a57 51).getD x1.toNatClampNeg 0) + m53) else 999).toInt ≤ (999 : Int32).toInt) ∧ ((bif decide ((((a57 51).getD x1.toNatClampNeg 0) + m53) < 999) then (((a57 51).getD x1.toNatClampNeg 0) + m53) else 999).toInt ≤ (((a57 51).getD x1.toNatClampNeg 0) + m53).toInt)) ∧ ((bif decide ((((a57 51).getD x1.toNatClampNeg 0) + m53) < 999) then (((a57 51).getD x1.toNatClampNeg 0) + m53) else 999).toInt = (999 : Int32).toInt ∨ (bif decide ((((a57 51).getD x1.toNatClampNeg 0) + m53) < 999) then (((a57 51).getD x1.toNatClampNeg 0) + m53) else 999).toInt = (((a57 51).getD x1.toNatClampNeg 0) + m53).toInt) := kd_min
        first | refine ft_go mi_k30 1 98 [(4, .int m53), (3, .int ((a 58).getD (0 : Int32).toNatClampNeg 0)), (2, .int ((a 57).getD (0 : Int32).toNatClampNeg 0)), (0, .ref 50), (1, .int x1)] [.int (bif decide ((((a57 51).getD x1.toNatClampNeg 0) + m53) < 999) then (((a57 51).getD x1.toNatClampNeg 0) + m53) else 999), .int x1, .ref 51] (ku ig1 3214 ((a 57).getD (0 : Int32).toNatClampNeg 0)) a57 qg1 rg1 (by rfl) ?_ | refine ko_steps mi_in30 1 _ (98, [(4, .int m53), (3, .int ((a 58).getD (0 : Int32).toNatClampNeg 0)), (2, .int ((a 57).getD (0 : Int32).toNatClampNeg 0)), (0, .ref 50), (1, .int x1)], [.int (bif decide ((((a57 51).getD x1.toNatClampNeg 0) + m53) < 999) then (((a57 51).getD x1.toNatClampNeg 0) + m53) else 999), .int x1, .ref 51], (0, 0), ks (ku ig1 3214 ((a 57).getD (0 : Int32).toNatClampNeg 0)) a57 qg1 rg1) (by rfl) ?_
        generalize (bif decide ((((a57 51).getD x1.toNatClampNeg 0) + m53) < 999) then (((a57 51).getD x1.toNatClampNeg 0) + m53) else 999) = m59 at m60 ⊢
        refine ko_iast3 mi_k30.1 (n := 8) (c := 8) (ax := (0, 0, 0, 0, 0)) (mi_k30.2 _ _ (by rfl)) (by rfl) (ksG51 _ _ _ _) (ksA51 _ _ _ _) (hJ57.I.2.1 51) rfl (oz3 hp0.1) (oz1032 hp0.2) ?_
        intro a61 ea61 fa61
        have hJ61 := kG_a3 hJ57 51 rfl ea61 fa61 (kd_bd _)
        have efig1_3215 : (ig1 3215).toInt = (i 3215).toInt := kg1.ti 3215 rfl
        have b62 : ((-2147483648 : Int) ≤ (ig1 3215).toInt) ∧ ((ig1 3215).toInt ≤ 2147483647) := kd_bd (ig1 3215)
        have hJ63 := kG_i hJ61 3215 rfl (v := ((ig1 3215) + m53)) (kd_bd _)
        first | refine ft_go mi_k30 10 116 [(4, .int m53), (3, .int ((a 58).getD (0 : Int32).toNatClampNeg 0)), (2, .int ((a 57).getD (0 : Int32).toNatClampNeg 0)), (0, .ref 50), (1, .int x1)] [.int 2, .ref 63, .int 2, .ref 63] (ku (ku ig1 3214 ((a 57).getD (0 : Int32).toNatClampNeg 0)) 3215 ((ig1 3215) + m53)) a61 qg1 rg1 (by rfl) ?_ | refine ko_steps mi_in30 10 _ (116, [(4, .int m53), (3, .int ((a 58).getD (0 : Int32).toNatClampNeg 0)), (2, .int ((a 57).getD (0 : Int32).toNatClampNeg 0)), (0, .ref 50), (1, .int x1)], [.int 2, .ref 63, .int 2, .ref 63], (0, 0), ks (ku (ku ig1 3214 ((a 57).getD (0 : Int32).toNatClampNeg 0)) 3215 ((ig1 3215) + m53)) a61 qg1 rg1) (by rfl) ?_
        refine ko_iald3 mi_k30.1 (n := 5) (c := 5) (ax := (0, 0, 0, 0, 0)) (mi_k30.2 _ _ (by rfl)) (by rfl) (ksG63 _ _ _ _) (hJ63.I.2.1 63) rfl (oz256 kn2) (oz549 kn2) ?_
        have b64 : ((-2147483648 : Int) ≤ ((a 58).getD (0 : Int32).toNatClampNeg 0).toInt) ∧ (((a 58).getD (0 : Int32).toNatClampNeg 0).toInt ≤ 2147483647) := kd_bd ((a 58).getD (0 : Int32).toNatClampNeg 0)
        have b65 : ((-2147483648 : Int) ≤ ((a61 63).getD (2 : Int32).toNatClampNeg 0).toInt) ∧ (((a61 63).getD (2 : Int32).toNatClampNeg 0).toInt ≤ 2147483647) := kd_bd ((a61 63).getD (2 : Int32).toNatClampNeg 0)
        have b66 : ((-2147483648 : Int) ≤ (((a 58).getD (0 : Int32).toNatClampNeg 0) - m53).toInt) ∧ ((((a 58).getD (0 : Int32).toNatClampNeg 0) - m53).toInt ≤ 2147483647) := kd_bd (((a 58).getD (0 : Int32).toNatClampNeg 0) - m53)
        first | refine ft_go mi_k30 4 122 [(4, .int m53), (3, .int ((a 58).getD (0 : Int32).toNatClampNeg 0)), (2, .int ((a 57).getD (0 : Int32).toNatClampNeg 0)), (0, .ref 50), (1, .int x1)] [.int (((a61 63).getD (2 : Int32).toNatClampNeg 0) + (((a 58).getD (0 : Int32).toNatClampNeg 0) - m53)), .int 2, .ref 63] (ku (ku ig1 3214 ((a 57).getD (0 : Int32).toNatClampNeg 0)) 3215 ((ig1 3215) + m53)) a61 qg1 rg1 (by rfl) ?_ | refine ko_steps mi_in30 4 _ (122, [(4, .int m53), (3, .int ((a 58).getD (0 : Int32).toNatClampNeg 0)), (2, .int ((a 57).getD (0 : Int32).toNatClampNeg 0)), (0, .ref 50), (1, .int x1)], [.int (((a61 63).getD (2 : Int32).toNatClampNeg 0) + (((a 58).getD (0 : Int32).toNatClampNeg 0) - m53)), .int 2, .ref 63], (0, 0), ks (ku (ku ig1 3214 ((a 57).getD (0 : Int32).toNatClampNeg 0)) 3215 ((ig1 3215) + m53)) a61 qg1 rg1) (by rfl) ?_
        refine ko_iast3 mi_k30.1 (n := 5) (c := 5) (ax := (0, 0, 0, 0, 0)) (mi_k30.2 _ _ (by rfl)) (by rfl) (ksG63 _ _ _ _) (ksA63 _ _ _ _) (hJ63.I.2.1 63) rfl (oz256 kn2) (oz549 kn2) ?_
        intro a67 ea67 fa67
        have hJ67 := kG_a3 hJ63 63 rfl ea67 fa67 (kd_bd _)
        first | refine ft_go mi_k30 3 128 [(4, .int m53), (3, .int ((a 58).getD (0 : Int32).toNatClampNeg 0)), (2, .int ((a 57).getD (0 : Int32).toNatClampNeg 0)), (0, .ref 50), (1, .int x1)] [.int ((a 57).getD (0 : Int32).toNatClampNeg 0), .ref 64] (ku (ku ig1 3214 ((a 57).getD (0 : Int32).toNatClampNeg 0)) 3215 ((ig1 3215) + m53)) a67 qg1 rg1 (by rfl) ?_ | refine ko_steps mi_in30 3 _ (128, [(4, .int m53), (3, .int ((a 58).getD (0 : Int32).toNatClampNeg 0)), (2, .int ((a 57).getD (0 : Int32).toNatClampNeg 0)), (0, .ref 50), (1, .int x1)], [.int ((a 57).getD (0 : Int32).toNatClampNeg 0), .ref 64], (0, 0), ks (ku (ku ig1 3214 ((a 57).getD (0 : Int32).toNatClampNeg 0)) 3215 ((ig1 3215) + m53)) a67 qg1 rg1) (by rfl) ?_
        by_cases w68 : ((a 57).getD (0 : Int32).toNatClampNeg 0).toInt = 0
        ·
          refine ko_eq (x1 := (128, [(4, .int m53), (3, .int ((a 58).getD (0 : Int32).toNatClampNeg 0)), (2, .int ((a 57).getD (0 : Int32).toNatClampNeg 0)), (0, .ref 50), (1, .int x1)], [.int 0, .ref 64], (0, 0), ks (ku (ku ig1 3214 ((a 57).getD (0 : Int32).toNatClampNeg 0)) 3215 ((ig1 3215) + m53)) a67 qg1 rg1)) (by rw [(kj_eq w68 (by decide) : ((a 57).getD (0 : Int32).toNatClampNeg 0) = 0)]) ?_
          first | refine ft_go mi_k30 3 131 [(4, .int m53), (3, .int ((a 58).getD (0 : Int32).toNatClampNeg 0)), (2, .int ((a 57).getD (0 : Int32).toNatClampNeg 0)), (0, .ref 50), (1, .int x1)] [.int x1, .ref 65, .int x1, .ref 65] (ku (ku ig1 3214 ((a 57).getD (0 : Int32).toNatClampNeg 0)) 3215 ((ig1 3215) + m53)) a67 qg1 rg1 (by rfl) ?_ | refine ko_steps mi_in30 3 _ (131, [(4, .int m53), (3, .int ((a 58).getD (0 : Int32).toNatClampNeg 0)), (2, .int ((a 57).getD (0 : Int32).toNatClampNeg 0)), (0, .ref 50), (1, .int x1)], [.int x1, .ref 65, .int x1, .ref 65], (0, 0), ks (ku (ku ig1 3214 ((a 57).getD (0 : Int32).toNatClampNeg 0)) 3215 ((ig1 3215) + m53)) a67 qg1 rg1) (by rfl) ?_
          refine ko_iald3 mi_k30.1 (n := 8) (c := 8) (ax := (0, 0, 0, 0, 0)) (mi_k30.2 _ _ (by rfl)) (by rfl) (ksG65 _ _ _ _) (hJ67.I.2.1 65) rfl (oz3 hp0.1) (oz1032 hp0.2) ?_
          have b69 : ((-2147483648 : Int) ≤ ((a67 65).getD x1.toNatClampNeg 0).toInt) ∧ (((a67 65).getD x1.toNatClampNeg 0).toInt ≤ 2147483647) := kd_bd ((a67 65).getD x1.toNatClampNeg 0)
          first | refine ft_go mi_k30 2 135 [(4, .int m53), (3, .int ((a 58).getD (0 : Int32).toNatClampNeg 0)), (2, .int ((a 57).getD (0 : Int32).toNatClampNeg 0)), (0, .ref 50), (1, .int x1)] [.int (((a67 65).getD x1.toNatClampNeg 0) + m53), .int x1, .ref 65] (ku (ku ig1 3214 ((a 57).getD (0 : Int32).toNatClampNeg 0)) 3215 ((ig1 3215) + m53)) a67 qg1 rg1 (by rfl) ?_ | refine ko_steps mi_in30 2 _ (135, [(4, .int m53), (3, .int ((a 58).getD (0 : Int32).toNatClampNeg 0)), (2, .int ((a 57).getD (0 : Int32).toNatClampNeg 0)), (0, .ref 50), (1, .int x1)], [.int (((a67 65).getD x1.toNatClampNeg 0) + m53), .int x1, .ref 65], (0, 0), ks (ku (ku ig1 3214 ((a 57).getD (0 : Int32).toNatClampNeg 0)) 3215 ((ig1 3215) + m53)) a67 qg1 rg1) (by rfl) ?_
          refine ko_iast3 mi_k30.1 (n := 8) (c := 8) (ax := (0, 0, 0, 0, 0)) (mi_k30.2 _ _ (by rfl)) (by rfl) (ksG65 _ _ _ _) (ksA65 _ _ _ _) (hJ67.I.2.1 65) rfl (oz3 hp0.1) (oz1032 hp0.2) ?_
          intro a70 ea70 fa70
          have hJ70 := kG_a3 hJ67 65 rfl ea70 fa70 (kd_bd _)
          exact ft_ret mi_k30 (by rfl) (hP  _ _ _ _ hJ70 trivial)
        by_cases w71 : ((a 57).getD (0 : Int32).toNatClampNeg 0).toInt = 1
        ·
          refine ko_eq (x1 := (128, [(4, .int m53), (3, .int ((a 58).getD (0 : Int32).toNatClampNeg 0)), (2, .int ((a 57).getD (0 : Int32).toNatClampNeg 0)), (0, .ref 50), (1, .int x1)], [.int 1, .ref 64], (0, 0), ks (ku (ku ig1 3214 ((a 57).getD (0 : Int32).toNatClampNeg 0)) 3215 ((ig1 3215) + m53)) a67 qg1 rg1)) (by rw [(kj_eq w71 (by decide) : ((a 57).getD (0 : Int32).toNatClampNeg 0) = 1)]) ?_
          first | refine ft_go mi_k30 3 131 [(4, .int m53), (3, .int ((a 58).getD (0 : Int32).toNatClampNeg 0)), (2, .int ((a 57).getD (0 : Int32).toNatClampNeg 0)), (0, .ref 50), (1, .int x1)] [.int x1, .ref 66, .int x1, .ref 66] (ku (ku ig1 3214 ((a 57).getD (0 : Int32).toNatClampNeg 0)) 3215 ((ig1 3215) + m53)) a67 qg1 rg1 (by rfl) ?_ | refine ko_steps mi_in30 3 _ (131, [(4, .int m53), (3, .int ((a 58).getD (0 : Int32).toNatClampNeg 0)), (2, .int ((a 57).getD (0 : Int32).toNatClampNeg 0)), (0, .ref 50), (1, .int x1)], [.int x1, .ref 66, .int x1, .ref 66], (0, 0), ks (ku (ku ig1 3214 ((a 57).getD (0 : Int32).toNatClampNeg 0)) 3215 ((ig1 3215) + m53)) a67 qg1 rg1) (by rfl) ?_
          refine ko_iald3 mi_k30.1 (n := 8) (c := 8) (ax := (0, 0, 0, 0, 0)) (mi_k30.2 _ _ (by rfl)) (by rfl) (ksG66 _ _ _ _) (hJ67.I.2.1 66) rfl (oz3 hp0.1) (oz1032 hp0.2) ?_
          have b72 : ((-2147483648 : Int) ≤ ((a67 66).getD x1.toNatClampNeg 0).toInt) ∧ (((a67 66).getD x1.toNatClampNeg 0).toInt ≤ 2147483647) := kd_bd ((a67 66).getD x1.toNatClampNeg 0)
          first | refine ft_go mi_k30 2 135 [(4, .int m53), (3, .int ((a 58).getD (0 : Int32).toNatClampNeg 0)), (2, .int ((a 57).getD (0 : Int32).toNatClampNeg 0)), (0, .ref 50), (1, .int x1)] [.int (((a67 66).getD x1.toNatClampNeg 0) + m53), .int x1, .ref 66] (ku (ku ig1 3214 ((a 57).getD (0 : Int32).toNatClampNeg 0)) 3215 ((ig1 3215) + m53)) a67 qg1 rg1 (by rfl) ?_ | refine ko_steps mi_in30 2 _ (135, [(4, .int m53), (3, .int ((a 58).getD (0 : Int32).toNatClampNeg 0)), (2, .int ((a 57).getD (0 : Int32).toNatClampNeg 0)), (0, .ref 50), (1, .int x1)], [.int (((a67 66).getD x1.toNatClampNeg 0) + m53), .int x1, .ref 66], (0, 0), ks (ku (ku ig1 3214 ((a 57).getD (0 : Int32).toNatClampNeg 0)) 3215 ((ig1 3215) + m53)) a67 qg1 rg1) (by rfl) ?_
          refine ko_iast3 mi_k30.1 (n := 8) (c := 8) (ax := (0, 0, 0, 0, 0)) (mi_k30.2 _ _ (by rfl)) (by rfl) (ksG66 _ _ _ _) (ksA66 _ _ _ _) (hJ67.I.2.1 66) rfl (oz3 hp0.1) (oz1032 hp0.2) ?_
          intro a73 ea73 fa73
          have hJ73 := kG_a3 hJ67 66 rfl ea73 fa73 (kd_bd _)
          exact ft_ret mi_k30 (by rfl) (hP  _ _ _ _ hJ73 trivial)
        by_cases w74 : ((a 57).getD (0 : Int32).toNatClampNeg 0).toInt = 2
        ·
          refine ko_eq (x1 := (128, [(4, .int m53), (3, .int ((a 58).getD (0 : Int32).toNatClampNeg 0)), (2, .int ((a 57).getD (0 : Int32).toNatClampNeg 0)), (0, .ref 50), (1, .int x1)], [.int 2, .ref 64], (0, 0), ks (ku (ku ig1 3214 ((a 57).getD (0 : Int32).toNatClampNeg 0)) 3215 ((ig1 3215) + m53)) a67 qg1 rg1)) (by rw [(kj_eq w74 (by decide) : ((a 57).getD (0 : Int32).toNatClampNeg 0) = 2)]) ?_
          first | refine ft_go mi_k30 3 131 [(4, .int m53), (3, .int ((a 58).getD (0 : Int32).toNatClampNeg 0)), (2, .int ((a 57).getD (0 : Int32).toNatClampNeg 0)), (0, .ref 50), (1, .int x1)] [.int x1, .ref 67, .int x1, .ref 67] (ku (ku ig1 3214 ((a 57).getD (0 : Int32).toNatClampNeg 0)) 3215 ((ig1 3215) + m53)) a67 qg1 rg1 (by rfl) ?_ | refine ko_steps mi_in30 3 _ (131, [(4, .int m53), (3, .int ((a 58).getD (0 : Int32).toNatClampNeg 0)), (2, .int ((a 57).getD (0 : Int32).toNatClampNeg 0)), (0, .ref 50), (1, .int x1)], [.int x1, .ref 67, .int x1, .ref 67], (0, 0), ks (ku (ku ig1 3214 ((a 57).getD (0 : Int32).toNatClampNeg 0)) 3215 ((ig1 3215) + m53)) a67 qg1 rg1) (by rfl) ?_
          refine ko_iald3 mi_k30.1 (n := 8) (c := 8) (ax := (0, 0, 0, 0, 0)) (mi_k30.2 _ _ (by rfl)) (by rfl) (ksG67 _ _ _ _) (hJ67.I.2.1 67) rfl (oz3 hp0.1) (oz1032 hp0.2) ?_
          have b75 : ((-2147483648 : Int) ≤ ((a67 67).getD x1.toNatClampNeg 0).toInt) ∧ (((a67 67).getD x1.toNatClampNeg 0).toInt ≤ 2147483647) := kd_bd ((a67 67).getD x1.toNatClampNeg 0)
          first | refine ft_go mi_k30 2 135 [(4, .int m53), (3, .int ((a 58).getD (0 : Int32).toNatClampNeg 0)), (2, .int ((a 57).getD (0 : Int32).toNatClampNeg 0)), (0, .ref 50), (1, .int x1)] [.int (((a67 67).getD x1.toNatClampNeg 0) + m53), .int x1, .ref 67] (ku (ku ig1 3214 ((a 57).getD (0 : Int32).toNatClampNeg 0)) 3215 ((ig1 3215) + m53)) a67 qg1 rg1 (by rfl) ?_ | refine ko_steps mi_in30 2 _ (135, [(4, .int m53), (3, .int ((a 58).getD (0 : Int32).toNatClampNeg 0)), (2, .int ((a 57).getD (0 : Int32).toNatClampNeg 0)), (0, .ref 50), (1, .int x1)], [.int (((a67 67).getD x1.toNatClampNeg 0) + m53), .int x1, .ref 67], (0, 0), ks (ku (ku ig1 3214 ((a 57).getD (0 : Int32).toNatClampNeg 0)) 3215 ((ig1 3215) + m53)) a67 qg1 rg1) (by rfl) ?_
          refine ko_iast3 mi_k30.1 (n := 8) (c := 8) (ax := (0, 0, 0, 0, 0)) (mi_k30.2 _ _ (by rfl)) (by rfl) (ksG67 _ _ _ _) (ksA67 _ _ _ _) (hJ67.I.2.1 67) rfl (oz3 hp0.1) (oz1032 hp0.2) ?_
          intro a76 ea76 fa76
          have hJ76 := kG_a3 hJ67 67 rfl ea76 fa76 (kd_bd _)
          exact ft_ret mi_k30 (by rfl) (hP  _ _ _ _ hJ76 trivial)
        by_cases w77 : ((a 57).getD (0 : Int32).toNatClampNeg 0).toInt = 3
        ·
          refine ko_eq (x1 := (128, [(4, .int m53), (3, .int ((a 58).getD (0 : Int32).toNatClampNeg 0)), (2, .int ((a 57).getD (0 : Int32).toNatClampNeg 0)), (0, .ref 50), (1, .int x1)], [.int 3, .ref 64], (0, 0), ks (ku (ku ig1 3214 ((a 57).getD (0 : Int32).toNatClampNeg 0)) 3215 ((ig1 3215) + m53)) a67 qg1 rg1)) (by rw [(kj_eq w77 (by decide) : ((a 57).getD (0 : Int32).toNatClampNeg 0) = 3)]) ?_
          first | refine ft_go mi_k30 3 131 [(4, .int m53), (3, .int ((a 58).getD (0 : Int32).toNatClampNeg 0)), (2, .int ((a 57).getD (0 : Int32).toNatClampNeg 0)), (0, .ref 50), (1, .int x1)] [.int x1, .ref 68, .int x1, .ref 68] (ku (ku ig1 3214 ((a 57).getD (0 : Int32).toNatClampNeg 0)) 3215 ((ig1 3215) + m53)) a67 qg1 rg1 (by rfl) ?_ | refine ko_steps mi_in30 3 _ (131, [(4, .int m53), (3, .int ((a 58).getD (0 : Int32).toNatClampNeg 0)), (2, .int ((a 57).getD (0 : Int32).toNatClampNeg 0)), (0, .ref 50), (1, .int x1)], [.int x1, .ref 68, .int x1, .ref 68], (0, 0), ks (ku (ku ig1 3214 ((a 57).getD (0 : Int32).toNatClampNeg 0)) 3215 ((ig1 3215) + m53)) a67 qg1 rg1) (by rfl) ?_
          refine ko_iald3 mi_k30.1 (n := 8) (c := 8) (ax := (0, 0, 0, 0, 0)) (mi_k30.2 _ _ (by rfl)) (by rfl) (ksG68 _ _ _ _) (hJ67.I.2.1 68) rfl (oz3 hp0.1) (oz1032 hp0.2) ?_
          have b78 : ((-2147483648 : Int) ≤ ((a67 68).getD x1.toNatClampNeg 0).toInt) ∧ (((a67 68).getD x1.toNatClampNeg 0).toInt ≤ 2147483647) := kd_bd ((a67 68).getD x1.toNatClampNeg 0)
          first | refine ft_go mi_k30 2 135 [(4, .int m53), (3, .int ((a 58).getD (0 : Int32).toNatClampNeg 0)), (2, .int ((a 57).getD (0 : Int32).toNatClampNeg 0)), (0, .ref 50), (1, .int x1)] [.int (((a67 68).getD x1.toNatClampNeg 0) + m53), .int x1, .ref 68] (ku (ku ig1 3214 ((a 57).getD (0 : Int32).toNatClampNeg 0)) 3215 ((ig1 3215) + m53)) a67 qg1 rg1 (by rfl) ?_ | refine ko_steps mi_in30 2 _ (135, [(4, .int m53), (3, .int ((a 58).getD (0 : Int32).toNatClampNeg 0)), (2, .int ((a 57).getD (0 : Int32).toNatClampNeg 0)), (0, .ref 50), (1, .int x1)], [.int (((a67 68).getD x1.toNatClampNeg 0) + m53), .int x1, .ref 68], (0, 0), ks (ku (ku ig1 3214 ((a 57).getD (0 : Int32).toNatClampNeg 0)) 3215 ((ig1 3215) + m53)) a67 qg1 rg1) (by rfl) ?_
          refine ko_iast3 mi_k30.1 (n := 8) (c := 8) (ax := (0, 0, 0, 0, 0)) (mi_k30.2 _ _ (by rfl)) (by rfl) (ksG68 _ _ _ _) (ksA68 _ _ _ _) (hJ67.I.2.1 68) rfl (oz3 hp0.1) (oz1032 hp0.2) ?_
          intro a79 ea79 fa79
          have hJ79 := kG_a3 hJ67 68 rfl ea79 fa79 (kd_bd _)
          exact ft_ret mi_k30 (by rfl) (hP  _ _ _ _ hJ79 trivial)
        by_cases w80 : ((a 57).getD (0 : Int32).toNatClampNeg 0).toInt = 4
        ·
          refine ko_eq (x1 := (128, [(4, .int m53), (3, .int ((a 58).getD (0 : Int32).toNatClampNeg 0)), (2, .int ((a 57).getD (0 : Int32).toNatClampNeg 0)), (0, .ref 50), (1, .int x1)], [.int 4, .ref 64], (0, 0), ks (ku (ku ig1 3214 ((a 57).getD (0 : Int32).toNatClampNeg 0)) 3215 ((ig1 3215) + m53)) a67 qg1 rg1)) (by rw [(kj_eq w80 (by decide) : ((a 57).getD (0 : Int32).toNatClampNeg 0) = 4)]) ?_
          first | refine ft_go mi_k30 3 131 [(4, .int m53), (3, .int ((a 58).getD (0 : Int32).toNatClampNeg 0)), (2, .int ((a 57).getD (0 : Int32).toNatClampNeg 0)), (0, .ref 50), (1, .int x1)] [.int x1, .ref 69, .int x1, .ref 69] (ku (ku ig1 3214 ((a 57).getD (0 : Int32).toNatClampNeg 0)) 3215 ((ig1 3215) + m53)) a67 qg1 rg1 (by rfl) ?_ | refine ko_steps mi_in30 3 _ (131, [(4, .int m53), (3, .int ((a 58).getD (0 : Int32).toNatClampNeg 0)), (2, .int ((a 57).getD (0 : Int32).toNatClampNeg 0)), (0, .ref 50), (1, .int x1)], [.int x1, .ref 69, .int x1, .ref 69], (0, 0), ks (ku (ku ig1 3214 ((a 57).getD (0 : Int32).toNatClampNeg 0)) 3215 ((ig1 3215) + m53)) a67 qg1 rg1) (by rfl) ?_
          refine ko_iald3 mi_k30.1 (n := 8) (c := 8) (ax := (0, 0, 0, 0, 0)) (mi_k30.2 _ _ (by rfl)) (by rfl) (ksG69 _ _ _ _) (hJ67.I.2.1 69) rfl (oz3 hp0.1) (oz1032 hp0.2) ?_
          have b81 : ((-2147483648 : Int) ≤ ((a67 69).getD x1.toNatClampNeg 0).toInt) ∧ (((a67 69).getD x1.toNatClampNeg 0).toInt ≤ 2147483647) := kd_bd ((a67 69).getD x1.toNatClampNeg 0)
          first | refine ft_go mi_k30 2 135 [(4, .int m53), (3, .int ((a 58).getD (0 : Int32).toNatClampNeg 0)), (2, .int ((a 57).getD (0 : Int32).toNatClampNeg 0)), (0, .ref 50), (1, .int x1)] [.int (((a67 69).getD x1.toNatClampNeg 0) + m53), .int x1, .ref 69] (ku (ku ig1 3214 ((a 57).getD (0 : Int32).toNatClampNeg 0)) 3215 ((ig1 3215) + m53)) a67 qg1 rg1 (by rfl) ?_ | refine ko_steps mi_in30 2 _ (135, [(4, .int m53), (3, .int ((a 58).getD (0 : Int32).toNatClampNeg 0)), (2, .int ((a 57).getD (0 : Int32).toNatClampNeg 0)), (0, .ref 50), (1, .int x1)], [.int (((a67 69).getD x1.toNatClampNeg 0) + m53), .int x1, .ref 69], (0, 0), ks (ku (ku ig1 3214 ((a 57).getD (0 : Int32).toNatClampNeg 0)) 3215 ((ig1 3215) + m53)) a67 qg1 rg1) (by rfl) ?_
          refine ko_iast3 mi_k30.1 (n := 8) (c := 8) (ax := (0, 0, 0, 0, 0)) (mi_k30.2 _ _ (by rfl)) (by rfl) (ksG69 _ _ _ _) (ksA69 _ _ _ _) (hJ67.I.2.1 69) rfl (oz3 hp0.1) (oz1032 hp0.2) ?_
          intro a82 ea82 fa82
          have hJ82 := kG_a3 hJ67 69 rfl ea82 fa82 (kd_bd _)
          exact ft_ret mi_k30 (by rfl) (hP  _ _ _ _ hJ82 trivial)
        by_cases w83 : ((a 57).getD (0 : Int32).toNatClampNeg 0).toInt = 5
        ·
          refine ko_eq (x1 := (128, [(4, .int m53), (3, .int ((a 58).getD (0 : Int32).toNatClampNeg 0)), (2, .int ((a 57).getD (0 : Int32).toNatClampNeg 0)), (0, .ref 50), (1, .int x1)], [.int 5, .ref 64], (0, 0), ks (ku (ku ig1 3214 ((a 57).getD (0 : Int32).toNatClampNeg 0)) 3215 ((ig1 3215) + m53)) a67 qg1 rg1)) (by rw [(kj_eq w83 (by decide) : ((a 57).getD (0 : Int32).toNatClampNeg 0) = 5)]) ?_
          first | refine ft_go mi_k30 3 131 [(4, .int m53), (3, .int ((a 58).getD (0 : Int32).toNatClampNeg 0)), (2, .int ((a 57).getD (0 : Int32).toNatClampNeg 0)), (0, .ref 50), (1, .int x1)] [.int x1, .ref 70, .int x1, .ref 70] (ku (ku ig1 3214 ((a 57).getD (0 : Int32).toNatClampNeg 0)) 3215 ((ig1 3215) + m53)) a67 qg1 rg1 (by rfl) ?_ | refine ko_steps mi_in30 3 _ (131, [(4, .int m53), (3, .int ((a 58).getD (0 : Int32).toNatClampNeg 0)), (2, .int ((a 57).getD (0 : Int32).toNatClampNeg 0)), (0, .ref 50), (1, .int x1)], [.int x1, .ref 70, .int x1, .ref 70], (0, 0), ks (ku (ku ig1 3214 ((a 57).getD (0 : Int32).toNatClampNeg 0)) 3215 ((ig1 3215) + m53)) a67 qg1 rg1) (by rfl) ?_
          refine ko_iald3 mi_k30.1 (n := 8) (c := 8) (ax := (0, 0, 0, 0, 0)) (mi_k30.2 _ _ (by rfl)) (by rfl) (ksG70 _ _ _ _) (hJ67.I.2.1 70) rfl (oz3 hp0.1) (oz1032 hp0.2) ?_
          have b84 : ((-2147483648 : Int) ≤ ((a67 70).getD x1.toNatClampNeg 0).toInt) ∧ (((a67 70).getD x1.toNatClampNeg 0).toInt ≤ 2147483647) := kd_bd ((a67 70).getD x1.toNatClampNeg 0)
          first | refine ft_go mi_k30 2 135 [(4, .int m53), (3, .int ((a 58).getD (0 : Int32).toNatClampNeg 0)), (2, .int ((a 57).getD (0 : Int32).toNatClampNeg 0)), (0, .ref 50), (1, .int x1)] [.int (((a67 70).getD x1.toNatClampNeg 0) + m53), .int x1, .ref 70] (ku (ku ig1 3214 ((a 57).getD (0 : Int32).toNatClampNeg 0)) 3215 ((ig1 3215) + m53)) a67 qg1 rg1 (by rfl) ?_ | refine ko_steps mi_in30 2 _ (135, [(4, .int m53), (3, .int ((a 58).getD (0 : Int32).toNatClampNeg 0)), (2, .int ((a 57).getD (0 : Int32).toNatClampNeg 0)), (0, .ref 50), (1, .int x1)], [.int (((a67 70).getD x1.toNatClampNeg 0) + m53), .int x1, .ref 70], (0, 0), ks (ku (ku ig1 3214 ((a 57).getD (0 : Int32).toNatClampNeg 0)) 3215 ((ig1 3215) + m53)) a67 qg1 rg1) (by rfl) ?_
          refine ko_iast3 mi_k30.1 (n := 8) (c := 8) (ax := (0, 0, 0, 0, 0)) (mi_k30.2 _ _ (by rfl)) (by rfl) (ksG70 _ _ _ _) (ksA70 _ _ _ _) (hJ67.I.2.1 70) rfl (oz3 hp0.1) (oz1032 hp0.2) ?_
          intro a85 ea85 fa85
          have hJ85 := kG_a3 hJ67 70 rfl ea85 fa85 (kd_bd _)
          exact ft_ret mi_k30 (by rfl) (hP  _ _ _ _ hJ85 trivial)
        by_cases w86 : ((a 57).getD (0 : Int32).toNatClampNeg 0).toInt = 6
        ·
          refine ko_eq (x1 := (128, [(4, .int m53), (3, .int ((a 58).getD (0 : Int32).toNatClampNeg 0)), (2, .int ((a 57).getD (0 : Int32).toNatClampNeg 0)), (0, .ref 50), (1, .int x1)], [.int 6, .ref 64], (0, 0), ks (ku (ku ig1 3214 ((a 57).getD (0 : Int32).toNatClampNeg 0)) 3215 ((ig1 3215) + m53)) a67 qg1 rg1)) (by rw [(kj_eq w86 (by decide) : ((a 57).getD (0 : Int32).toNatClampNeg 0) = 6)]) ?_
          first | refine ft_go mi_k30 3 131 [(4, .int m53), (3, .int ((a 58).getD (0 : Int32).toNatClampNeg 0)), (2, .int ((a 57).getD (0 : Int32).toNatClampNeg 0)), (0, .ref 50), (1, .int x1)] [.int x1, .ref 71, .int x1, .ref 71] (ku (ku ig1 3214 ((a 57).getD (0 : Int32).toNatClampNeg 0)) 3215 ((ig1 3215) + m53)) a67 qg1 rg1 (by rfl) ?_ | refine ko_steps mi_in30 3 _ (131, [(4, .int m53), (3, .int ((a 58).getD (0 : Int32).toNatClampNeg 0)), (2, .int ((a 57).getD (0 : Int32).toNatClampNeg 0)), (0, .ref 50), (1, .int x1)], [.int x1, .ref 71, .int x1, .ref 71], (0, 0), ks (ku (ku ig1 3214 ((a 57).getD (0 : Int32).toNatClampNeg 0)) 3215 ((ig1 3215) + m53)) a67 qg1 rg1) (by rfl) ?_
          refine ko_iald3 mi_k30.1 (n := 8) (c := 8) (ax := (0, 0, 0, 0, 0)) (mi_k30.2 _ _ (by rfl)) (by rfl) (ksG71 _ _ _ _) (hJ67.I.2.1 71) rfl (oz3 hp0.1) (oz1032 hp0.2) ?_
          have b87 : ((-2147483648 : Int) ≤ ((a67 71).getD x1.toNatClampNeg 0).toInt) ∧ (((a67 71).getD x1.toNatClampNeg 0).toInt ≤ 2147483647) := kd_bd ((a67 71).getD x1.toNatClampNeg 0)
          first | refine ft_go mi_k30 2 135 [(4, .int m53), (3, .int ((a 58).getD (0 : Int32).toNatClampNeg 0)), (2, .int ((a 57).getD (0 : Int32).toNatClampNeg 0)), (0, .ref 50), (1, .int x1)] [.int (((a67 71).getD x1.toNatClampNeg 0) + m53), .int x1, .ref 71] (ku (ku ig1 3214 ((a 57).getD (0 : Int32).toNatClampNeg 0)) 3215 ((ig1 3215) + m53)) a67 qg1 rg1 (by rfl) ?_ | refine ko_steps mi_in30 2 _ (135, [(4, .int m53), (3, .int ((a 58).getD (0 : Int32).toNatClampNeg 0)), (2, .int ((a 57).getD (0 : Int32).toNatClampNeg 0)), (0, .ref 50), (1, .int x1)], [.int (((a67 71).getD x1.toNatClampNeg 0) + m53), .int x1, .ref 71], (0, 0), ks (ku (ku ig1 3214 ((a 57).getD (0 : Int32).toNatClampNeg 0)) 3215 ((ig1 3215) + m53)) a67 qg1 rg1) (by rfl) ?_
          refine ko_iast3 mi_k30.1 (n := 8) (c := 8) (ax := (0, 0, 0, 0, 0)) (mi_k30.2 _ _ (by rfl)) (by rfl) (ksG71 _ _ _ _) (ksA71 _ _ _ _) (hJ67.I.2.1 71) rfl (oz3 hp0.1) (oz1032 hp0.2) ?_
          intro a88 ea88 fa88
          have hJ88 := kG_a3 hJ67 71 rfl ea88 fa88 (kd_bd _)
          exact ft_ret mi_k30 (by rfl) (hP  _ _ _ _ hJ88 trivial)
        by_cases w89 : ((a 57).getD (0 : Int32).toNatClampNeg 0).toInt = 7
        ·
          refine ko_eq (x1 := (128, [(4, .int m53), (3, .int ((a 58).getD (0 : Int32).toNatClampNeg 0)), (2, .int ((a 57).getD (0 : Int32).toNatClampNeg 0)), (0, .ref 50), (1, .int x1)], [.int 7, .ref 64], (0, 0), ks (ku (ku ig1 3214 ((a 57).getD (0 : Int32).toNatClampNeg 0)) 3215 ((ig1 3215) + m53)) a67 qg1 rg1)) (by rw [(kj_eq w89 (by decide) : ((a 57).getD (0 : Int32).toNatClampNeg 0) = 7)]) ?_
          first | refine ft_go mi_k30 3 131 [(4, .int m53), (3, .int ((a 58).getD (0 : Int32).toNatClampNeg 0)), (2, .int ((a 57).getD (0 : Int32).toNatClampNeg 0)), (0, .ref 50), (1, .int x1)] [.int x1, .ref 72, .int x1, .ref 72] (ku (ku ig1 3214 ((a 57).getD (0 : Int32).toNatClampNeg 0)) 3215 ((ig1 3215) + m53)) a67 qg1 rg1 (by rfl) ?_ | refine ko_steps mi_in30 3 _ (131, [(4, .int m53), (3, .int ((a 58).getD (0 : Int32).toNatClampNeg 0)), (2, .int ((a 57).getD (0 : Int32).toNatClampNeg 0)), (0, .ref 50), (1, .int x1)], [.int x1, .ref 72, .int x1, .ref 72], (0, 0), ks (ku (ku ig1 3214 ((a 57).getD (0 : Int32).toNatClampNeg 0)) 3215 ((ig1 3215) + m53)) a67 qg1 rg1) (by rfl) ?_
          refine ko_iald3 mi_k30.1 (n := 8) (c := 8) (ax := (0, 0, 0, 0, 0)) (mi_k30.2 _ _ (by rfl)) (by rfl) (ksG72 _ _ _ _) (hJ67.I.2.1 72) rfl (oz3 hp0.1) (oz1032 hp0.2) ?_
          have b90 : ((-2147483648 : Int) ≤ ((a67 72).getD x1.toNatClampNeg 0).toInt) ∧ (((a67 72).getD x1.toNatClampNeg 0).toInt ≤ 2147483647) := kd_bd ((a67 72).getD x1.toNatClampNeg 0)
          first | refine ft_go mi_k30 2 135 [(4, .int m53), (3, .int ((a 58).getD (0 : Int32).toNatClampNeg 0)), (2, .int ((a 57).getD (0 : Int32).toNatClampNeg 0)), (0, .ref 50), (1, .int x1)] [.int (((a67 72).getD x1.toNatClampNeg 0) + m53), .int x1, .ref 72] (ku (ku ig1 3214 ((a 57).getD (0 : Int32).toNatClampNeg 0)) 3215 ((ig1 3215) + m53)) a67 qg1 rg1 (by rfl) ?_ | refine ko_steps mi_in30 2 _ (135, [(4, .int m53), (3, .int ((a 58).getD (0 : Int32).toNatClampNeg 0)), (2, .int ((a 57).getD (0 : Int32).toNatClampNeg 0)), (0, .ref 50), (1, .int x1)], [.int (((a67 72).getD x1.toNatClampNeg 0) + m53), .int x1, .ref 72], (0, 0), ks (ku (ku ig1 3214 ((a 57).getD (0 : Int32).toNatClampNeg 0)) 3215 ((ig1 3215) + m53)) a67 qg1 rg1) (by rfl) ?_
          refine ko_iast3 mi_k30.1 (n := 8) (c := 8) (ax := (0, 0, 0, 0, 0)) (mi_k30.2 _ _ (by rfl)) (by rfl) (ksG72 _ _ _ _) (ksA72 _ _ _ _) (hJ67.I.2.1 72) rfl (oz3 hp0.1) (oz1032 hp0.2) ?_
          intro a91 ea91 fa91
          have hJ91 := kG_a3 hJ67 72 rfl ea91 fa91 (kd_bd _)
          exact ft_ret mi_k30 (by rfl) (hP  _ _ _ _ hJ91 trivial)
        exact (oz1051 fig1_3200.2 w68 w71 w74 w77 w80 w83 w86 w89 z52.1 z52.2).elim
      ·
        subst eg51
        have fig1_3200 : ((0 : Int) ≤ (ig1 3200).toInt) ∧ ((ig1 3200).toInt ≤ 8) := hJ48.I.1 3200
        have fi_3200 : ((0 : Int) ≤ (i 3200).toInt) ∧ ((i 3200).toInt ≤ 8) := hG.I.1 3200
        have efig1_3200 : (ig1 3200).toInt = (i 3200).toInt := kg1.ti 3200 rfl
        have z92 : ¬ (((0 : Int) ≤ ((a 57).getD (0 : Int32).toNatClampNeg 0).toInt) ∧ (((a 57).getD (0 : Int32).toNatClampNeg 0).toInt < (ig1 3200).toInt)) := hg51
        first | refine ft_go mi_k30 1 54 [(3, .int ((a 58).getD (0 : Int32).toNatClampNeg 0)), (2, .int ((a 57).getD (0 : Int32).toNatClampNeg 0)), (0, .ref 50), (1, .int x1)] [] (ku ig1 3214 ((a 57).getD (0 : Int32).toNatClampNeg 0)) ag1 qg1 rg1 (by rfl) ?_ | refine ko_steps mi_in30 1 _ (54, [(3, .int ((a 58).getD (0 : Int32).toNatClampNeg 0)), (2, .int ((a 57).getD (0 : Int32).toNatClampNeg 0)), (0, .ref 50), (1, .int x1)], [], (0, 0), ks (ku ig1 3214 ((a 57).getD (0 : Int32).toNatClampNeg 0)) ag1 qg1 rg1) (by rfl) ?_
        exact ft_ret mi_k30 (by rfl) (hP  _ _ _ _ hJ48 trivial)
def w29_50 : kW := ([645, 3209, 3214, 3215, 3216, 3586, 3781, 6405], [13, 51, 55, 57, 58, 62, 63, 65, 66, 67, 68, 69, 70, 71, 72, 73, 103], [], [])
def w29_50_L52 : kW := ([3214, 3215, 3586], [51, 57, 58, 63, 65, 66, 67, 68, 69, 70, 71, 72], [], [])
set_option maxRecDepth 100000 in
theorem kc29_50 {i : Nat → Int32} {a : Nat → List Int32} {q : Nat → List Int64} {r : Nat → Nat} (hI : kI i a q) (hr : kr r) (x1 : Int32) : km 7 29 [.ref 50, .int x1] (ks i a q r) (kVI w29_50 i a q r (fun v i1 a1 q1 r1 => True)) := by
  have hG := kG_self w29_50 hI hr
  refine km_ofI (q := (mi_h29, mi_c29)) rfl (by decide) (Nat.le_of_ble_eq_true rfl) ?_
  intro P hP
  have hJ1 := kG_i hG 3214 rfl (v := 8) (kd_bd _)
  have hJ2 := kG_i hJ1 3215 rfl (v := 0) (kd_bd _)
  have hJ3 := kG_i hJ2 3216 rfl (v := 0) (kd_bd _)
  refine ft_go mi_k29 11 18 [(0, .ref 50), (1, .int x1)] [.int x1, .ref 50] (ku (ku (ku i 3214 8) 3215 0) 3216 0) a q r (by rfl) ?_
  refine ko_callPI mi_k29.1 (pc := 18) (ls := [(0, .ref 50), (1, .int x1)]) (st := [.int x1, .ref 50]) (h := ks (ku (ku (ku i 3214 8) 3215 0) 3216 0) a q r) (i := (.invokevirtual 85, 3, 24, 0, 9, 0, 165)) (mi_k29.2 _ _ (by rfl)) (ft_invS mi_pq24 (by rfl)) (cy := mi_c24) mi_pq24 rfl (kc24_50 hJ3.I hJ3.R x1) (by decide) ?_
  intro vg4 hg4
  rcases hg4 with ⟨eg4, hg4⟩ | ⟨eg4, hg4⟩
  ·
    subst eg4
    have fi_3200 : ((0 : Int) ≤ (i 3200).toInt) ∧ ((i 3200).toInt ≤ 8) := hJ3.I.1 3200
    have z5 : ((0 : Int) ≤ x1.toInt) ∧ (x1.toInt < (i 3200).toInt) := hg4
    refine ft_go mi_k29 3 28 [(0, .ref 50), (1, .int x1)] [.int (i 3207)] (ku (ku (ku i 3214 8) 3215 0) 3216 0) a q r (by rfl) ?_
    refine ft_if mi_k29 ((i 3207) != 0) 43 31 [(0, .ref 50), (1, .int x1)] [] (by rfl) (fun c => ?_) (fun c => ?_)
    ·
      have c6 : (i 3207).toInt ≠ (0 : Int32).toInt := kd_ne c; clear c
      refine ft_go mi_k29 3 48 [(0, .ref 50), (1, .int x1)] [.int x1, .ref 51] (ku (ku (ku i 3214 8) 3215 0) 3216 0) a q r (by rfl) ?_
      refine ko_iald3 mi_k29.1 (n := 8) (c := 8) (ax := (0, 0, 0, 0, 0)) (mi_k29.2 _ _ (by rfl)) (by rfl) (ksG51 _ _ _ _) (hJ3.I.2.1 51) rfl (oz3 z5.1) (oz974 fi_3200.2 z5.2) ?_
      refine ft_go mi_k29 3 52 [(3, .int 0), (2, .int ((a 51).getD x1.toNatClampNeg 0)), (0, .ref 50), (1, .int x1)] [] (ku (ku (ku i 3214 8) 3215 0) 3216 0) a q r (by rfl) ?_
      have lp7 : ∀ (nz : Nat) (i7 : Nat → Int32) (a7 : Nat → List Int32) (q7 : Nat → List Int64) (r7 : Nat → Nat) (l3_7 : Int32), kG w29_50_L52 (ku (ku (ku i 3214 8) 3215 0) 3216 0) a q r i7 a7 q7 r7 → (0 : Int) ≤ l3_7.toInt → ((5 - l3_7.toInt)).toNat < nz → ko 7 (mi_h29, mi_c29) P (52, [(3, .int l3_7), (2, .int ((a 51).getD x1.toNatClampNeg 0)), (0, .ref 50), (1, .int x1)], [], (0, 0), ks i7 a7 q7 r7) := by
        intro nz
        induction nz with
        | zero =>
          intro _ _ _ _ _ _ _ hm
          exact absurd hm (Nat.not_lt_zero _)
        | succ nz ih7 =>
          intro i7 a7 q7 r7 l3_7 hL7 p7_0 hm7
          refine ft_go mi_k29 2 54 [(3, .int l3_7), (2, .int ((a 51).getD x1.toNatClampNeg 0)), (0, .ref 50), (1, .int x1)] [.int 5, .int l3_7] i7 a7 q7 r7 (by rfl) ?_
          refine ft_if mi_k29 (decide (5 ≤ l3_7)) 82 57 [(3, .int l3_7), (2, .int ((a 51).getD x1.toNatClampNeg 0)), (0, .ref 50), (1, .int x1)] [] (by rfl) (fun c => ?_) (fun c => ?_)
          ·
            have c8 : (5 : Int32).toInt ≤ l3_7.toInt := kd_le c; clear c
            have hG9 := kG_call hJ3 hL7 (by decide +kernel)
            refine ft_go mi_k29 4 86 [(3, .int l3_7), (2, .int ((a 51).getD x1.toNatClampNeg 0)), (0, .ref 50), (1, .int x1)] [.int ((a 51).getD x1.toNatClampNeg 0), .int x1, .ref 50, .ref 50] i7 a7 q7 r7 (by rfl) ?_
            refine ko_callI mi_k29.1 (pc := 86) (ls := [(3, .int l3_7), (2, .int ((a 51).getD x1.toNatClampNeg 0)), (0, .ref 50), (1, .int x1)]) (st := [.int ((a 51).getD x1.toNatClampNeg 0), .int x1, .ref 50, .ref 50]) (h := ks i7 a7 q7 r7) (i := (.invokevirtual 100, 3, 31, 0, 9, 0, 223)) (mi_k29.2 _ _ (by rfl)) (ft_invS mi_pq31 (by rfl)) (cy := mi_c31) mi_pq31 rfl (kc31_50 hG9.I hG9.R x1 ((a 51).getD x1.toNatClampNeg 0) (oz423 fi_3200.2 z5.1 z5.2)) (by decide) ?_
            intro vg10 ig10 ag10 qg10 rg10 kg10 hg10
            have hGg10 := kG_call hG9 kg10 (by decide +kernel)
            have hJ11 := kG_i hGg10 3216 rfl (v := vg10) (kd_bd _)
            refine ft_go mi_k29 6 101 [(3, .int l3_7), (2, .int ((a 51).getD x1.toNatClampNeg 0)), (0, .ref 50), (1, .int x1)] [.int vg10, .int x1, .ref 56] (ku ig10 3216 vg10) ag10 qg10 rg10 (by rfl) ?_
            refine ko_callN mi_k29.1 (pc := 101) (ls := [(3, .int l3_7), (2, .int ((a 51).getD x1.toNatClampNeg 0)), (0, .ref 50), (1, .int x1)]) (st := [.int vg10, .int x1, .ref 56]) (h := ks (ku ig10 3216 vg10) ag10 qg10 rg10) (i := (.invokevirtual 104, 3, 1, 0, 9, 0, 228)) (mi_k29.2 _ _ (by rfl)) (ft_invS mi_pq1 (by rfl)) (cy := mi_c1) mi_pq1 rfl (kc1_56 hJ11.I hJ11.R x1 vg10) (by decide) ?_
            intro ig12 ag12 qg12 rg12 kg12 hg12
            have hGg12 := kG_call hJ11 kg12 (by decide +kernel)
            have efi7_3209 : (i7 3209).toInt = (i 3209).toInt := hL7.ti 3209 rfl
            have efig10_3209 : (ig10 3209).toInt = (i7 3209).toInt := kg10.ti 3209 rfl
            have efig12_3209 : (ig12 3209).toInt = (ig10 3209).toInt := kg12.ti 3209 rfl
            have b13 : ((-2147483648 : Int) ≤ (ig12 3209).toInt) ∧ ((ig12 3209).toInt ≤ 2147483647) := kd_bd (ig12 3209)
            have hJ14 := kG_i hGg12 3209 rfl (v := ((ig12 3209) + 1)) (kd_bd _)
            refine ft_go mi_k29 10 120 [(3, .int l3_7), (2, .int ((a 51).getD x1.toNatClampNeg 0)), (0, .ref 50), (1, .int x1)] [.int x1, .ref 55, .int x1, .ref 55] (ku ig12 3209 ((ig12 3209) + 1)) ag12 qg12 rg12 (by rfl) ?_
            refine ko_iald3 mi_k29.1 (n := 8) (c := 8) (ax := (0, 0, 0, 0, 0)) (mi_k29.2 _ _ (by rfl)) (by rfl) (ksG55 _ _ _ _) (hJ14.I.2.1 55) rfl (oz3 z5.1) (oz974 fi_3200.2 z5.2) ?_
            have b15 : ((-2147483648 : Int) ≤ ((ag12 55).getD x1.toNatClampNeg 0).toInt) ∧ (((ag12 55).getD x1.toNatClampNeg 0).toInt ≤ 2147483647) := kd_bd ((ag12 55).getD x1.toNatClampNeg 0)
            refine ft_go mi_k29 2 123 [(3, .int l3_7), (2, .int ((a 51).getD x1.toNatClampNeg 0)), (0, .ref 50), (1, .int x1)] [.int (((ag12 55).getD x1.toNatClampNeg 0) + 1), .int x1, .ref 55] (ku ig12 3209 ((ig12 3209) + 1)) ag12 qg12 rg12 (by rfl) ?_
            refine ko_iast3 mi_k29.1 (n := 8) (c := 8) (ax := (0, 0, 0, 0, 0)) (mi_k29.2 _ _ (by rfl)) (by rfl) (ksG55 _ _ _ _) (ksA55 _ _ _ _) (hJ14.I.2.1 55) rfl (oz3 z5.1) (oz974 fi_3200.2 z5.2) ?_
            intro a16 ea16 fa16
            have hJ16 := kG_a3 hJ14 55 rfl ea16 fa16 (kd_bd _)
            refine ft_go mi_k29 4 130 [(3, .int l3_7), (2, .int ((a 51).getD x1.toNatClampNeg 0)), (0, .ref 50), (1, .int x1)] [.int 0, .ref 63, .int 0, .ref 63] (ku ig12 3209 ((ig12 3209) + 1)) a16 qg12 rg12 (by rfl) ?_
            refine ko_iald3 mi_k29.1 (n := 5) (c := 5) (ax := (0, 0, 0, 0, 0)) (mi_k29.2 _ _ (by rfl)) (by rfl) (ksG63 _ _ _ _) (hJ16.I.2.1 63) rfl (oz46 kn0) (oz547 kn0) ?_
            have b17 : ((-2147483648 : Int) ≤ ((a16 63).getD (0 : Int32).toNatClampNeg 0).toInt) ∧ (((a16 63).getD (0 : Int32).toNatClampNeg 0).toInt ≤ 2147483647) := kd_bd ((a16 63).getD (0 : Int32).toNatClampNeg 0)
            refine ft_go mi_k29 2 133 [(3, .int l3_7), (2, .int ((a 51).getD x1.toNatClampNeg 0)), (0, .ref 50), (1, .int x1)] [.int (((a16 63).getD (0 : Int32).toNatClampNeg 0) + 1), .int 0, .ref 63] (ku ig12 3209 ((ig12 3209) + 1)) a16 qg12 rg12 (by rfl) ?_
            refine ko_iast3 mi_k29.1 (n := 5) (c := 5) (ax := (0, 0, 0, 0, 0)) (mi_k29.2 _ _ (by rfl)) (by rfl) (ksG63 _ _ _ _) (ksA63 _ _ _ _) (hJ16.I.2.1 63) rfl (oz46 kn0) (oz547 kn0) ?_
            intro a18 ea18 fa18
            have hJ18 := kG_a3 hJ16 63 rfl ea18 fa18 (kd_bd _)
            refine ft_go mi_k29 4 140 [(3, .int l3_7), (2, .int ((a 51).getD x1.toNatClampNeg 0)), (0, .ref 50), (1, .int x1)] [.int 1, .ref 63, .int 1, .ref 63] (ku ig12 3209 ((ig12 3209) + 1)) a18 qg12 rg12 (by rfl) ?_
            refine ko_iald3 mi_k29.1 (n := 5) (c := 5) (ax := (0, 0, 0, 0, 0)) (mi_k29.2 _ _ (by rfl)) (by rfl) (ksG63 _ _ _ _) (hJ18.I.2.1 63) rfl (oz246 kn1) (oz548 kn1) ?_
            have efig10_3215 : (ig10 3215).toInt = (i7 3215).toInt := kg10.ti 3215 rfl
            have efig12_3215 : (ig12 3215).toInt = (ig10 3215).toInt := kg12.ti 3215 rfl
            have b19 : ((-2147483648 : Int) ≤ ((a18 63).getD (1 : Int32).toNatClampNeg 0).toInt) ∧ (((a18 63).getD (1 : Int32).toNatClampNeg 0).toInt ≤ 2147483647) := kd_bd ((a18 63).getD (1 : Int32).toNatClampNeg 0)
            have b20 : ((-2147483648 : Int) ≤ (ig12 3215).toInt) ∧ ((ig12 3215).toInt ≤ 2147483647) := kd_bd (ig12 3215)
            refine ft_go mi_k29 3 146 [(3, .int l3_7), (2, .int ((a 51).getD x1.toNatClampNeg 0)), (0, .ref 50), (1, .int x1)] [.int (((a18 63).getD (1 : Int32).toNatClampNeg 0) + (ig12 3215)), .int 1, .ref 63] (ku ig12 3209 ((ig12 3209) + 1)) a18 qg12 rg12 (by rfl) ?_
            refine ko_iast3 mi_k29.1 (n := 5) (c := 5) (ax := (0, 0, 0, 0, 0)) (mi_k29.2 _ _ (by rfl)) (by rfl) (ksG63 _ _ _ _) (ksA63 _ _ _ _) (hJ18.I.2.1 63) rfl (oz246 kn1) (oz548 kn1) ?_
            intro a21 ea21 fa21
            have hJ21 := kG_a3 hJ18 63 rfl ea21 fa21 (kd_bd _)
            refine ft_go mi_k29 2 151 [(3, .int l3_7), (2, .int ((a 51).getD x1.toNatClampNeg 0)), (0, .ref 50), (1, .int x1)] [.int (ig12 3215)] (ku ig12 3209 ((ig12 3209) + 1)) a21 qg12 rg12 (by rfl) ?_
            exact ft_ret mi_k29 (by rfl) (hP (ig12 3215) _ _ _ _ hJ21 trivial)
          ·
            have c22 : l3_7.toInt < (5 : Int32).toInt := kd_leF c; clear c
            have fi7_3586 : ((0 : Int) ≤ (i7 3586).toInt) ∧ ((i7 3586).toInt ≤ 5) := hL7.I.1 3586
            have efi7_3206 : (i7 3206).toInt = (i 3206).toInt := hL7.ti 3206 rfl
            refine ft_go mi_k29 5 68 [(3, .int l3_7), (2, .int ((a 51).getD x1.toNatClampNeg 0)), (0, .ref 50), (1, .int x1)] [.int (i7 3206), .int (i7 3586)] i7 a7 q7 r7 (by rfl) ?_
            refine ft_if mi_k29 (decide ((i7 3586) < (i7 3206))) 82 71 [(3, .int l3_7), (2, .int ((a 51).getD x1.toNatClampNeg 0)), (0, .ref 50), (1, .int x1)] [] (by rfl) (fun c => ?_) (fun c => ?_)
            ·
              have c23 : (i7 3586).toInt < (i7 3206).toInt := kd_lt c; clear c
              have hG24 := kG_call hJ3 hL7 (by decide +kernel)
              refine ft_go mi_k29 4 86 [(3, .int l3_7), (2, .int ((a 51).getD x1.toNatClampNeg 0)), (0, .ref 50), (1, .int x1)] [.int ((a 51).getD x1.toNatClampNeg 0), .int x1, .ref 50, .ref 50] i7 a7 q7 r7 (by rfl) ?_
              refine ko_callI mi_k29.1 (pc := 86) (ls := [(3, .int l3_7), (2, .int ((a 51).getD x1.toNatClampNeg 0)), (0, .ref 50), (1, .int x1)]) (st := [.int ((a 51).getD x1.toNatClampNeg 0), .int x1, .ref 50, .ref 50]) (h := ks i7 a7 q7 r7) (i := (.invokevirtual 100, 3, 31, 0, 9, 0, 223)) (mi_k29.2 _ _ (by rfl)) (ft_invS mi_pq31 (by rfl)) (cy := mi_c31) mi_pq31 rfl (kc31_50 hG24.I hG24.R x1 ((a 51).getD x1.toNatClampNeg 0) (oz423 fi_3200.2 z5.1 z5.2)) (by decide) ?_
              intro vg25 ig25 ag25 qg25 rg25 kg25 hg25
              have hGg25 := kG_call hG24 kg25 (by decide +kernel)
              have hJ26 := kG_i hGg25 3216 rfl (v := vg25) (kd_bd _)
              refine ft_go mi_k29 6 101 [(3, .int l3_7), (2, .int ((a 51).getD x1.toNatClampNeg 0)), (0, .ref 50), (1, .int x1)] [.int vg25, .int x1, .ref 56] (ku ig25 3216 vg25) ag25 qg25 rg25 (by rfl) ?_
              refine ko_callN mi_k29.1 (pc := 101) (ls := [(3, .int l3_7), (2, .int ((a 51).getD x1.toNatClampNeg 0)), (0, .ref 50), (1, .int x1)]) (st := [.int vg25, .int x1, .ref 56]) (h := ks (ku ig25 3216 vg25) ag25 qg25 rg25) (i := (.invokevirtual 104, 3, 1, 0, 9, 0, 228)) (mi_k29.2 _ _ (by rfl)) (ft_invS mi_pq1 (by rfl)) (cy := mi_c1) mi_pq1 rfl (kc1_56 hJ26.I hJ26.R x1 vg25) (by decide) ?_
              intro ig27 ag27 qg27 rg27 kg27 hg27
              have hGg27 := kG_call hJ26 kg27 (by decide +kernel)
              have efi7_3209 : (i7 3209).toInt = (i 3209).toInt := hL7.ti 3209 rfl
              have efig25_3209 : (ig25 3209).toInt = (i7 3209).toInt := kg25.ti 3209 rfl
              have efig27_3209 : (ig27 3209).toInt = (ig25 3209).toInt := kg27.ti 3209 rfl
              have b28 : ((-2147483648 : Int) ≤ (ig27 3209).toInt) ∧ ((ig27 3209).toInt ≤ 2147483647) := kd_bd (ig27 3209)
              have hJ29 := kG_i hGg27 3209 rfl (v := ((ig27 3209) + 1)) (kd_bd _)
              refine ft_go mi_k29 10 120 [(3, .int l3_7), (2, .int ((a 51).getD x1.toNatClampNeg 0)), (0, .ref 50), (1, .int x1)] [.int x1, .ref 55, .int x1, .ref 55] (ku ig27 3209 ((ig27 3209) + 1)) ag27 qg27 rg27 (by rfl) ?_
              refine ko_iald3 mi_k29.1 (n := 8) (c := 8) (ax := (0, 0, 0, 0, 0)) (mi_k29.2 _ _ (by rfl)) (by rfl) (ksG55 _ _ _ _) (hJ29.I.2.1 55) rfl (oz3 z5.1) (oz974 fi_3200.2 z5.2) ?_
              have b30 : ((-2147483648 : Int) ≤ ((ag27 55).getD x1.toNatClampNeg 0).toInt) ∧ (((ag27 55).getD x1.toNatClampNeg 0).toInt ≤ 2147483647) := kd_bd ((ag27 55).getD x1.toNatClampNeg 0)
              refine ft_go mi_k29 2 123 [(3, .int l3_7), (2, .int ((a 51).getD x1.toNatClampNeg 0)), (0, .ref 50), (1, .int x1)] [.int (((ag27 55).getD x1.toNatClampNeg 0) + 1), .int x1, .ref 55] (ku ig27 3209 ((ig27 3209) + 1)) ag27 qg27 rg27 (by rfl) ?_
              refine ko_iast3 mi_k29.1 (n := 8) (c := 8) (ax := (0, 0, 0, 0, 0)) (mi_k29.2 _ _ (by rfl)) (by rfl) (ksG55 _ _ _ _) (ksA55 _ _ _ _) (hJ29.I.2.1 55) rfl (oz3 z5.1) (oz974 fi_3200.2 z5.2) ?_
              intro a31 ea31 fa31
              have hJ31 := kG_a3 hJ29 55 rfl ea31 fa31 (kd_bd _)
              refine ft_go mi_k29 4 130 [(3, .int l3_7), (2, .int ((a 51).getD x1.toNatClampNeg 0)), (0, .ref 50), (1, .int x1)] [.int 0, .ref 63, .int 0, .ref 63] (ku ig27 3209 ((ig27 3209) + 1)) a31 qg27 rg27 (by rfl) ?_
              refine ko_iald3 mi_k29.1 (n := 5) (c := 5) (ax := (0, 0, 0, 0, 0)) (mi_k29.2 _ _ (by rfl)) (by rfl) (ksG63 _ _ _ _) (hJ31.I.2.1 63) rfl (oz46 kn0) (oz547 kn0) ?_
              have b32 : ((-2147483648 : Int) ≤ ((a31 63).getD (0 : Int32).toNatClampNeg 0).toInt) ∧ (((a31 63).getD (0 : Int32).toNatClampNeg 0).toInt ≤ 2147483647) := kd_bd ((a31 63).getD (0 : Int32).toNatClampNeg 0)
              refine ft_go mi_k29 2 133 [(3, .int l3_7), (2, .int ((a 51).getD x1.toNatClampNeg 0)), (0, .ref 50), (1, .int x1)] [.int (((a31 63).getD (0 : Int32).toNatClampNeg 0) + 1), .int 0, .ref 63] (ku ig27 3209 ((ig27 3209) + 1)) a31 qg27 rg27 (by rfl) ?_
              refine ko_iast3 mi_k29.1 (n := 5) (c := 5) (ax := (0, 0, 0, 0, 0)) (mi_k29.2 _ _ (by rfl)) (by rfl) (ksG63 _ _ _ _) (ksA63 _ _ _ _) (hJ31.I.2.1 63) rfl (oz46 kn0) (oz547 kn0) ?_
              intro a33 ea33 fa33
              have hJ33 := kG_a3 hJ31 63 rfl ea33 fa33 (kd_bd _)
              refine ft_go mi_k29 4 140 [(3, .int l3_7), (2, .int ((a 51).getD x1.toNatClampNeg 0)), (0, .ref 50), (1, .int x1)] [.int 1, .ref 63, .int 1, .ref 63] (ku ig27 3209 ((ig27 3209) + 1)) a33 qg27 rg27 (by rfl) ?_
              refine ko_iald3 mi_k29.1 (n := 5) (c := 5) (ax := (0, 0, 0, 0, 0)) (mi_k29.2 _ _ (by rfl)) (by rfl) (ksG63 _ _ _ _) (hJ33.I.2.1 63) rfl (oz246 kn1) (oz548 kn1) ?_
              have efig25_3215 : (ig25 3215).toInt = (i7 3215).toInt := kg25.ti 3215 rfl
              have efig27_3215 : (ig27 3215).toInt = (ig25 3215).toInt := kg27.ti 3215 rfl
              have b34 : ((-2147483648 : Int) ≤ ((a33 63).getD (1 : Int32).toNatClampNeg 0).toInt) ∧ (((a33 63).getD (1 : Int32).toNatClampNeg 0).toInt ≤ 2147483647) := kd_bd ((a33 63).getD (1 : Int32).toNatClampNeg 0)
              have b35 : ((-2147483648 : Int) ≤ (ig27 3215).toInt) ∧ ((ig27 3215).toInt ≤ 2147483647) := kd_bd (ig27 3215)
              refine ft_go mi_k29 3 146 [(3, .int l3_7), (2, .int ((a 51).getD x1.toNatClampNeg 0)), (0, .ref 50), (1, .int x1)] [.int (((a33 63).getD (1 : Int32).toNatClampNeg 0) + (ig27 3215)), .int 1, .ref 63] (ku ig27 3209 ((ig27 3209) + 1)) a33 qg27 rg27 (by rfl) ?_
              refine ko_iast3 mi_k29.1 (n := 5) (c := 5) (ax := (0, 0, 0, 0, 0)) (mi_k29.2 _ _ (by rfl)) (by rfl) (ksG63 _ _ _ _) (ksA63 _ _ _ _) (hJ33.I.2.1 63) rfl (oz246 kn1) (oz548 kn1) ?_
              intro a36 ea36 fa36
              have hJ36 := kG_a3 hJ33 63 rfl ea36 fa36 (kd_bd _)
              refine ft_go mi_k29 2 151 [(3, .int l3_7), (2, .int ((a 51).getD x1.toNatClampNeg 0)), (0, .ref 50), (1, .int x1)] [.int (ig27 3215)] (ku ig27 3209 ((ig27 3209) + 1)) a36 qg27 rg27 (by rfl) ?_
              exact ft_ret mi_k29 (by rfl) (hP (ig27 3215) _ _ _ _ hJ36 trivial)
            ·
              have c37 : (i7 3206).toInt ≤ (i7 3586).toInt := kd_ltF c; clear c
              refine ft_go mi_k29 2 73 [(3, .int l3_7), (2, .int ((a 51).getD x1.toNatClampNeg 0)), (0, .ref 50), (1, .int x1)] [.int x1, .ref 50] i7 a7 q7 r7 (by rfl) ?_
              refine ko_callN mi_k29.1 (pc := 73) (ls := [(3, .int l3_7), (2, .int ((a 51).getD x1.toNatClampNeg 0)), (0, .ref 50), (1, .int x1)]) (st := [.int x1, .ref 50]) (h := ks i7 a7 q7 r7) (i := (.invokevirtual 96, 3, 30, 0, 9, 0, 221)) (mi_k29.2 _ _ (by rfl)) (ft_invS mi_pq30 (by rfl)) (cy := mi_c30) mi_pq30 rfl (kc30_50 hL7.I hL7.R x1 (oz423 fi_3200.2 z5.1 z5.2)) (by decide) ?_
              intro ig38 ag38 qg38 rg38 kg38 hg38
              have hGg38 := kG_call hL7 kg38 (by decide +kernel)
              have s39 : (l3_7 + 1).toInt = l3_7.toInt + (1 : Int32).toInt := kd_add (oz12 p7_0 kn1) (oz561 c22 kn5 kn1)
              refine ft_go mi_k29 2 52 [(3, .int (l3_7 + 1)), (2, .int ((a 51).getD x1.toNatClampNeg 0)), (0, .ref 50), (1, .int x1)] [] ig38 ag38 qg38 rg38 (by rfl) ?_
              exact ih7 _ _ _ _ _ hGg38 (oz14 p7_0 s39 kn1) (kj_meas (oz372 s39 kn1) (oz562 c22 kn5) hm7)
      exact lp7 _ _ _ _ _ _ (kG_self _ hJ3.I hJ3.R) (oz46 kn0) (Nat.lt_succ_self _)
    ·
      have c40 : (i 3207).toInt = (0 : Int32).toInt := kd_neF c; clear c
      refine ft_go mi_k29 3 36 [(0, .ref 50), (1, .int x1)] [.int x1, .ref 54] (ku (ku (ku i 3214 8) 3215 0) 3216 0) a q r (by rfl) ?_
      refine ko_iald3 mi_k29.1 (n := 8) (c := 8) (ax := (0, 0, 0, 0, 0)) (mi_k29.2 _ _ (by rfl)) (by rfl) (ksG54 _ _ _ _) (hJ3.I.2.1 54) rfl (oz3 z5.1) (oz974 fi_3200.2 z5.2) ?_
      refine ft_go mi_k29 1 38 [(0, .ref 50), (1, .int x1)] [.int 1, .int ((a 54).getD x1.toNatClampNeg 0)] (ku (ku (ku i 3214 8) 3215 0) 3216 0) a q r (by rfl) ?_
      refine ft_if mi_k29 (((a 54).getD x1.toNatClampNeg 0) != 1) 43 41 [(0, .ref 50), (1, .int x1)] [] (by rfl) (fun c => ?_) (fun c => ?_)
      ·
        have c41 : ((a 54).getD x1.toNatClampNeg 0).toInt ≠ (1 : Int32).toInt := kd_ne c; clear c
        refine ft_go mi_k29 3 48 [(0, .ref 50), (1, .int x1)] [.int x1, .ref 51] (ku (ku (ku i 3214 8) 3215 0) 3216 0) a q r (by rfl) ?_
        refine ko_iald3 mi_k29.1 (n := 8) (c := 8) (ax := (0, 0, 0, 0, 0)) (mi_k29.2 _ _ (by rfl)) (by rfl) (ksG51 _ _ _ _) (hJ3.I.2.1 51) rfl (oz3 z5.1) (oz974 fi_3200.2 z5.2) ?_
        refine ft_go mi_k29 3 52 [(3, .int 0), (2, .int ((a 51).getD x1.toNatClampNeg 0)), (0, .ref 50), (1, .int x1)] [] (ku (ku (ku i 3214 8) 3215 0) 3216 0) a q r (by rfl) ?_
        have lp42 : ∀ (nz : Nat) (i42 : Nat → Int32) (a42 : Nat → List Int32) (q42 : Nat → List Int64) (r42 : Nat → Nat) (l3_42 : Int32), kG w29_50_L52 (ku (ku (ku i 3214 8) 3215 0) 3216 0) a q r i42 a42 q42 r42 → (0 : Int) ≤ l3_42.toInt → ((5 - l3_42.toInt)).toNat < nz → ko 7 (mi_h29, mi_c29) P (52, [(3, .int l3_42), (2, .int ((a 51).getD x1.toNatClampNeg 0)), (0, .ref 50), (1, .int x1)], [], (0, 0), ks i42 a42 q42 r42) := by
          intro nz
          induction nz with
          | zero =>
            intro _ _ _ _ _ _ _ hm
            exact absurd hm (Nat.not_lt_zero _)
          | succ nz ih42 =>
            intro i42 a42 q42 r42 l3_42 hL42 p42_0 hm42
            refine ft_go mi_k29 2 54 [(3, .int l3_42), (2, .int ((a 51).getD x1.toNatClampNeg 0)), (0, .ref 50), (1, .int x1)] [.int 5, .int l3_42] i42 a42 q42 r42 (by rfl) ?_
            refine ft_if mi_k29 (decide (5 ≤ l3_42)) 82 57 [(3, .int l3_42), (2, .int ((a 51).getD x1.toNatClampNeg 0)), (0, .ref 50), (1, .int x1)] [] (by rfl) (fun c => ?_) (fun c => ?_)
            ·
              have c43 : (5 : Int32).toInt ≤ l3_42.toInt := kd_le c; clear c
              have hG44 := kG_call hJ3 hL42 (by decide +kernel)
              refine ft_go mi_k29 4 86 [(3, .int l3_42), (2, .int ((a 51).getD x1.toNatClampNeg 0)), (0, .ref 50), (1, .int x1)] [.int ((a 51).getD x1.toNatClampNeg 0), .int x1, .ref 50, .ref 50] i42 a42 q42 r42 (by rfl) ?_
              refine ko_callI mi_k29.1 (pc := 86) (ls := [(3, .int l3_42), (2, .int ((a 51).getD x1.toNatClampNeg 0)), (0, .ref 50), (1, .int x1)]) (st := [.int ((a 51).getD x1.toNatClampNeg 0), .int x1, .ref 50, .ref 50]) (h := ks i42 a42 q42 r42) (i := (.invokevirtual 100, 3, 31, 0, 9, 0, 223)) (mi_k29.2 _ _ (by rfl)) (ft_invS mi_pq31 (by rfl)) (cy := mi_c31) mi_pq31 rfl (kc31_50 hG44.I hG44.R x1 ((a 51).getD x1.toNatClampNeg 0) (oz423 fi_3200.2 z5.1 z5.2)) (by decide) ?_
              intro vg45 ig45 ag45 qg45 rg45 kg45 hg45
              have hGg45 := kG_call hG44 kg45 (by decide +kernel)
              have hJ46 := kG_i hGg45 3216 rfl (v := vg45) (kd_bd _)
              refine ft_go mi_k29 6 101 [(3, .int l3_42), (2, .int ((a 51).getD x1.toNatClampNeg 0)), (0, .ref 50), (1, .int x1)] [.int vg45, .int x1, .ref 56] (ku ig45 3216 vg45) ag45 qg45 rg45 (by rfl) ?_
              refine ko_callN mi_k29.1 (pc := 101) (ls := [(3, .int l3_42), (2, .int ((a 51).getD x1.toNatClampNeg 0)), (0, .ref 50), (1, .int x1)]) (st := [.int vg45, .int x1, .ref 56]) (h := ks (ku ig45 3216 vg45) ag45 qg45 rg45) (i := (.invokevirtual 104, 3, 1, 0, 9, 0, 228)) (mi_k29.2 _ _ (by rfl)) (ft_invS mi_pq1 (by rfl)) (cy := mi_c1) mi_pq1 rfl (kc1_56 hJ46.I hJ46.R x1 vg45) (by decide) ?_
              intro ig47 ag47 qg47 rg47 kg47 hg47
              have hGg47 := kG_call hJ46 kg47 (by decide +kernel)
              have efi42_3209 : (i42 3209).toInt = (i 3209).toInt := hL42.ti 3209 rfl
              have efig45_3209 : (ig45 3209).toInt = (i42 3209).toInt := kg45.ti 3209 rfl
              have efig47_3209 : (ig47 3209).toInt = (ig45 3209).toInt := kg47.ti 3209 rfl
              have b48 : ((-2147483648 : Int) ≤ (ig47 3209).toInt) ∧ ((ig47 3209).toInt ≤ 2147483647) := kd_bd (ig47 3209)
              have hJ49 := kG_i hGg47 3209 rfl (v := ((ig47 3209) + 1)) (kd_bd _)
              refine ft_go mi_k29 10 120 [(3, .int l3_42), (2, .int ((a 51).getD x1.toNatClampNeg 0)), (0, .ref 50), (1, .int x1)] [.int x1, .ref 55, .int x1, .ref 55] (ku ig47 3209 ((ig47 3209) + 1)) ag47 qg47 rg47 (by rfl) ?_
              refine ko_iald3 mi_k29.1 (n := 8) (c := 8) (ax := (0, 0, 0, 0, 0)) (mi_k29.2 _ _ (by rfl)) (by rfl) (ksG55 _ _ _ _) (hJ49.I.2.1 55) rfl (oz3 z5.1) (oz974 fi_3200.2 z5.2) ?_
              have b50 : ((-2147483648 : Int) ≤ ((ag47 55).getD x1.toNatClampNeg 0).toInt) ∧ (((ag47 55).getD x1.toNatClampNeg 0).toInt ≤ 2147483647) := kd_bd ((ag47 55).getD x1.toNatClampNeg 0)
              refine ft_go mi_k29 2 123 [(3, .int l3_42), (2, .int ((a 51).getD x1.toNatClampNeg 0)), (0, .ref 50), (1, .int x1)] [.int (((ag47 55).getD x1.toNatClampNeg 0) + 1), .int x1, .ref 55] (ku ig47 3209 ((ig47 3209) + 1)) ag47 qg47 rg47 (by rfl) ?_
              refine ko_iast3 mi_k29.1 (n := 8) (c := 8) (ax := (0, 0, 0, 0, 0)) (mi_k29.2 _ _ (by rfl)) (by rfl) (ksG55 _ _ _ _) (ksA55 _ _ _ _) (hJ49.I.2.1 55) rfl (oz3 z5.1) (oz974 fi_3200.2 z5.2) ?_
              intro a51 ea51 fa51
              have hJ51 := kG_a3 hJ49 55 rfl ea51 fa51 (kd_bd _)
              refine ft_go mi_k29 4 130 [(3, .int l3_42), (2, .int ((a 51).getD x1.toNatClampNeg 0)), (0, .ref 50), (1, .int x1)] [.int 0, .ref 63, .int 0, .ref 63] (ku ig47 3209 ((ig47 3209) + 1)) a51 qg47 rg47 (by rfl) ?_
              refine ko_iald3 mi_k29.1 (n := 5) (c := 5) (ax := (0, 0, 0, 0, 0)) (mi_k29.2 _ _ (by rfl)) (by rfl) (ksG63 _ _ _ _) (hJ51.I.2.1 63) rfl (oz46 kn0) (oz547 kn0) ?_
              have b52 : ((-2147483648 : Int) ≤ ((a51 63).getD (0 : Int32).toNatClampNeg 0).toInt) ∧ (((a51 63).getD (0 : Int32).toNatClampNeg 0).toInt ≤ 2147483647) := kd_bd ((a51 63).getD (0 : Int32).toNatClampNeg 0)
              refine ft_go mi_k29 2 133 [(3, .int l3_42), (2, .int ((a 51).getD x1.toNatClampNeg 0)), (0, .ref 50), (1, .int x1)] [.int (((a51 63).getD (0 : Int32).toNatClampNeg 0) + 1), .int 0, .ref 63] (ku ig47 3209 ((ig47 3209) + 1)) a51 qg47 rg47 (by rfl) ?_
              refine ko_iast3 mi_k29.1 (n := 5) (c := 5) (ax := (0, 0, 0, 0, 0)) (mi_k29.2 _ _ (by rfl)) (by rfl) (ksG63 _ _ _ _) (ksA63 _ _ _ _) (hJ51.I.2.1 63) rfl (oz46 kn0) (oz547 kn0) ?_
              intro a53 ea53 fa53
              have hJ53 := kG_a3 hJ51 63 rfl ea53 fa53 (kd_bd _)
              refine ft_go mi_k29 4 140 [(3, .int l3_42), (2, .int ((a 51).getD x1.toNatClampNeg 0)), (0, .ref 50), (1, .int x1)] [.int 1, .ref 63, .int 1, .ref 63] (ku ig47 3209 ((ig47 3209) + 1)) a53 qg47 rg47 (by rfl) ?_
              refine ko_iald3 mi_k29.1 (n := 5) (c := 5) (ax := (0, 0, 0, 0, 0)) (mi_k29.2 _ _ (by rfl)) (by rfl) (ksG63 _ _ _ _) (hJ53.I.2.1 63) rfl (oz246 kn1) (oz548 kn1) ?_
              have efig45_3215 : (ig45 3215).toInt = (i42 3215).toInt := kg45.ti 3215 rfl
              have efig47_3215 : (ig47 3215).toInt = (ig45 3215).toInt := kg47.ti 3215 rfl
              have b54 : ((-2147483648 : Int) ≤ ((a53 63).getD (1 : Int32).toNatClampNeg 0).toInt) ∧ (((a53 63).getD (1 : Int32).toNatClampNeg 0).toInt ≤ 2147483647) := kd_bd ((a53 63).getD (1 : Int32).toNatClampNeg 0)
              have b55 : ((-2147483648 : Int) ≤ (ig47 3215).toInt) ∧ ((ig47 3215).toInt ≤ 2147483647) := kd_bd (ig47 3215)
              refine ft_go mi_k29 3 146 [(3, .int l3_42), (2, .int ((a 51).getD x1.toNatClampNeg 0)), (0, .ref 50), (1, .int x1)] [.int (((a53 63).getD (1 : Int32).toNatClampNeg 0) + (ig47 3215)), .int 1, .ref 63] (ku ig47 3209 ((ig47 3209) + 1)) a53 qg47 rg47 (by rfl) ?_
              refine ko_iast3 mi_k29.1 (n := 5) (c := 5) (ax := (0, 0, 0, 0, 0)) (mi_k29.2 _ _ (by rfl)) (by rfl) (ksG63 _ _ _ _) (ksA63 _ _ _ _) (hJ53.I.2.1 63) rfl (oz246 kn1) (oz548 kn1) ?_
              intro a56 ea56 fa56
              have hJ56 := kG_a3 hJ53 63 rfl ea56 fa56 (kd_bd _)
              refine ft_go mi_k29 2 151 [(3, .int l3_42), (2, .int ((a 51).getD x1.toNatClampNeg 0)), (0, .ref 50), (1, .int x1)] [.int (ig47 3215)] (ku ig47 3209 ((ig47 3209) + 1)) a56 qg47 rg47 (by rfl) ?_
              exact ft_ret mi_k29 (by rfl) (hP (ig47 3215) _ _ _ _ hJ56 trivial)
            ·
              have c57 : l3_42.toInt < (5 : Int32).toInt := kd_leF c; clear c
              have fi42_3586 : ((0 : Int) ≤ (i42 3586).toInt) ∧ ((i42 3586).toInt ≤ 5) := hL42.I.1 3586
              have efi42_3206 : (i42 3206).toInt = (i 3206).toInt := hL42.ti 3206 rfl
              refine ft_go mi_k29 5 68 [(3, .int l3_42), (2, .int ((a 51).getD x1.toNatClampNeg 0)), (0, .ref 50), (1, .int x1)] [.int (i42 3206), .int (i42 3586)] i42 a42 q42 r42 (by rfl) ?_
              refine ft_if mi_k29 (decide ((i42 3586) < (i42 3206))) 82 71 [(3, .int l3_42), (2, .int ((a 51).getD x1.toNatClampNeg 0)), (0, .ref 50), (1, .int x1)] [] (by rfl) (fun c => ?_) (fun c => ?_)
              ·
                have c58 : (i42 3586).toInt < (i42 3206).toInt := kd_lt c; clear c
                have hG59 := kG_call hJ3 hL42 (by decide +kernel)
                refine ft_go mi_k29 4 86 [(3, .int l3_42), (2, .int ((a 51).getD x1.toNatClampNeg 0)), (0, .ref 50), (1, .int x1)] [.int ((a 51).getD x1.toNatClampNeg 0), .int x1, .ref 50, .ref 50] i42 a42 q42 r42 (by rfl) ?_
                refine ko_callI mi_k29.1 (pc := 86) (ls := [(3, .int l3_42), (2, .int ((a 51).getD x1.toNatClampNeg 0)), (0, .ref 50), (1, .int x1)]) (st := [.int ((a 51).getD x1.toNatClampNeg 0), .int x1, .ref 50, .ref 50]) (h := ks i42 a42 q42 r42) (i := (.invokevirtual 100, 3, 31, 0, 9, 0, 223)) (mi_k29.2 _ _ (by rfl)) (ft_invS mi_pq31 (by rfl)) (cy := mi_c31) mi_pq31 rfl (kc31_50 hG59.I hG59.R x1 ((a 51).getD x1.toNatClampNeg 0) (oz423 fi_3200.2 z5.1 z5.2)) (by decide) ?_
                intro vg60 ig60 ag60 qg60 rg60 kg60 hg60
                have hGg60 := kG_call hG59 kg60 (by decide +kernel)
                have hJ61 := kG_i hGg60 3216 rfl (v := vg60) (kd_bd _)
                refine ft_go mi_k29 6 101 [(3, .int l3_42), (2, .int ((a 51).getD x1.toNatClampNeg 0)), (0, .ref 50), (1, .int x1)] [.int vg60, .int x1, .ref 56] (ku ig60 3216 vg60) ag60 qg60 rg60 (by rfl) ?_
                refine ko_callN mi_k29.1 (pc := 101) (ls := [(3, .int l3_42), (2, .int ((a 51).getD x1.toNatClampNeg 0)), (0, .ref 50), (1, .int x1)]) (st := [.int vg60, .int x1, .ref 56]) (h := ks (ku ig60 3216 vg60) ag60 qg60 rg60) (i := (.invokevirtual 104, 3, 1, 0, 9, 0, 228)) (mi_k29.2 _ _ (by rfl)) (ft_invS mi_pq1 (by rfl)) (cy := mi_c1) mi_pq1 rfl (kc1_56 hJ61.I hJ61.R x1 vg60) (by decide) ?_
                intro ig62 ag62 qg62 rg62 kg62 hg62
                have hGg62 := kG_call hJ61 kg62 (by decide +kernel)
                have efi42_3209 : (i42 3209).toInt = (i 3209).toInt := hL42.ti 3209 rfl
                have efig60_3209 : (ig60 3209).toInt = (i42 3209).toInt := kg60.ti 3209 rfl
                have efig62_3209 : (ig62 3209).toInt = (ig60 3209).toInt := kg62.ti 3209 rfl
                have b63 : ((-2147483648 : Int) ≤ (ig62 3209).toInt) ∧ ((ig62 3209).toInt ≤ 2147483647) := kd_bd (ig62 3209)
                have hJ64 := kG_i hGg62 3209 rfl (v := ((ig62 3209) + 1)) (kd_bd _)
                refine ft_go mi_k29 10 120 [(3, .int l3_42), (2, .int ((a 51).getD x1.toNatClampNeg 0)), (0, .ref 50), (1, .int x1)] [.int x1, .ref 55, .int x1, .ref 55] (ku ig62 3209 ((ig62 3209) + 1)) ag62 qg62 rg62 (by rfl) ?_
                refine ko_iald3 mi_k29.1 (n := 8) (c := 8) (ax := (0, 0, 0, 0, 0)) (mi_k29.2 _ _ (by rfl)) (by rfl) (ksG55 _ _ _ _) (hJ64.I.2.1 55) rfl (oz3 z5.1) (oz974 fi_3200.2 z5.2) ?_
                have b65 : ((-2147483648 : Int) ≤ ((ag62 55).getD x1.toNatClampNeg 0).toInt) ∧ (((ag62 55).getD x1.toNatClampNeg 0).toInt ≤ 2147483647) := kd_bd ((ag62 55).getD x1.toNatClampNeg 0)
                refine ft_go mi_k29 2 123 [(3, .int l3_42), (2, .int ((a 51).getD x1.toNatClampNeg 0)), (0, .ref 50), (1, .int x1)] [.int (((ag62 55).getD x1.toNatClampNeg 0) + 1), .int x1, .ref 55] (ku ig62 3209 ((ig62 3209) + 1)) ag62 qg62 rg62 (by rfl) ?_
                refine ko_iast3 mi_k29.1 (n := 8) (c := 8) (ax := (0, 0, 0, 0, 0)) (mi_k29.2 _ _ (by rfl)) (by rfl) (ksG55 _ _ _ _) (ksA55 _ _ _ _) (hJ64.I.2.1 55) rfl (oz3 z5.1) (oz974 fi_3200.2 z5.2) ?_
                intro a66 ea66 fa66
                have hJ66 := kG_a3 hJ64 55 rfl ea66 fa66 (kd_bd _)
                refine ft_go mi_k29 4 130 [(3, .int l3_42), (2, .int ((a 51).getD x1.toNatClampNeg 0)), (0, .ref 50), (1, .int x1)] [.int 0, .ref 63, .int 0, .ref 63] (ku ig62 3209 ((ig62 3209) + 1)) a66 qg62 rg62 (by rfl) ?_
                refine ko_iald3 mi_k29.1 (n := 5) (c := 5) (ax := (0, 0, 0, 0, 0)) (mi_k29.2 _ _ (by rfl)) (by rfl) (ksG63 _ _ _ _) (hJ66.I.2.1 63) rfl (oz46 kn0) (oz547 kn0) ?_
                have b67 : ((-2147483648 : Int) ≤ ((a66 63).getD (0 : Int32).toNatClampNeg 0).toInt) ∧ (((a66 63).getD (0 : Int32).toNatClampNeg 0).toInt ≤ 2147483647) := kd_bd ((a66 63).getD (0 : Int32).toNatClampNeg 0)
                refine ft_go mi_k29 2 133 [(3, .int l3_42), (2, .int ((a 51).getD x1.toNatClampNeg 0)), (0, .ref 50), (1, .int x1)] [.int (((a66 63).getD (0 : Int32).toNatClampNeg 0) + 1), .int 0, .ref 63] (ku ig62 3209 ((ig62 3209) + 1)) a66 qg62 rg62 (by rfl) ?_
                refine ko_iast3 mi_k29.1 (n := 5) (c := 5) (ax := (0, 0, 0, 0, 0)) (mi_k29.2 _ _ (by rfl)) (by rfl) (ksG63 _ _ _ _) (ksA63 _ _ _ _) (hJ66.I.2.1 63) rfl (oz46 kn0) (oz547 kn0) ?_
                intro a68 ea68 fa68
                have hJ68 := kG_a3 hJ66 63 rfl ea68 fa68 (kd_bd _)
                refine ft_go mi_k29 4 140 [(3, .int l3_42), (2, .int ((a 51).getD x1.toNatClampNeg 0)), (0, .ref 50), (1, .int x1)] [.int 1, .ref 63, .int 1, .ref 63] (ku ig62 3209 ((ig62 3209) + 1)) a68 qg62 rg62 (by rfl) ?_
                refine ko_iald3 mi_k29.1 (n := 5) (c := 5) (ax := (0, 0, 0, 0, 0)) (mi_k29.2 _ _ (by rfl)) (by rfl) (ksG63 _ _ _ _) (hJ68.I.2.1 63) rfl (oz246 kn1) (oz548 kn1) ?_
                have efig60_3215 : (ig60 3215).toInt = (i42 3215).toInt := kg60.ti 3215 rfl
                have efig62_3215 : (ig62 3215).toInt = (ig60 3215).toInt := kg62.ti 3215 rfl
                have b69 : ((-2147483648 : Int) ≤ ((a68 63).getD (1 : Int32).toNatClampNeg 0).toInt) ∧ (((a68 63).getD (1 : Int32).toNatClampNeg 0).toInt ≤ 2147483647) := kd_bd ((a68 63).getD (1 : Int32).toNatClampNeg 0)
                have b70 : ((-2147483648 : Int) ≤ (ig62 3215).toInt) ∧ ((ig62 3215).toInt ≤ 2147483647) := kd_bd (ig62 3215)
                refine ft_go mi_k29 3 146 [(3, .int l3_42), (2, .int ((a 51).getD x1.toNatClampNeg 0)), (0, .ref 50), (1, .int x1)] [.int (((a68 63).getD (1 : Int32).toNatClampNeg 0) + (ig62 3215)), .int 1, .ref 63] (ku ig62 3209 ((ig62 3209) + 1)) a68 qg62 rg62 (by rfl) ?_
                refine ko_iast3 mi_k29.1 (n := 5) (c := 5) (ax := (0, 0, 0, 0, 0)) (mi_k29.2 _ _ (by rfl)) (by rfl) (ksG63 _ _ _ _) (ksA63 _ _ _ _) (hJ68.I.2.1 63) rfl (oz246 kn1) (oz548 kn1) ?_
                intro a71 ea71 fa71
                have hJ71 := kG_a3 hJ68 63 rfl ea71 fa71 (kd_bd _)
                refine ft_go mi_k29 2 151 [(3, .int l3_42), (2, .int ((a 51).getD x1.toNatClampNeg 0)), (0, .ref 50), (1, .int x1)] [.int (ig62 3215)] (ku ig62 3209 ((ig62 3209) + 1)) a71 qg62 rg62 (by rfl) ?_
                exact ft_ret mi_k29 (by rfl) (hP (ig62 3215) _ _ _ _ hJ71 trivial)
              ·
                have c72 : (i42 3206).toInt ≤ (i42 3586).toInt := kd_ltF c; clear c
                refine ft_go mi_k29 2 73 [(3, .int l3_42), (2, .int ((a 51).getD x1.toNatClampNeg 0)), (0, .ref 50), (1, .int x1)] [.int x1, .ref 50] i42 a42 q42 r42 (by rfl) ?_
                refine ko_callN mi_k29.1 (pc := 73) (ls := [(3, .int l3_42), (2, .int ((a 51).getD x1.toNatClampNeg 0)), (0, .ref 50), (1, .int x1)]) (st := [.int x1, .ref 50]) (h := ks i42 a42 q42 r42) (i := (.invokevirtual 96, 3, 30, 0, 9, 0, 221)) (mi_k29.2 _ _ (by rfl)) (ft_invS mi_pq30 (by rfl)) (cy := mi_c30) mi_pq30 rfl (kc30_50 hL42.I hL42.R x1 (oz423 fi_3200.2 z5.1 z5.2)) (by decide) ?_
                intro ig73 ag73 qg73 rg73 kg73 hg73
                have hGg73 := kG_call hL42 kg73 (by decide +kernel)
                have s74 : (l3_42 + 1).toInt = l3_42.toInt + (1 : Int32).toInt := kd_add (oz12 p42_0 kn1) (oz561 c57 kn5 kn1)
                refine ft_go mi_k29 2 52 [(3, .int (l3_42 + 1)), (2, .int ((a 51).getD x1.toNatClampNeg 0)), (0, .ref 50), (1, .int x1)] [] ig73 ag73 qg73 rg73 (by rfl) ?_
                exact ih42 _ _ _ _ _ hGg73 (oz14 p42_0 s74 kn1) (kj_meas (oz372 s74 kn1) (oz562 c57 kn5) hm42)
        exact lp42 _ _ _ _ _ _ (kG_self _ hJ3.I hJ3.R) (oz46 kn0) (Nat.lt_succ_self _)
      ·
        have c75 : ((a 54).getD x1.toNatClampNeg 0).toInt = (1 : Int32).toInt := kd_neF c; clear c
        refine ft_go mi_k29 1 42 [(0, .ref 50), (1, .int x1)] [.int 0] (ku (ku (ku i 3214 8) 3215 0) 3216 0) a q r (by rfl) ?_
        exact ft_ret mi_k29 (by rfl) (hP 0 _ _ _ _ hJ3 trivial)
  ·
    subst eg4
    have fi_3200 : ((0 : Int) ≤ (i 3200).toInt) ∧ ((i 3200).toInt ≤ 8) := hJ3.I.1 3200
    have z76 : ¬ (((0 : Int) ≤ x1.toInt) ∧ (x1.toInt < (i 3200).toInt)) := hg4
    refine ft_go mi_k29 2 42 [(0, .ref 50), (1, .int x1)] [.int 0] (ku (ku (ku i 3214 8) 3215 0) 3216 0) a q r (by rfl) ?_
    exact ft_ret mi_k29 (by rfl) (hP 0 _ _ _ _ hJ3 trivial)
def w60_49 : kW := ([645, 3209, 3214, 3215, 3216, 3586, 3781, 6405], [13, 51, 55, 57, 58, 62, 63, 65, 66, 67, 68, 69, 70, 71, 72, 73, 75, 76, 77, 103], [], [])
def w60_49_L2 : kW := ([645, 3209, 3214, 3215, 3216, 3586, 3781, 6405], [13, 51, 55, 57, 58, 62, 63, 65, 66, 67, 68, 69, 70, 71, 72, 73, 75, 76, 77, 103], [], [])
