set_option maxRecDepth 100000 in
theorem kc60_49 {i : Nat → Int32} {a : Nat → List Int32} {q : Nat → List Int64} {r : Nat → Nat} (hI : kI i a q) (hr : kr r)  : km 9 60 [.ref 49] (ks i a q r) (kVN w60_49 i a q r (fun i1 a1 q1 r1 => True)) := by
  have hG := kG_self w60_49 hI hr
  refine km_ofN (q := (mi_h60, mi_c60)) rfl (by decide) (Nat.le_of_ble_eq_true rfl) ?_
  intro P hP
  refine ft_go mi_k60 2 2 [(1, .int 0), (0, .ref 49)] [] i a q r (by rfl) ?_
  have lp1 : ∀ (nz : Nat) (i1 : Nat → Int32) (a1 : Nat → List Int32) (q1 : Nat → List Int64) (r1 : Nat → Nat) (l1_1 : Int32), kG w60_49_L2 i a q r i1 a1 q1 r1 → (0 : Int) ≤ l1_1.toInt → ((20 - l1_1.toInt)).toNat < nz → ko 9 (mi_h60, mi_c60) P (2, [(1, .int l1_1), (0, .ref 49)], [], (0, 0), ks i1 a1 q1 r1) := by
    intro nz
    induction nz with
    | zero =>
      intro _ _ _ _ _ _ _ hm
      exact absurd hm (Nat.not_lt_zero _)
    | succ nz ih1 =>
      intro i1 a1 q1 r1 l1_1 hL1 p1_0 hm1
      have fi1_3138 : ((0 : Int) ≤ (i1 3138).toInt) ∧ ((i1 3138).toInt ≤ 20) := hL1.I.1 3138
      have fi_3138 : ((0 : Int) ≤ (i 3138).toInt) ∧ ((i 3138).toInt ≤ 20) := hG.I.1 3138
      have efi1_3138 : (i1 3138).toInt = (i 3138).toInt := hL1.ti 3138 rfl
      refine ft_go mi_k60 3 7 [(1, .int l1_1), (0, .ref 49)] [.int (i1 3138), .int l1_1] i1 a1 q1 r1 (by rfl) ?_
      refine ft_if mi_k60 (decide ((i1 3138) ≤ l1_1)) 67 10 [(1, .int l1_1), (0, .ref 49)] [] (by rfl) (fun c => ?_) (fun c => ?_)
      ·
        have c2 : (i1 3138).toInt ≤ l1_1.toInt := kd_le c; clear c
        have hG3 := kG_call hG hL1 (by decide +kernel)
        exact ft_ret mi_k60 (by rfl) (hP  _ _ _ _ hG3 trivial)
      ·
        have c4 : l1_1.toInt < (i1 3138).toInt := kd_leF c; clear c
        refine ft_go mi_k60 2 13 [(1, .int l1_1), (0, .ref 49)] [.int 20, .int l1_1] i1 a1 q1 r1 (by rfl) ?_
        refine ft_if mi_k60 (decide (20 ≤ l1_1)) 67 16 [(1, .int l1_1), (0, .ref 49)] [] (by rfl) (fun c => ?_) (fun c => ?_)
        ·
          have c5 : (20 : Int32).toInt ≤ l1_1.toInt := kd_le c; clear c
          exact (oz1031 c4 c5 fi1_3138.2 kn20).elim
        ·
          have c6 : l1_1.toInt < (20 : Int32).toInt := kd_leF c; clear c
          refine ft_go mi_k60 8 30 [(1, .int l1_1), (0, .ref 49)] [.int l1_1, .ref 74, .ref 50, .int l1_1, .ref 76] i1 a1 q1 r1 (by rfl) ?_
          refine ko_iald3 mi_k60.1 (n := 20) (c := 20) (ax := (0, 0, 0, 0, 0)) (mi_k60.2 _ _ (by rfl)) (by rfl) (ksG74 _ _ _ _) (hL1.I.2.1 74) rfl (oz3 p1_0) (oz1013 c6 kn20) ?_
          refine ko_callI mi_k60.1 (pc := 31) (ls := [(1, .int l1_1), (0, .ref 49)]) (st := [.int ((a1 74).getD l1_1.toNatClampNeg 0), .ref 50, .int l1_1, .ref 76]) (h := ks i1 a1 q1 r1) (i := (.invokevirtual 63, 3, 29, 0, 9, 0, 220)) (mi_k60.2 _ _ (by rfl)) (ft_invS mi_pq29 (by rfl)) (cy := mi_c29) mi_pq29 rfl (kc29_50 hL1.I hL1.R ((a1 74).getD l1_1.toNatClampNeg 0)) (by decide) ?_
          intro vg7 ig7 ag7 qg7 rg7 kg7 hg7
          have hGg7 := kG_call hL1 kg7 (by decide +kernel)
          refine ko_iast3 mi_k60.1 (n := 20) (c := 20) (ax := (0, 0, 0, 0, 0)) (mi_k60.2 _ _ (by rfl)) (by rfl) (ksG76 _ _ _ _) (ksA76 _ _ _ _) (hGg7.I.2.1 76) rfl (oz3 p1_0) (oz1013 c6 kn20) ?_
          intro a8 ea8 fa8
          have hJ8 := kG_a3 hGg7 76 rfl ea8 fa8 (kd_bd _)
          refine ft_go mi_k60 6 47 [(1, .int l1_1), (0, .ref 49)] [.int (ig7 3214), .int l1_1, .ref 75] ig7 a8 qg7 rg7 (by rfl) ?_
          refine ko_iast3 mi_k60.1 (n := 20) (c := 20) (ax := (0, 0, 0, 0, 0)) (mi_k60.2 _ _ (by rfl)) (by rfl) (ksG75 _ _ _ _) (ksA75 _ _ _ _) (hJ8.I.2.1 75) rfl (oz3 p1_0) (oz1013 c6 kn20) ?_
          intro a9 ea9 fa9
          have hJ9 := kG_a3 hJ8 75 rfl ea9 fa9 (kd_bd _)
          refine ft_go mi_k60 6 60 [(1, .int l1_1), (0, .ref 49)] [.int (ig7 3216), .int l1_1, .ref 77] ig7 a9 qg7 rg7 (by rfl) ?_
          refine ko_iast3 mi_k60.1 (n := 20) (c := 20) (ax := (0, 0, 0, 0, 0)) (mi_k60.2 _ _ (by rfl)) (by rfl) (ksG77 _ _ _ _) (ksA77 _ _ _ _) (hJ9.I.2.1 77) rfl (oz3 p1_0) (oz1013 c6 kn20) ?_
          intro a10 ea10 fa10
          have hJ10 := kG_a3 hJ9 77 rfl ea10 fa10 (kd_bd _)
          have s11 : (l1_1 + 1).toInt = l1_1.toInt + (1 : Int32).toInt := kd_add (oz12 p1_0 kn1) (oz1014 c6 kn20 kn1)
          refine ft_go mi_k60 2 2 [(1, .int (l1_1 + 1)), (0, .ref 49)] [] ig7 a10 qg7 rg7 (by rfl) ?_
          exact ih1 _ _ _ _ _ hJ10 (oz14 p1_0 s11 kn1) (kj_meas (oz218 s11 kn1) (oz225 c6 kn20) hm1)
  exact lp1 _ _ _ _ _ _ (kG_self _ hG.I hG.R) (oz46 kn0) (Nat.lt_succ_self _)
def w59_49_1 : kW := ([645, 3200, 3206, 3207, 3208, 3209, 3214, 3215, 3216, 3586, 3781, 6405], [13, 51, 52, 53, 54, 55, 57, 58, 62, 63, 65, 66, 67, 68, 69, 70, 71, 72, 73, 75, 76, 77, 103], [], [1])
set_option maxRecDepth 100000 in
theorem kc59_49_1 {i : Nat → Int32} {a : Nat → List Int32} {q : Nat → List Int64} {r : Nat → Nat} (hI : kI i a q) (hr : kr r)  : km 11 59 [.ref 49, .ref 1] (ks i a q r) (kVN w59_49_1 i a q r (fun i1 a1 q1 r1 => True)) := by
  have hG := kG_self w59_49_1 hI hr
  refine km_ofN (q := (mi_h59, mi_c59)) rfl (by decide) (Nat.le_of_ble_eq_true rfl) ?_
  intro P hP
  refine ft_go mi_k59 3 5 [(0, .ref 49), (1, .ref 1)] [.ref 1, .ref 50] i a q r (by rfl) ?_
  refine ko_callN mi_k59.1 (pc := 5) (ls := [(0, .ref 49), (1, .ref 1)]) (st := [.ref 1, .ref 50]) (h := ks i a q r) (i := (.invokevirtual 56, 3, 34, 0, 9, 0, 212)) (mi_k59.2 _ _ (by rfl)) (ft_invS mi_pq34 (by rfl)) (cy := mi_c34) mi_pq34 rfl (kc34_50_1 hG.I hG.R ) (by decide) ?_
  intro ig1 ag1 qg1 rg1 kg1 hg1
  have hGg1 := kG_call hG kg1 (by decide +kernel)
  refine ft_go mi_k59 1 9 [(0, .ref 49), (1, .ref 1)] [.ref 49] ig1 ag1 qg1 rg1 (by rfl) ?_
  refine ko_callN mi_k59.1 (pc := 9) (ls := [(0, .ref 49), (1, .ref 1)]) (st := [.ref 49]) (h := ks ig1 ag1 qg1 rg1) (i := (.invokevirtual 60, 3, 60, 0, 9, 0, 219)) (mi_k59.2 _ _ (by rfl)) (ft_invS mi_pq60 (by rfl)) (cy := mi_c60) mi_pq60 rfl (kc60_49 hGg1.I hGg1.R ) (by decide) ?_
  intro ig2 ag2 qg2 rg2 kg2 hg2
  have hGg2 := kG_call hGg1 kg2 (by decide +kernel)
  exact ft_ret mi_k59 (by rfl) (hP  _ _ _ _ hGg2 trivial)
set_option maxRecDepth 100000 in
theorem kc26_50 {i : Nat → Int32} {a : Nat → List Int32} {q : Nat → List Int64} {r : Nat → Nat} (hI : kI i a q) (hr : kr r) (x1 : Int32) : km 1 26 [.ref 50, .int x1] (ks i a q r) (kPR (ks i a q r) (fun v => (v = 51 ∧ True) ∨ (v = 52 ∧ True) ∨ (v = 53 ∧ True) ∨ (v = 54 ∧ True))) := by
  have hG := kG_self kW0 hI hr
  refine km_ofPR (q := (mi_h26, mi_c26)) rfl (by decide) (Nat.le_of_ble_eq_true rfl) ?_
  intro P hP
  refine ft_go mi_k26 1 1 [(0, .ref 50), (1, .int x1)] [.int x1] i a q r (by rfl) ?_
  by_cases w1 : x1.toInt = 0
  ·
    refine ko_eq (x1 := (1, [(0, .ref 50), (1, .int x1)], [.int 0], (0, 0), ks i a q r)) (by rw [(kj_eq w1 (by decide) : x1 = 0)]) ?_
    refine ft_go mi_k26 3 32 [(0, .ref 50), (1, .int x1)] [.ref 51] i a q r (by rfl) ?_
    exact ft_ret mi_k26 (by rfl) (hP 51 (Or.inl ⟨rfl, trivial⟩))
  by_cases w2 : x1.toInt = 1
  ·
    refine ko_eq (x1 := (1, [(0, .ref 50), (1, .int x1)], [.int 1], (0, 0), ks i a q r)) (by rw [(kj_eq w2 (by decide) : x1 = 1)]) ?_
    refine ft_go mi_k26 3 37 [(0, .ref 50), (1, .int x1)] [.ref 52] i a q r (by rfl) ?_
    exact ft_ret mi_k26 (by rfl) (hP 52 (Or.inr (Or.inl ⟨rfl, trivial⟩)))
  by_cases w3 : x1.toInt = 2
  ·
    refine ko_eq (x1 := (1, [(0, .ref 50), (1, .int x1)], [.int 2], (0, 0), ks i a q r)) (by rw [(kj_eq w3 (by decide) : x1 = 2)]) ?_
    refine ft_go mi_k26 3 42 [(0, .ref 50), (1, .int x1)] [.ref 53] i a q r (by rfl) ?_
    exact ft_ret mi_k26 (by rfl) (hP 53 (Or.inr (Or.inr (Or.inl ⟨rfl, trivial⟩))))
  refine ko_sw (ls := [(0, .ref 50), (1, .int x1)]) (r := []) (h := ks i a q r) mi_in26 (v := x1) (i := (.tableswitch 42 0 2 #[27, 32, 37], 27, 0, 0, 0, 0, 0)) (by rfl) rfl (oz973 w1 w2 w3) 43 (by rfl) ?_
  refine ft_go mi_k26 2 47 [(0, .ref 50), (1, .int x1)] [.ref 54] i a q r (by rfl) ?_
  exact ft_ret mi_k26 (by rfl) (hP 54 (Or.inr (Or.inr (Or.inr (⟨rfl, trivial⟩)))))
set_option maxRecDepth 100000 in
theorem kc27_50 {i : Nat → Int32} {a : Nat → List Int32} {q : Nat → List Int64} {r : Nat → Nat} (hI : kI i a q) (hr : kr r) (x1 : Int32) (x2 : Int32) : km 3 27 [.ref 50, .int x1, .int x2] (ks i a q r) (kPI (ks i a q r) (fun v => True)) := by
  have hG := kG_self kW0 hI hr
  refine km_ofPI (q := (mi_h27, mi_c27)) rfl (by decide) (Nat.le_of_ble_eq_true rfl) ?_
  intro P hP
  refine ft_go mi_k27 1 1 [(0, .ref 50), (1, .int x1), (2, .int x2)] [.int x2] i a q r (by rfl) ?_
  by_cases w1 : x2.toInt = 4
  ·
    refine ko_eq (x1 := (1, [(0, .ref 50), (1, .int x1), (2, .int x2)], [.int 4], (0, 0), ks i a q r)) (by rw [(kj_eq w1 (by decide) : x2 = 4)]) ?_
    refine ft_go mi_k27 3 32 [(0, .ref 50), (1, .int x1), (2, .int x2)] [.int (i 3206)] i a q r (by rfl) ?_
    exact ft_ret mi_k27 (by rfl) (hP (i 3206) trivial)
  by_cases w2 : x2.toInt = 5
  ·
    refine ko_eq (x1 := (1, [(0, .ref 50), (1, .int x1), (2, .int x2)], [.int 5], (0, 0), ks i a q r)) (by rw [(kj_eq w2 (by decide) : x2 = 5)]) ?_
    refine ft_go mi_k27 3 37 [(0, .ref 50), (1, .int x1), (2, .int x2)] [.int (i 3207)] i a q r (by rfl) ?_
    exact ft_ret mi_k27 (by rfl) (hP (i 3207) trivial)
  by_cases w3 : x2.toInt = 6
  ·
    refine ko_eq (x1 := (1, [(0, .ref 50), (1, .int x1), (2, .int x2)], [.int 6], (0, 0), ks i a q r)) (by rw [(kj_eq w3 (by decide) : x2 = 6)]) ?_
    refine ft_go mi_k27 3 42 [(0, .ref 50), (1, .int x1), (2, .int x2)] [.int (i 3208)] i a q r (by rfl) ?_
    exact ft_ret mi_k27 (by rfl) (hP (i 3208) trivial)
  refine ko_sw (ls := [(0, .ref 50), (1, .int x1), (2, .int x2)]) (r := []) (h := ks i a q r) mi_in27 (v := x2) (i := (.tableswitch 42 4 6 #[27, 32, 37], 27, 0, 0, 0, 0, 0)) (by rfl) rfl (oz972 w1 w2 w3) 43 (by rfl) ?_
  refine ft_go mi_k27 2 45 [(0, .ref 50), (1, .int x1), (2, .int x2)] [.int x1, .ref 50] i a q r (by rfl) ?_
  refine ko_callPI mi_k27.1 (pc := 45) (ls := [(0, .ref 50), (1, .int x1), (2, .int x2)]) (st := [.int x1, .ref 50]) (h := ks i a q r) (i := (.invokevirtual 85, 3, 24, 0, 9, 0, 165)) (mi_k27.2 _ _ (by rfl)) (ft_invS mi_pq24 (by rfl)) (cy := mi_c24) mi_pq24 rfl (kc24_50 hG.I hG.R x1) (by decide) ?_
  intro vg4 hg4
  rcases hg4 with ⟨eg4, hg4⟩ | ⟨eg4, hg4⟩
  ·
    subst eg4
    have fi_3200 : ((0 : Int) ≤ (i 3200).toInt) ∧ ((i 3200).toInt ≤ 8) := hG.I.1 3200
    have z5 : ((0 : Int) ≤ x1.toInt) ∧ (x1.toInt < (i 3200).toInt) := hg4
    refine ft_go mi_k27 3 53 [(0, .ref 50), (1, .int x1), (2, .int x2)] [.int x2, .ref 50] i a q r (by rfl) ?_
    refine ko_callPR mi_k27.1 (pc := 53) (ls := [(0, .ref 50), (1, .int x1), (2, .int x2)]) (st := [.int x2, .ref 50]) (h := ks i a q r) (i := (.invokevirtual 89, 3, 26, 0, 9, 0, 166)) (mi_k27.2 _ _ (by rfl)) (ft_invS mi_pq26 (by rfl)) (cy := mi_c26) mi_pq26 rfl (kc26_50 hG.I hG.R x2) (by decide) ?_
    intro vg6 hg6
    rcases hg6 with ⟨eg6, hg6⟩ | ⟨eg6, hg6⟩ | ⟨eg6, hg6⟩ | ⟨eg6, hg6⟩
    ·
      subst eg6
      refine ft_go mi_k27 1 57 [(0, .ref 50), (1, .int x1), (2, .int x2)] [.int x1, .ref 51] i a q r (by rfl) ?_
      refine ko_iald3 mi_k27.1 (n := 8) (c := 8) (ax := (0, 0, 0, 0, 0)) (mi_k27.2 _ _ (by rfl)) (by rfl) (ksG51 _ _ _ _) (hG.I.2.1 51) rfl (oz3 z5.1) (oz974 fi_3200.2 z5.2) ?_
      refine ft_go mi_k27 1 62 [(0, .ref 50), (1, .int x1), (2, .int x2)] [.int ((a 51).getD x1.toNatClampNeg 0)] i a q r (by rfl) ?_
      exact ft_ret mi_k27 (by rfl) (hP ((a 51).getD x1.toNatClampNeg 0) trivial)
    ·
      subst eg6
      refine ft_go mi_k27 1 57 [(0, .ref 50), (1, .int x1), (2, .int x2)] [.int x1, .ref 52] i a q r (by rfl) ?_
      refine ko_iald3 mi_k27.1 (n := 8) (c := 8) (ax := (0, 0, 0, 0, 0)) (mi_k27.2 _ _ (by rfl)) (by rfl) (ksG52 _ _ _ _) (hG.I.2.1 52) rfl (oz3 z5.1) (oz974 fi_3200.2 z5.2) ?_
      refine ft_go mi_k27 1 62 [(0, .ref 50), (1, .int x1), (2, .int x2)] [.int ((a 52).getD x1.toNatClampNeg 0)] i a q r (by rfl) ?_
      exact ft_ret mi_k27 (by rfl) (hP ((a 52).getD x1.toNatClampNeg 0) trivial)
    ·
      subst eg6
      refine ft_go mi_k27 1 57 [(0, .ref 50), (1, .int x1), (2, .int x2)] [.int x1, .ref 53] i a q r (by rfl) ?_
      refine ko_iald3 mi_k27.1 (n := 8) (c := 8) (ax := (0, 0, 0, 0, 0)) (mi_k27.2 _ _ (by rfl)) (by rfl) (ksG53 _ _ _ _) (hG.I.2.1 53) rfl (oz3 z5.1) (oz974 fi_3200.2 z5.2) ?_
      refine ft_go mi_k27 1 62 [(0, .ref 50), (1, .int x1), (2, .int x2)] [.int ((a 53).getD x1.toNatClampNeg 0)] i a q r (by rfl) ?_
      exact ft_ret mi_k27 (by rfl) (hP ((a 53).getD x1.toNatClampNeg 0) trivial)
    ·
      subst eg6
      refine ft_go mi_k27 1 57 [(0, .ref 50), (1, .int x1), (2, .int x2)] [.int x1, .ref 54] i a q r (by rfl) ?_
      refine ko_iald3 mi_k27.1 (n := 8) (c := 8) (ax := (0, 0, 0, 0, 0)) (mi_k27.2 _ _ (by rfl)) (by rfl) (ksG54 _ _ _ _) (hG.I.2.1 54) rfl (oz3 z5.1) (oz974 fi_3200.2 z5.2) ?_
      refine ft_go mi_k27 1 62 [(0, .ref 50), (1, .int x1), (2, .int x2)] [.int ((a 54).getD x1.toNatClampNeg 0)] i a q r (by rfl) ?_
      exact ft_ret mi_k27 (by rfl) (hP ((a 54).getD x1.toNatClampNeg 0) trivial)
  ·
    subst eg4
    have fi_3200 : ((0 : Int) ≤ (i 3200).toInt) ∧ ((i 3200).toInt ≤ 8) := hG.I.1 3200
    have z7 : ¬ (((0 : Int) ≤ x1.toInt) ∧ (x1.toInt < (i 3200).toInt)) := hg4
    refine ft_go mi_k27 2 62 [(0, .ref 50), (1, .int x1), (2, .int x2)] [.int (-1)] i a q r (by rfl) ?_
    exact ft_ret mi_k27 (by rfl) (hP (-1) trivial)
def w88_0 : kW := ([645, 3138, 3200, 3206, 3207, 3208, 3209, 3214, 3215, 3216, 3586, 3781, 6405], [13, 51, 52, 53, 54, 55, 57, 58, 62, 63, 65, 66, 67, 68, 69, 70, 71, 72, 73, 74, 75, 76, 77, 103], [], [1])
set_option maxRecDepth 100000 in
theorem kc88_0 {i : Nat → Int32} {a : Nat → List Int32} {q : Nat → List Int64} {r : Nat → Nat} (hI : kI i a q) (hr : kr r) (x1 : Int32) (x2 : Int32) (x3 : Int32) : km 13 88 [.ref 0, .int x1, .int x2, .int x3] (ks i a q r) (kVI w88_0 i a q r (fun v i1 a1 q1 r1 => True)) := by
  have hG := kG_self w88_0 hI hr
  refine km_ofI (q := (mi_h88, mi_c88)) rfl (by decide) (Nat.le_of_ble_eq_true rfl) ?_
  intro P hP
  refine ft_go mi_k88 3 3 [(0, .ref 0), (1, .int x1), (2, .int x2), (3, .int x3)] [.int 3, .int 0, .int x3] i a q r (by rfl) ?_
  refine ko_callPI mi_k88.1 (pc := 3) (ls := [(0, .ref 0), (1, .int x1), (2, .int x2), (3, .int x3)]) (st := [.int 3, .int 0, .int x3]) (h := ks i a q r) (i := (.invokestatic 74, 3, 120, 0, 9, 0, 152)) (mi_k88.2 _ _ (by rfl)) (ft_invS mi_pq120 (by rfl)) (cy := mi_c120) mi_pq120 rfl (kc120 hG.I hG.R x3 0 3) (by decide) ?_
  intro vg1 hg1
  rcases hg1 with ⟨eg1, hg1⟩ | ⟨eg1, hg1⟩
  ·
    subst eg1
    have z2 : ((0 : Int32).toInt ≤ x3.toInt) ∧ (x3.toInt ≤ (3 : Int32).toInt) := hg1
    refine ft_go mi_k88 3 11 [(0, .ref 0), (1, .int x1), (2, .int x2), (3, .int x3)] [.int 3, .int x3] i a q r (by rfl) ?_
    refine ft_if mi_k88 (x3 != 3) 25 14 [(0, .ref 0), (1, .int x1), (2, .int x2), (3, .int x3)] [] (by rfl) (fun c => ?_) (fun c => ?_)
    ·
      have c3 : x3.toInt ≠ (3 : Int32).toInt := kd_ne c; clear c
      refine ft_go mi_k88 1 26 [(0, .ref 0), (1, .int x1), (2, .int x2), (3, .int x3)] [.int x2] i a q r (by rfl) ?_
      refine ft_if mi_k88 (x2 == 0) 31 29 [(0, .ref 0), (1, .int x1), (2, .int x2), (3, .int x3)] [] (by rfl) (fun c => ?_) (fun c => ?_)
      ·
        have c4 : x2.toInt = (0 : Int32).toInt := kd_eq c; clear c
        refine ft_go mi_k88 2 33 [(0, .ref 0), (1, .int x1), (2, .int x2), (3, .int x3)] [.int x1, .ref 0] i a q r (by rfl) ?_
        refine ko_callI mi_k88.1 (pc := 33) (ls := [(0, .ref 0), (1, .int x1), (2, .int x2), (3, .int x3)]) (st := [.int x1, .ref 0]) (h := ks i a q r) (i := (.invokevirtual 144, 3, 129, 0, 9, 0, 208)) (mi_k88.2 _ _ (by rfl)) (ft_invS mi_pq129 (by rfl)) (cy := mi_c129) mi_pq129 rfl (kc129_0 hG.I hG.R x1) (by decide) ?_
        intro vg5 ig5 ag5 qg5 rg5 kg5 hg5
        have hGg5 := kG_call hG kg5 (by decide +kernel)
        have z6 : (vg5.toInt < 0) ∨ (vg5.toInt = 0) := hg5
        refine ft_go mi_k88 2 40 [(4, .int vg5), (0, .ref 0), (1, .int x1), (2, .int x2), (3, .int x3)] [.int vg5] ig5 ag5 qg5 rg5 (by rfl) ?_
        refine ft_if mi_k88 (decide (0 ≤ vg5)) 46 43 [(4, .int vg5), (0, .ref 0), (1, .int x1), (2, .int x2), (3, .int x3)] [] (by rfl) (fun c => ?_) (fun c => ?_)
        ·
          have c7 : (0 : Int32).toInt ≤ vg5.toInt := kd_le c; clear c
          refine ft_go mi_k88 4 54 [(4, .int vg5), (0, .ref 0), (1, .int x1), (2, .int x2), (3, .int x3)] [.ref 1, .ref 49] ig5 ag5 qg5 rg5 (by rfl) ?_
          refine ko_callN mi_k88.1 (pc := 54) (ls := [(4, .int vg5), (0, .ref 0), (1, .int x1), (2, .int x2), (3, .int x3)]) (st := [.ref 1, .ref 49]) (h := ks ig5 ag5 qg5 rg5) (i := (.invokevirtual 147, 3, 59, 0, 9, 0, 211)) (mi_k88.2 _ _ (by rfl)) (ft_invS mi_pq59 (by rfl)) (cy := mi_c59) mi_pq59 rfl (kc59_49_1 hGg5.I hGg5.R ) (by decide) ?_
          intro ig8 ag8 qg8 rg8 kg8 hg8
          have hGg8 := kG_call hGg5 kg8 (by decide +kernel)
          refine ft_go mi_k88 1 58 [(4, .int vg5), (0, .ref 0), (1, .int x1), (2, .int x2), (3, .int x3)] [.int x3] ig8 ag8 qg8 rg8 (by rfl) ?_
          by_cases w9 : x3.toInt = 0
          ·
            refine ko_eq (x1 := (58, [(4, .int vg5), (0, .ref 0), (1, .int x1), (2, .int x2), (3, .int x3)], [.int 0], (0, 0), ks ig8 ag8 qg8 rg8)) (by rw [(kj_eq w9 (by decide) : x3 = 0)]) ?_
            have fig8_3138 : ((0 : Int) ≤ (ig8 3138).toInt) ∧ ((ig8 3138).toInt ≤ 20) := hGg8.I.1 3138
            have fig5_3138 : ((0 : Int) ≤ (ig5 3138).toInt) ∧ ((ig5 3138).toInt ≤ 20) := hGg5.I.1 3138
            have efig8_3138 : (ig8 3138).toInt = (ig5 3138).toInt := kg8.ti 3138 rfl
            refine ft_go mi_k88 4 91 [(4, .int vg5), (0, .ref 0), (1, .int x1), (2, .int x2), (3, .int x3)] [.int (ig8 3138)] ig8 ag8 qg8 rg8 (by rfl) ?_
            exact ft_ret mi_k88 (by rfl) (hP (ig8 3138) _ _ _ _ hGg8 trivial)
          by_cases w10 : x3.toInt = 1
          ·
            refine ko_eq (x1 := (58, [(4, .int vg5), (0, .ref 0), (1, .int x1), (2, .int x2), (3, .int x3)], [.int 1], (0, 0), ks ig8 ag8 qg8 rg8)) (by rw [(kj_eq w10 (by decide) : x3 = 1)]) ?_
            refine ft_go mi_k88 6 103 [(4, .int vg5), (0, .ref 0), (1, .int x1), (2, .int x2), (3, .int x3)] [.int 2, .ref 63] ig8 ag8 qg8 rg8 (by rfl) ?_
            refine ko_iald3 mi_k88.1 (n := 5) (c := 5) (ax := (0, 0, 0, 0, 0)) (mi_k88.2 _ _ (by rfl)) (by rfl) (ksG63 _ _ _ _) (hGg8.I.2.1 63) rfl (oz256 kn2) (oz549 kn2) ?_
            exact ft_ret mi_k88 (by rfl) (hP ((ag8 63).getD (2 : Int32).toNatClampNeg 0) _ _ _ _ hGg8 trivial)
          by_cases w11 : x3.toInt = 2
          ·
            refine ko_eq (x1 := (58, [(4, .int vg5), (0, .ref 0), (1, .int x1), (2, .int x2), (3, .int x3)], [.int 2], (0, 0), ks ig8 ag8 qg8 rg8)) (by rw [(kj_eq w11 (by decide) : x3 = 2)]) ?_
            have fig8_3586 : ((0 : Int) ≤ (ig8 3586).toInt) ∧ ((ig8 3586).toInt ≤ 5) := hGg8.I.1 3586
            refine ft_go mi_k88 6 118 [(4, .int vg5), (0, .ref 0), (1, .int x1), (2, .int x2), (3, .int x3)] [.int (ig8 3586)] ig8 ag8 qg8 rg8 (by rfl) ?_
            exact ft_ret mi_k88 (by rfl) (hP (ig8 3586) _ _ _ _ hGg8 trivial)
          exact (oz1052 c3 w10 w11 w9 z2.1 z2.2 kn3 kn0).elim
        ·
          have c12 : vg5.toInt < (0 : Int32).toInt := kd_leF c; clear c
          refine ft_go mi_k88 1 45 [(4, .int vg5), (0, .ref 0), (1, .int x1), (2, .int x2), (3, .int x3)] [.int vg5] ig5 ag5 qg5 rg5 (by rfl) ?_
          exact ft_ret mi_k88 (by rfl) (hP vg5 _ _ _ _ hGg5 trivial)
      ·
        have c13 : x2.toInt ≠ (0 : Int32).toInt := kd_eqF c; clear c
        refine ft_go mi_k88 1 30 [(0, .ref 0), (1, .int x1), (2, .int x2), (3, .int x3)] [.int (-1)] i a q r (by rfl) ?_
        exact ft_ret mi_k88 (by rfl) (hP (-1) _ _ _ _ hG trivial)
    ·
      have c14 : x3.toInt = (3 : Int32).toInt := kd_neF c; clear c
      refine ft_go mi_k88 2 16 [(0, .ref 0), (1, .int x1), (2, .int x2), (3, .int x3)] [.int x2, .ref 0] i a q r (by rfl) ?_
      refine ko_callPI mi_k88.1 (pc := 16) (ls := [(0, .ref 0), (1, .int x1), (2, .int x2), (3, .int x3)]) (st := [.int x2, .ref 0]) (h := ks i a q r) (i := (.invokevirtual 141, 3, 123, 0, 9, 0, 162)) (mi_k88.2 _ _ (by rfl)) (ft_invS mi_pq123 (by rfl)) (cy := mi_c123) mi_pq123 rfl (kc123_0 hG.I hG.R x2) (by decide) ?_
      intro vg15 hg15
      rcases hg15 with ⟨eg15, hg15⟩ | ⟨eg15, hg15⟩
      ·
        subst eg15
        have fi_64 : ((0 : Int) ≤ (i 64).toInt) ∧ ((i 64).toInt ≤ 8) := hG.I.1 64
        have z16 : ((0 : Int) ≤ x2.toInt) ∧ (x2.toInt < (i 64).toInt) := hg15
        refine ft_go mi_k88 3 33 [(0, .ref 0), (1, .int x1), (2, .int x2), (3, .int x3)] [.int x1, .ref 0] i a q r (by rfl) ?_
        refine ko_callI mi_k88.1 (pc := 33) (ls := [(0, .ref 0), (1, .int x1), (2, .int x2), (3, .int x3)]) (st := [.int x1, .ref 0]) (h := ks i a q r) (i := (.invokevirtual 144, 3, 129, 0, 9, 0, 208)) (mi_k88.2 _ _ (by rfl)) (ft_invS mi_pq129 (by rfl)) (cy := mi_c129) mi_pq129 rfl (kc129_0 hG.I hG.R x1) (by decide) ?_
        intro vg17 ig17 ag17 qg17 rg17 kg17 hg17
        have hGg17 := kG_call hG kg17 (by decide +kernel)
        have z18 : (vg17.toInt < 0) ∨ (vg17.toInt = 0) := hg17
        refine ft_go mi_k88 2 40 [(4, .int vg17), (0, .ref 0), (1, .int x1), (2, .int x2), (3, .int x3)] [.int vg17] ig17 ag17 qg17 rg17 (by rfl) ?_
        refine ft_if mi_k88 (decide (0 ≤ vg17)) 46 43 [(4, .int vg17), (0, .ref 0), (1, .int x1), (2, .int x2), (3, .int x3)] [] (by rfl) (fun c => ?_) (fun c => ?_)
        ·
          have c19 : (0 : Int32).toInt ≤ vg17.toInt := kd_le c; clear c
          refine ft_go mi_k88 4 54 [(4, .int vg17), (0, .ref 0), (1, .int x1), (2, .int x2), (3, .int x3)] [.ref 1, .ref 49] ig17 ag17 qg17 rg17 (by rfl) ?_
          refine ko_callN mi_k88.1 (pc := 54) (ls := [(4, .int vg17), (0, .ref 0), (1, .int x1), (2, .int x2), (3, .int x3)]) (st := [.ref 1, .ref 49]) (h := ks ig17 ag17 qg17 rg17) (i := (.invokevirtual 147, 3, 59, 0, 9, 0, 211)) (mi_k88.2 _ _ (by rfl)) (ft_invS mi_pq59 (by rfl)) (cy := mi_c59) mi_pq59 rfl (kc59_49_1 hGg17.I hGg17.R ) (by decide) ?_
          intro ig20 ag20 qg20 rg20 kg20 hg20
          have hGg20 := kG_call hGg17 kg20 (by decide +kernel)
          refine ft_go mi_k88 1 58 [(4, .int vg17), (0, .ref 0), (1, .int x1), (2, .int x2), (3, .int x3)] [.int x3] ig20 ag20 qg20 rg20 (by rfl) ?_
          have w21 : ¬ (x3.toInt = 0) := (oz1053 c14 kn3)
          have w22 : ¬ (x3.toInt = 1) := (oz1054 c14 kn3)
          have w23 : ¬ (x3.toInt = 2) := (oz1055 c14 kn3)
          refine ko_sw (ls := [(4, .int vg17), (0, .ref 0), (1, .int x1), (2, .int x2), (3, .int x3)]) (r := []) (h := ks ig20 ag20 qg20 rg20) mi_in88 (v := x3) (i := (.tableswitch 61 0 2 #[26, 34, 47], 26, 0, 0, 0, 0, 0)) (by rfl) rfl (oz973 w21 w22 w23) 119 (by rfl) ?_
          refine ft_go mi_k88 5 128 [(4, .int vg17), (0, .ref 0), (1, .int x1), (2, .int x2), (3, .int x3)] [.int 0, .int x2, .ref 50] ig20 ag20 qg20 rg20 (by rfl) ?_
          refine ko_callPI mi_k88.1 (pc := 128) (ls := [(4, .int vg17), (0, .ref 0), (1, .int x1), (2, .int x2), (3, .int x3)]) (st := [.int 0, .int x2, .ref 50]) (h := ks ig20 ag20 qg20 rg20) (i := (.invokevirtual 98, 3, 27, 0, 9, 0, 164)) (mi_k88.2 _ _ (by rfl)) (ft_invS mi_pq27 (by rfl)) (cy := mi_c27) mi_pq27 rfl (kc27_50 hGg20.I hGg20.R x2 0) (by decide) ?_
          intro vg24 hg24
          exact ft_ret mi_k88 (by rfl) (hP vg24 _ _ _ _ hGg20 trivial)
        ·
          have c25 : vg17.toInt < (0 : Int32).toInt := kd_leF c; clear c
          refine ft_go mi_k88 1 45 [(4, .int vg17), (0, .ref 0), (1, .int x1), (2, .int x2), (3, .int x3)] [.int vg17] ig17 ag17 qg17 rg17 (by rfl) ?_
          exact ft_ret mi_k88 (by rfl) (hP vg17 _ _ _ _ hGg17 trivial)
      ·
        subst eg15
        have fi_64 : ((0 : Int) ≤ (i 64).toInt) ∧ ((i 64).toInt ≤ 8) := hG.I.1 64
        have z26 : ¬ (((0 : Int) ≤ x2.toInt) ∧ (x2.toInt < (i 64).toInt)) := hg15
        refine ft_go mi_k88 3 30 [(0, .ref 0), (1, .int x1), (2, .int x2), (3, .int x3)] [.int (-1)] i a q r (by rfl) ?_
        exact ft_ret mi_k88 (by rfl) (hP (-1) _ _ _ _ hG trivial)
  ·
    subst eg1
    have z27 : ¬ (((0 : Int32).toInt ≤ x3.toInt) ∧ (x3.toInt ≤ (3 : Int32).toInt)) := hg1
    refine ft_go mi_k88 2 30 [(0, .ref 0), (1, .int x1), (2, .int x2), (3, .int x3)] [.int (-1)] i a q r (by rfl) ?_
    exact ft_ret mi_k88 (by rfl) (hP (-1) _ _ _ _ hG trivial)
def w89_0 : kW := ([645, 3138, 3200, 3206, 3207, 3208, 3209, 3214, 3215, 3216, 3586, 3781, 6405], [13, 51, 52, 53, 54, 55, 57, 58, 62, 63, 65, 66, 67, 68, 69, 70, 71, 72, 73, 74, 75, 76, 77, 103], [], [1])
set_option maxRecDepth 100000 in
theorem kc89_0 {i : Nat → Int32} {a : Nat → List Int32} {q : Nat → List Int64} {r : Nat → Nat} (hI : kI i a q) (hr : kr r) (x1 : Int32) (x2 : Int32) (x3 : Int32) : km 13 89 [.ref 0, .int x1, .int x2, .int x3] (ks i a q r) (kVI w89_0 i a q r (fun v i1 a1 q1 r1 => True)) := by
  have hG := kG_self w89_0 hI hr
  refine km_ofI (q := (mi_h89, mi_c89)) rfl (by decide) (Nat.le_of_ble_eq_true rfl) ?_
  intro P hP
  refine ft_go mi_k89 1 1 [(0, .ref 0), (1, .int x1), (2, .int x2), (3, .int x3)] [.int x2] i a q r (by rfl) ?_
  refine ft_if mi_k89 (decide (x2 < 0)) 13 4 [(0, .ref 0), (1, .int x1), (2, .int x2), (3, .int x3)] [] (by rfl) (fun c => ?_) (fun c => ?_)
  ·
    have c1 : x2.toInt < (0 : Int32).toInt := kd_lt c; clear c
    refine ft_go mi_k89 1 14 [(0, .ref 0), (1, .int x1), (2, .int x2), (3, .int x3)] [.int (-1)] i a q r (by rfl) ?_
    exact ft_ret mi_k89 (by rfl) (hP (-1) _ _ _ _ hG trivial)
  ·
    have c2 : (0 : Int32).toInt ≤ x2.toInt := kd_ltF c; clear c
    refine ft_go mi_k89 3 7 [(0, .ref 0), (1, .int x1), (2, .int x2), (3, .int x3)] [.int 2, .int 0, .int x3] i a q r (by rfl) ?_
    refine ko_callPI mi_k89.1 (pc := 7) (ls := [(0, .ref 0), (1, .int x1), (2, .int x2), (3, .int x3)]) (st := [.int 2, .int 0, .int x3]) (h := ks i a q r) (i := (.invokestatic 74, 3, 120, 0, 9, 0, 152)) (mi_k89.2 _ _ (by rfl)) (ft_invS mi_pq120 (by rfl)) (cy := mi_c120) mi_pq120 rfl (kc120 hG.I hG.R x3 0 2) (by decide) ?_
    intro vg3 hg3
    rcases hg3 with ⟨eg3, hg3⟩ | ⟨eg3, hg3⟩
    ·
      subst eg3
      have z4 : ((0 : Int32).toInt ≤ x3.toInt) ∧ (x3.toInt ≤ (2 : Int32).toInt) := hg3
      refine ft_go mi_k89 3 17 [(0, .ref 0), (1, .int x1), (2, .int x2), (3, .int x3)] [.int x1, .ref 0] i a q r (by rfl) ?_
      refine ko_callI mi_k89.1 (pc := 17) (ls := [(0, .ref 0), (1, .int x1), (2, .int x2), (3, .int x3)]) (st := [.int x1, .ref 0]) (h := ks i a q r) (i := (.invokevirtual 144, 3, 129, 0, 9, 0, 208)) (mi_k89.2 _ _ (by rfl)) (ft_invS mi_pq129 (by rfl)) (cy := mi_c129) mi_pq129 rfl (kc129_0 hG.I hG.R x1) (by decide) ?_
      intro vg5 ig5 ag5 qg5 rg5 kg5 hg5
      have hGg5 := kG_call hG kg5 (by decide +kernel)
      have z6 : (vg5.toInt < 0) ∨ (vg5.toInt = 0) := hg5
      refine ft_go mi_k89 2 24 [(4, .int vg5), (0, .ref 0), (1, .int x1), (2, .int x2), (3, .int x3)] [.int vg5] ig5 ag5 qg5 rg5 (by rfl) ?_
      refine ft_if mi_k89 (decide (0 ≤ vg5)) 30 27 [(4, .int vg5), (0, .ref 0), (1, .int x1), (2, .int x2), (3, .int x3)] [] (by rfl) (fun c => ?_) (fun c => ?_)
      ·
        have c7 : (0 : Int32).toInt ≤ vg5.toInt := kd_le c; clear c
        have fig5_3138 : ((0 : Int) ≤ (ig5 3138).toInt) ∧ ((ig5 3138).toInt ≤ 20) := hGg5.I.1 3138
        refine ft_go mi_k89 4 38 [(4, .int vg5), (0, .ref 0), (1, .int x1), (2, .int x2), (3, .int x3)] [.int (ig5 3138), .int x2] ig5 ag5 qg5 rg5 (by rfl) ?_
        refine ft_if mi_k89 (decide (x2 < (ig5 3138))) 44 41 [(4, .int vg5), (0, .ref 0), (1, .int x1), (2, .int x2), (3, .int x3)] [] (by rfl) (fun c => ?_) (fun c => ?_)
        ·
          have c8 : x2.toInt < (ig5 3138).toInt := kd_lt c; clear c
          refine ft_go mi_k89 4 52 [(4, .int vg5), (0, .ref 0), (1, .int x1), (2, .int x2), (3, .int x3)] [.ref 1, .ref 49] ig5 ag5 qg5 rg5 (by rfl) ?_
          refine ko_callN mi_k89.1 (pc := 52) (ls := [(4, .int vg5), (0, .ref 0), (1, .int x1), (2, .int x2), (3, .int x3)]) (st := [.ref 1, .ref 49]) (h := ks ig5 ag5 qg5 rg5) (i := (.invokevirtual 147, 3, 59, 0, 9, 0, 211)) (mi_k89.2 _ _ (by rfl)) (ft_invS mi_pq59 (by rfl)) (cy := mi_c59) mi_pq59 rfl (kc59_49_1 hGg5.I hGg5.R ) (by decide) ?_
          intro ig9 ag9 qg9 rg9 kg9 hg9
          have hGg9 := kG_call hGg5 kg9 (by decide +kernel)
          refine ft_go mi_k89 1 56 [(4, .int vg5), (0, .ref 0), (1, .int x1), (2, .int x2), (3, .int x3)] [.int x3] ig9 ag9 qg9 rg9 (by rfl) ?_
          refine ft_if mi_k89 (x3 != 0) 69 59 [(4, .int vg5), (0, .ref 0), (1, .int x1), (2, .int x2), (3, .int x3)] [] (by rfl) (fun c => ?_) (fun c => ?_)
          ·
            have c10 : x3.toInt ≠ (0 : Int32).toInt := kd_ne c; clear c
            refine ft_go mi_k89 2 71 [(4, .int vg5), (0, .ref 0), (1, .int x1), (2, .int x2), (3, .int x3)] [.int 1, .int x3] ig9 ag9 qg9 rg9 (by rfl) ?_
            refine ft_if mi_k89 (x3 != 1) 86 74 [(4, .int vg5), (0, .ref 0), (1, .int x1), (2, .int x2), (3, .int x3)] [] (by rfl) (fun c => ?_) (fun c => ?_)
            ·
              have c11 : x3.toInt ≠ (1 : Int32).toInt := kd_ne c; clear c
              refine ft_go mi_k89 4 94 [(4, .int vg5), (0, .ref 0), (1, .int x1), (2, .int x2), (3, .int x3)] [.int x2, .ref 77] ig9 ag9 qg9 rg9 (by rfl) ?_
              refine ko_iald3 mi_k89.1 (n := 20) (c := 20) (ax := (0, 0, 0, 0, 0)) (mi_k89.2 _ _ (by rfl)) (by rfl) (ksG77 _ _ _ _) (hGg9.I.2.1 77) rfl (oz389 c2 kn0) (oz1056 c8 fig5_3138.2) ?_
              exact ft_ret mi_k89 (by rfl) (hP ((ag9 77).getD x2.toNatClampNeg 0) _ _ _ _ hGg9 trivial)
            ·
              have c12 : x3.toInt = (1 : Int32).toInt := kd_neF c; clear c
              refine ft_go mi_k89 4 82 [(4, .int vg5), (0, .ref 0), (1, .int x1), (2, .int x2), (3, .int x3)] [.int x2, .ref 76] ig9 ag9 qg9 rg9 (by rfl) ?_
              refine ko_iald3 mi_k89.1 (n := 20) (c := 20) (ax := (0, 0, 0, 0, 0)) (mi_k89.2 _ _ (by rfl)) (by rfl) (ksG76 _ _ _ _) (hGg9.I.2.1 76) rfl (oz389 c2 kn0) (oz1056 c8 fig5_3138.2) ?_
              refine ft_go mi_k89 1 95 [(4, .int vg5), (0, .ref 0), (1, .int x1), (2, .int x2), (3, .int x3)] [.int ((ag9 76).getD x2.toNatClampNeg 0)] ig9 ag9 qg9 rg9 (by rfl) ?_
              exact ft_ret mi_k89 (by rfl) (hP ((ag9 76).getD x2.toNatClampNeg 0) _ _ _ _ hGg9 trivial)
          ·
            have c13 : x3.toInt = (0 : Int32).toInt := kd_neF c; clear c
            refine ft_go mi_k89 4 67 [(4, .int vg5), (0, .ref 0), (1, .int x1), (2, .int x2), (3, .int x3)] [.int x2, .ref 75] ig9 ag9 qg9 rg9 (by rfl) ?_
            refine ko_iald3 mi_k89.1 (n := 20) (c := 20) (ax := (0, 0, 0, 0, 0)) (mi_k89.2 _ _ (by rfl)) (by rfl) (ksG75 _ _ _ _) (hGg9.I.2.1 75) rfl (oz389 c2 kn0) (oz1056 c8 fig5_3138.2) ?_
            exact ft_ret mi_k89 (by rfl) (hP ((ag9 75).getD x2.toNatClampNeg 0) _ _ _ _ hGg9 trivial)
        ·
          have c14 : (ig5 3138).toInt ≤ x2.toInt := kd_ltF c; clear c
          refine ft_go mi_k89 1 43 [(4, .int vg5), (0, .ref 0), (1, .int x1), (2, .int x2), (3, .int x3)] [.int (-2)] ig5 ag5 qg5 rg5 (by rfl) ?_
          exact ft_ret mi_k89 (by rfl) (hP (-2) _ _ _ _ hGg5 trivial)
      ·
        have c15 : vg5.toInt < (0 : Int32).toInt := kd_leF c; clear c
        refine ft_go mi_k89 1 29 [(4, .int vg5), (0, .ref 0), (1, .int x1), (2, .int x2), (3, .int x3)] [.int vg5] ig5 ag5 qg5 rg5 (by rfl) ?_
        exact ft_ret mi_k89 (by rfl) (hP vg5 _ _ _ _ hGg5 trivial)
    ·
      subst eg3
      have z16 : ¬ (((0 : Int32).toInt ≤ x3.toInt) ∧ (x3.toInt ≤ (2 : Int32).toInt)) := hg3
      refine ft_go mi_k89 2 14 [(0, .ref 0), (1, .int x1), (2, .int x2), (3, .int x3)] [.int (-1)] i a q r (by rfl) ?_
      exact ft_ret mi_k89 (by rfl) (hP (-1) _ _ _ _ hG trivial)
def w32_50 : kW := ([3208, 3209], [55, 63], [], [])
def w32_50_L22 : kW := ([], [55], [], [])
set_option maxRecDepth 100000 in
theorem kc32_50 {i : Nat → Int32} {a : Nat → List Int32} {q : Nat → List Int64} {r : Nat → Nat} (hI : kI i a q) (hr : kr r)  : km 1 32 [.ref 50] (ks i a q r) (kVN w32_50 i a q r (fun i1 a1 q1 r1 => True)) := by
  have hG := kG_self w32_50 hI hr
  refine km_ofN (q := (mi_h32, mi_c32)) rfl (by decide) (Nat.le_of_ble_eq_true rfl) ?_
  intro P hP
  have b1 : ((-2147483648 : Int) ≤ (i 3208).toInt) ∧ ((i 3208).toInt ≤ 2147483647) := kd_bd (i 3208)
  refine ft_go mi_k32 6 9 [(0, .ref 50)] [.int ((i 3208) + 1), .int 99, .ref 50] i a q r (by rfl) ?_
  have m3 : (((bif decide (((i 3208) + 1) < 99) then ((i 3208) + 1) else 99).toInt ≤ (99 : Int32).toInt) ∧ ((bif decide (((i 3208) + 1) < 99) then ((i 3208) + 1) else 99).toInt ≤ ((i 3208) + 1).toInt)) ∧ ((bif decide (((i 3208) + 1) < 99) then ((i 3208) + 1) else 99).toInt = (99 : Int32).toInt ∨ (bif decide (((i 3208) + 1) < 99) then ((i 3208) + 1) else 99).toInt = ((i 3208) + 1).toInt) := kd_min
  refine ft_go mi_k32 1 12 [(0, .ref 50)] [.int (bif decide (((i 3208) + 1) < 99) then ((i 3208) + 1) else 99), .ref 50] i a q r (by rfl) ?_
  generalize (bif decide (((i 3208) + 1) < 99) then ((i 3208) + 1) else 99) = m2 at m3 ⊢
  have hJ4 := kG_i hG 3208 rfl (v := m2) (kd_bd _)
  have hJ5 := kG_i hJ4 3209 rfl (v := 0) (kd_bd _)
  refine ft_go mi_k32 6 22 [(1, .int 0), (0, .ref 50)] [] (ku (ku i 3208 m2) 3209 0) a q r (by rfl) ?_
  have lp6 : ∀ (nz : Nat) (i6 : Nat → Int32) (a6 : Nat → List Int32) (q6 : Nat → List Int64) (r6 : Nat → Nat) (l1_6 : Int32), kG w32_50_L22 (ku (ku i 3208 m2) 3209 0) a q r i6 a6 q6 r6 → (0 : Int) ≤ l1_6.toInt → ((8 - l1_6.toInt)).toNat < nz → ko 1 (mi_h32, mi_c32) P (22, [(1, .int l1_6), (0, .ref 50)], [], (0, 0), ks i6 a6 q6 r6) := by
    intro nz
    induction nz with
    | zero =>
      intro _ _ _ _ _ _ _ hm
      exact absurd hm (Nat.not_lt_zero _)
    | succ nz ih6 =>
      intro i6 a6 q6 r6 l1_6 hL6 p6_0 hm6
      refine ft_go mi_k32 2 25 [(1, .int l1_6), (0, .ref 50)] [.int 8, .int l1_6] i6 a6 q6 r6 (by rfl) ?_
      refine ft_if mi_k32 (decide (8 ≤ l1_6)) 41 28 [(1, .int l1_6), (0, .ref 50)] [] (by rfl) (fun c => ?_) (fun c => ?_)
      ·
        have c7 : (8 : Int32).toInt ≤ l1_6.toInt := kd_le c; clear c
        have hG8 := kG_call hJ5 hL6 (by decide +kernel)
        refine ft_go mi_k32 4 47 [(1, .int l1_6), (0, .ref 50)] [.int 3, .ref 63, .int 3, .ref 63] i6 a6 q6 r6 (by rfl) ?_
        refine ko_iald3 mi_k32.1 (n := 5) (c := 5) (ax := (0, 0, 0, 0, 0)) (mi_k32.2 _ _ (by rfl)) (by rfl) (ksG63 _ _ _ _) (hG8.I.2.1 63) rfl (oz260 kn3) (oz550 kn3) ?_
        have b9 : ((-2147483648 : Int) ≤ ((a6 63).getD (3 : Int32).toNatClampNeg 0).toInt) ∧ (((a6 63).getD (3 : Int32).toNatClampNeg 0).toInt ≤ 2147483647) := kd_bd ((a6 63).getD (3 : Int32).toNatClampNeg 0)
        refine ft_go mi_k32 2 50 [(1, .int l1_6), (0, .ref 50)] [.int (((a6 63).getD (3 : Int32).toNatClampNeg 0) + 1), .int 3, .ref 63] i6 a6 q6 r6 (by rfl) ?_
        refine ko_iast3 mi_k32.1 (n := 5) (c := 5) (ax := (0, 0, 0, 0, 0)) (mi_k32.2 _ _ (by rfl)) (by rfl) (ksG63 _ _ _ _) (ksA63 _ _ _ _) (hG8.I.2.1 63) rfl (oz260 kn3) (oz550 kn3) ?_
        intro a10 ea10 fa10
        have hJ10 := kG_a3 hG8 63 rfl ea10 fa10 (kd_bd _)
        exact ft_ret mi_k32 (by rfl) (hP  _ _ _ _ hJ10 trivial)
      ·
        have c11 : l1_6.toInt < (8 : Int32).toInt := kd_leF c; clear c
        refine ft_go mi_k32 4 34 [(1, .int l1_6), (0, .ref 50)] [.int 0, .int l1_6, .ref 55] i6 a6 q6 r6 (by rfl) ?_
        refine ko_iast3 mi_k32.1 (n := 8) (c := 8) (ax := (0, 0, 0, 0, 0)) (mi_k32.2 _ _ (by rfl)) (by rfl) (ksG55 _ _ _ _) (ksA55 _ _ _ _) (hL6.I.2.1 55) rfl (oz3 p6_0) (oz936 c11 kn8) ?_
        intro a12 ea12 fa12
        have hJ12 := kG_a3 hL6 55 rfl ea12 fa12 (kd_bd _)
        have s13 : (l1_6 + 1).toInt = l1_6.toInt + (1 : Int32).toInt := kd_add (oz12 p6_0 kn1) (oz474 c11 kn8 kn1)
        refine ft_go mi_k32 2 22 [(1, .int (l1_6 + 1)), (0, .ref 50)] [] i6 a12 q6 r6 (by rfl) ?_
        exact ih6 _ _ _ _ _ hJ12 (oz14 p6_0 s13 kn1) (kj_meas (oz475 s13 kn1) (oz476 c11 kn8) hm6)
  exact lp6 _ _ _ _ _ _ (kG_self _ hJ5.I hJ5.R) (oz46 kn0) (Nat.lt_succ_self _)
def w61_49_1 : kW := ([645, 3200, 3206, 3207, 3208, 3209, 3214, 3215, 3216, 3586, 3781, 6405], [13, 51, 52, 53, 54, 55, 57, 58, 62, 63, 65, 66, 67, 68, 69, 70, 71, 72, 73, 75, 76, 77, 103], [], [1])
def w61_49_1_L10 : kW := ([645, 3208, 3209, 3214, 3215, 3216, 3586, 3781, 6405], [13, 51, 55, 57, 58, 62, 63, 65, 66, 67, 68, 69, 70, 71, 72, 73, 75, 76, 77, 103], [], [])
set_option maxRecDepth 100000 in
theorem kc61_49_1 {i : Nat → Int32} {a : Nat → List Int32} {q : Nat → List Int64} {r : Nat → Nat} (hI : kI i a q) (hr : kr r) (x2 : Int32) (hp0 : x2.toInt ≤ 20) : km 11 61 [.ref 49, .ref 1, .int x2] (ks i a q r) (kVN w61_49_1 i a q r (fun i1 a1 q1 r1 => True)) := by
  have hG := kG_self w61_49_1 hI hr
  refine km_ofN (q := (mi_h61, mi_c61)) rfl (by decide) (Nat.le_of_ble_eq_true rfl) ?_
  intro P hP
  refine ft_go mi_k61 3 5 [(0, .ref 49), (1, .ref 1), (2, .int x2)] [.ref 1, .ref 50] i a q r (by rfl) ?_
  refine ko_callN mi_k61.1 (pc := 5) (ls := [(0, .ref 49), (1, .ref 1), (2, .int x2)]) (st := [.ref 1, .ref 50]) (h := ks i a q r) (i := (.invokevirtual 56, 3, 34, 0, 9, 0, 212)) (mi_k61.2 _ _ (by rfl)) (ft_invS mi_pq34 (by rfl)) (cy := mi_c34) mi_pq34 rfl (kc34_50_1 hG.I hG.R ) (by decide) ?_
  intro ig1 ag1 qg1 rg1 kg1 hg1
  have hGg1 := kG_call hG kg1 (by decide +kernel)
  refine ft_go mi_k61 2 10 [(3, .int 0), (0, .ref 49), (1, .ref 1), (2, .int x2)] [] ig1 ag1 qg1 rg1 (by rfl) ?_
  have lp2 : ∀ (nz : Nat) (i2 : Nat → Int32) (a2 : Nat → List Int32) (q2 : Nat → List Int64) (r2 : Nat → Nat) (l3_2 : Int32), kG w61_49_1_L10 ig1 ag1 qg1 rg1 i2 a2 q2 r2 → (0 : Int) ≤ l3_2.toInt → ((x2.toInt - l3_2.toInt)).toNat < nz → ko 11 (mi_h61, mi_c61) P (10, [(3, .int l3_2), (0, .ref 49), (1, .ref 1), (2, .int x2)], [], (0, 0), ks i2 a2 q2 r2) := by
    intro nz
    induction nz with
    | zero =>
      intro _ _ _ _ _ _ _ hm
      exact absurd hm (Nat.not_lt_zero _)
    | succ nz ih2 =>
      intro i2 a2 q2 r2 l3_2 hL2 p2_0 hm2
      refine ft_go mi_k61 2 12 [(3, .int l3_2), (0, .ref 49), (1, .ref 1), (2, .int x2)] [.int x2, .int l3_2] i2 a2 q2 r2 (by rfl) ?_
      refine ft_if mi_k61 (decide (x2 ≤ l3_2)) 36 15 [(3, .int l3_2), (0, .ref 49), (1, .ref 1), (2, .int x2)] [] (by rfl) (fun c => ?_) (fun c => ?_)
      ·
        have c3 : x2.toInt ≤ l3_2.toInt := kd_le c; clear c
        have hG4 := kG_call hGg1 hL2 (by decide +kernel)
        exact ft_ret mi_k61 (by rfl) (hP  _ _ _ _ hG4 trivial)
      ·
        have c5 : l3_2.toInt < x2.toInt := kd_leF c; clear c
        refine ft_go mi_k61 1 16 [(3, .int l3_2), (0, .ref 49), (1, .ref 1), (2, .int x2)] [.int l3_2] i2 a2 q2 r2 (by rfl) ?_
        refine ft_if mi_k61 (decide (l3_2 ≤ 0)) 26 19 [(3, .int l3_2), (0, .ref 49), (1, .ref 1), (2, .int x2)] [] (by rfl) (fun c => ?_) (fun c => ?_)
        ·
          have c6 : l3_2.toInt ≤ (0 : Int32).toInt := kd_le c; clear c
          refine ft_go mi_k61 1 27 [(3, .int l3_2), (0, .ref 49), (1, .ref 1), (2, .int x2)] [.ref 49] i2 a2 q2 r2 (by rfl) ?_
          refine ko_callN mi_k61.1 (pc := 27) (ls := [(3, .int l3_2), (0, .ref 49), (1, .ref 1), (2, .int x2)]) (st := [.ref 49]) (h := ks i2 a2 q2 r2) (i := (.invokevirtual 60, 3, 60, 0, 9, 0, 219)) (mi_k61.2 _ _ (by rfl)) (ft_invS mi_pq60 (by rfl)) (cy := mi_c60) mi_pq60 rfl (kc60_49 hL2.I hL2.R ) (by decide) ?_
          intro ig7 ag7 qg7 rg7 kg7 hg7
          have hGg7 := kG_call hL2 kg7 (by decide +kernel)
          have s8 : (l3_2 + 1).toInt = l3_2.toInt + (1 : Int32).toInt := kd_add (oz12 p2_0 kn1) (oz391 c6 kn0 kn1)
          refine ft_go mi_k61 2 10 [(3, .int (l3_2 + 1)), (0, .ref 49), (1, .ref 1), (2, .int x2)] [] ig7 ag7 qg7 rg7 (by rfl) ?_
          exact ih2 _ _ _ _ _ hGg7 (oz14 p2_0 s8 kn1) (kj_meas (oz44 s8 kn1) (oz45 c5) hm2)
        ·
          have c9 : (0 : Int32).toInt < l3_2.toInt := kd_leF c; clear c
          refine ft_go mi_k61 2 23 [(3, .int l3_2), (0, .ref 49), (1, .ref 1), (2, .int x2)] [.ref 50] i2 a2 q2 r2 (by rfl) ?_
          refine ko_callN mi_k61.1 (pc := 23) (ls := [(3, .int l3_2), (0, .ref 49), (1, .ref 1), (2, .int x2)]) (st := [.ref 50]) (h := ks i2 a2 q2 r2) (i := (.invokevirtual 72, 3, 32, 0, 9, 0, 232)) (mi_k61.2 _ _ (by rfl)) (ft_invS mi_pq32 (by rfl)) (cy := mi_c32) mi_pq32 rfl (kc32_50 hL2.I hL2.R ) (by decide) ?_
          intro ig10 ag10 qg10 rg10 kg10 hg10
          have hGg10 := kG_call hL2 kg10 (by decide +kernel)
          refine ft_go mi_k61 1 27 [(3, .int l3_2), (0, .ref 49), (1, .ref 1), (2, .int x2)] [.ref 49] ig10 ag10 qg10 rg10 (by rfl) ?_
          refine ko_callN mi_k61.1 (pc := 27) (ls := [(3, .int l3_2), (0, .ref 49), (1, .ref 1), (2, .int x2)]) (st := [.ref 49]) (h := ks ig10 ag10 qg10 rg10) (i := (.invokevirtual 60, 3, 60, 0, 9, 0, 219)) (mi_k61.2 _ _ (by rfl)) (ft_invS mi_pq60 (by rfl)) (cy := mi_c60) mi_pq60 rfl (kc60_49 hGg10.I hGg10.R ) (by decide) ?_
          intro ig11 ag11 qg11 rg11 kg11 hg11
          have hGg11 := kG_call hGg10 kg11 (by decide +kernel)
          have s12 : (l3_2 + 1).toInt = l3_2.toInt + (1 : Int32).toInt := kd_add (oz402 c9 kn0 kn1) (oz1057 c5 hp0 kn1)
          refine ft_go mi_k61 2 10 [(3, .int (l3_2 + 1)), (0, .ref 49), (1, .ref 1), (2, .int x2)] [] ig11 ag11 qg11 rg11 (by rfl) ?_
          exact ih2 _ _ _ _ _ hGg11 (oz404 c9 s12 kn0 kn1) (kj_meas (oz44 s12 kn1) (oz45 c5) hm2)
  exact lp2 _ _ _ _ _ _ (kG_self _ hGg1.I hGg1.R) (oz46 kn0) (Nat.lt_succ_self _)
set_option maxRecDepth 100000 in
theorem kc62_49 {i : Nat → Int32} {a : Nat → List Int32} {q : Nat → List Int64} {r : Nat → Nat} (hI : kI i a q) (hr : kr r) (x1 : Int32) : km 3 62 [.ref 49, .int x1] (ks i a q r) (kPI (ks i a q r) (fun v => True)) := by
  have hG := kG_self kW0 hI hr
  refine km_ofPI (q := (mi_h62, mi_c62)) rfl (by decide) (Nat.le_of_ble_eq_true rfl) ?_
  intro P hP
  refine ft_go mi_k62 3 5 [(0, .ref 49), (1, .int x1)] [.int x1, .ref 50] i a q r (by rfl) ?_
  refine ko_callPI mi_k62.1 (pc := 5) (ls := [(0, .ref 49), (1, .int x1)]) (st := [.int x1, .ref 50]) (h := ks i a q r) (i := (.invokevirtual 75, 3, 24, 0, 9, 0, 234)) (mi_k62.2 _ _ (by rfl)) (ft_invS mi_pq24 (by rfl)) (cy := mi_c24) mi_pq24 rfl (kc24_50 hG.I hG.R x1) (by decide) ?_
  intro vg1 hg1
  rcases hg1 with ⟨eg1, hg1⟩ | ⟨eg1, hg1⟩
  ·
    subst eg1
    have fi_3200 : ((0 : Int) ≤ (i 3200).toInt) ∧ ((i 3200).toInt ≤ 8) := hG.I.1 3200
    have z2 : ((0 : Int) ≤ x1.toInt) ∧ (x1.toInt < (i 3200).toInt) := hg1
    refine ft_go mi_k62 5 19 [(0, .ref 49), (1, .int x1)] [.int x1, .ref 51] i a q r (by rfl) ?_
    refine ko_iald3 mi_k62.1 (n := 8) (c := 8) (ax := (0, 0, 0, 0, 0)) (mi_k62.2 _ _ (by rfl)) (by rfl) (ksG51 _ _ _ _) (hG.I.2.1 51) rfl (oz3 z2.1) (oz974 fi_3200.2 z2.2) ?_
    refine ft_go mi_k62 1 32 [(0, .ref 49), (1, .int x1)] [.int ((a 51).getD x1.toNatClampNeg 0)] i a q r (by rfl) ?_
    exact ft_ret mi_k62 (by rfl) (hP ((a 51).getD x1.toNatClampNeg 0) trivial)
  ·
    subst eg1
    have fi_3200 : ((0 : Int) ≤ (i 3200).toInt) ∧ ((i 3200).toInt ≤ 8) := hG.I.1 3200
    have z3 : ¬ (((0 : Int) ≤ x1.toInt) ∧ (x1.toInt < (i 3200).toInt)) := hg1
    refine ft_go mi_k62 5 31 [(0, .ref 49), (1, .int x1)] [.int 2, .ref 63] i a q r (by rfl) ?_
    refine ko_iald3 mi_k62.1 (n := 5) (c := 5) (ax := (0, 0, 0, 0, 0)) (mi_k62.2 _ _ (by rfl)) (by rfl) (ksG63 _ _ _ _) (hG.I.2.1 63) rfl (oz256 kn2) (oz549 kn2) ?_
    exact ft_ret mi_k62 (by rfl) (hP ((a 63).getD (2 : Int32).toNatClampNeg 0) trivial)
def w90_0 : kW := ([645, 3138, 3200, 3206, 3207, 3208, 3209, 3214, 3215, 3216, 3586, 3781, 6405], [13, 51, 52, 53, 54, 55, 57, 58, 62, 63, 65, 66, 67, 68, 69, 70, 71, 72, 73, 74, 75, 76, 77, 103], [], [1])
set_option maxRecDepth 100000 in
theorem kc90_0 {i : Nat → Int32} {a : Nat → List Int32} {q : Nat → List Int64} {r : Nat → Nat} (hI : kI i a q) (hr : kr r) (x1 : Int32) (x2 : Int32) (x3 : Int32) : km 13 90 [.ref 0, .int x1, .int x2, .int x3] (ks i a q r) (kVI w90_0 i a q r (fun v i1 a1 q1 r1 => True)) := by
  have hG := kG_self w90_0 hI hr
  refine km_ofI (q := (mi_h90, mi_c90)) rfl (by decide) (Nat.le_of_ble_eq_true rfl) ?_
  intro P hP
  refine ft_go mi_k90 3 4 [(0, .ref 0), (1, .int x1), (2, .int x2), (3, .int x3)] [.int 20, .int 0, .int x2] i a q r (by rfl) ?_
  refine ko_callPI mi_k90.1 (pc := 4) (ls := [(0, .ref 0), (1, .int x1), (2, .int x2), (3, .int x3)]) (st := [.int 20, .int 0, .int x2]) (h := ks i a q r) (i := (.invokestatic 74, 3, 120, 0, 9, 0, 152)) (mi_k90.2 _ _ (by rfl)) (ft_invS mi_pq120 (by rfl)) (cy := mi_c120) mi_pq120 rfl (kc120 hG.I hG.R x2 0 20) (by decide) ?_
  intro vg1 hg1
  rcases hg1 with ⟨eg1, hg1⟩ | ⟨eg1, hg1⟩
  ·
    subst eg1
    have z2 : ((0 : Int32).toInt ≤ x2.toInt) ∧ (x2.toInt ≤ (20 : Int32).toInt) := hg1
    refine ft_go mi_k90 3 12 [(0, .ref 0), (1, .int x1), (2, .int x2), (3, .int x3)] [.int (-1), .int x3] i a q r (by rfl) ?_
    refine ft_if mi_k90 (x3 == (-1)) 25 15 [(0, .ref 0), (1, .int x1), (2, .int x2), (3, .int x3)] [] (by rfl) (fun c => ?_) (fun c => ?_)
    ·
      have c3 : x3.toInt = ((-1) : Int32).toInt := kd_eq c; clear c
      refine ft_go mi_k90 2 27 [(0, .ref 0), (1, .int x1), (2, .int x2), (3, .int x3)] [.int x1, .ref 0] i a q r (by rfl) ?_
      refine ko_callI mi_k90.1 (pc := 27) (ls := [(0, .ref 0), (1, .int x1), (2, .int x2), (3, .int x3)]) (st := [.int x1, .ref 0]) (h := ks i a q r) (i := (.invokevirtual 144, 3, 129, 0, 9, 0, 208)) (mi_k90.2 _ _ (by rfl)) (ft_invS mi_pq129 (by rfl)) (cy := mi_c129) mi_pq129 rfl (kc129_0 hG.I hG.R x1) (by decide) ?_
      intro vg4 ig4 ag4 qg4 rg4 kg4 hg4
      have hGg4 := kG_call hG kg4 (by decide +kernel)
      have z5 : (vg4.toInt < 0) ∨ (vg4.toInt = 0) := hg4
      refine ft_go mi_k90 2 34 [(4, .int vg4), (0, .ref 0), (1, .int x1), (2, .int x2), (3, .int x3)] [.int vg4] ig4 ag4 qg4 rg4 (by rfl) ?_
      refine ft_if mi_k90 (decide (0 ≤ vg4)) 40 37 [(4, .int vg4), (0, .ref 0), (1, .int x1), (2, .int x2), (3, .int x3)] [] (by rfl) (fun c => ?_) (fun c => ?_)
      ·
        have c6 : (0 : Int32).toInt ≤ vg4.toInt := kd_le c; clear c
        refine ft_go mi_k90 5 49 [(4, .int vg4), (0, .ref 0), (1, .int x1), (2, .int x2), (3, .int x3)] [.int x2, .ref 1, .ref 49] ig4 ag4 qg4 rg4 (by rfl) ?_
        refine ko_callN mi_k90.1 (pc := 49) (ls := [(4, .int vg4), (0, .ref 0), (1, .int x1), (2, .int x2), (3, .int x3)]) (st := [.int x2, .ref 1, .ref 49]) (h := ks ig4 ag4 qg4 rg4) (i := (.invokevirtual 167, 3, 61, 0, 9, 0, 231)) (mi_k90.2 _ _ (by rfl)) (ft_invS mi_pq61 (by rfl)) (cy := mi_c61) mi_pq61 rfl (kc61_49_1 hGg4.I hGg4.R x2 (oz1058 z2.2 kn20)) (by decide) ?_
        intro ig7 ag7 qg7 rg7 kg7 hg7
        have hGg7 := kG_call hGg4 kg7 (by decide +kernel)
        refine ft_go mi_k90 3 57 [(4, .int vg4), (0, .ref 0), (1, .int x1), (2, .int x2), (3, .int x3)] [.int x3, .ref 49] ig7 ag7 qg7 rg7 (by rfl) ?_
        refine ko_callPI mi_k90.1 (pc := 57) (ls := [(4, .int vg4), (0, .ref 0), (1, .int x1), (2, .int x2), (3, .int x3)]) (st := [.int x3, .ref 49]) (h := ks ig7 ag7 qg7 rg7) (i := (.invokevirtual 171, 3, 62, 0, 9, 0, 233)) (mi_k90.2 _ _ (by rfl)) (ft_invS mi_pq62 (by rfl)) (cy := mi_c62) mi_pq62 rfl (kc62_49 hGg7.I hGg7.R x3) (by decide) ?_
        intro vg8 hg8
        exact ft_ret mi_k90 (by rfl) (hP vg8 _ _ _ _ hGg7 trivial)
      ·
        have c9 : vg4.toInt < (0 : Int32).toInt := kd_leF c; clear c
        refine ft_go mi_k90 1 39 [(4, .int vg4), (0, .ref 0), (1, .int x1), (2, .int x2), (3, .int x3)] [.int vg4] ig4 ag4 qg4 rg4 (by rfl) ?_
        exact ft_ret mi_k90 (by rfl) (hP vg4 _ _ _ _ hGg4 trivial)
    ·
      have c10 : x3.toInt ≠ ((-1) : Int32).toInt := kd_eqF c; clear c
      refine ft_go mi_k90 2 17 [(0, .ref 0), (1, .int x1), (2, .int x2), (3, .int x3)] [.int x3, .ref 0] i a q r (by rfl) ?_
      refine ko_callPI mi_k90.1 (pc := 17) (ls := [(0, .ref 0), (1, .int x1), (2, .int x2), (3, .int x3)]) (st := [.int x3, .ref 0]) (h := ks i a q r) (i := (.invokevirtual 141, 3, 123, 0, 9, 0, 162)) (mi_k90.2 _ _ (by rfl)) (ft_invS mi_pq123 (by rfl)) (cy := mi_c123) mi_pq123 rfl (kc123_0 hG.I hG.R x3) (by decide) ?_
      intro vg11 hg11
      rcases hg11 with ⟨eg11, hg11⟩ | ⟨eg11, hg11⟩
      ·
        subst eg11
        have fi_64 : ((0 : Int) ≤ (i 64).toInt) ∧ ((i 64).toInt ≤ 8) := hG.I.1 64
        have z12 : ((0 : Int) ≤ x3.toInt) ∧ (x3.toInt < (i 64).toInt) := hg11
        refine ft_go mi_k90 3 27 [(0, .ref 0), (1, .int x1), (2, .int x2), (3, .int x3)] [.int x1, .ref 0] i a q r (by rfl) ?_
        refine ko_callI mi_k90.1 (pc := 27) (ls := [(0, .ref 0), (1, .int x1), (2, .int x2), (3, .int x3)]) (st := [.int x1, .ref 0]) (h := ks i a q r) (i := (.invokevirtual 144, 3, 129, 0, 9, 0, 208)) (mi_k90.2 _ _ (by rfl)) (ft_invS mi_pq129 (by rfl)) (cy := mi_c129) mi_pq129 rfl (kc129_0 hG.I hG.R x1) (by decide) ?_
        intro vg13 ig13 ag13 qg13 rg13 kg13 hg13
        have hGg13 := kG_call hG kg13 (by decide +kernel)
        have z14 : (vg13.toInt < 0) ∨ (vg13.toInt = 0) := hg13
        refine ft_go mi_k90 2 34 [(4, .int vg13), (0, .ref 0), (1, .int x1), (2, .int x2), (3, .int x3)] [.int vg13] ig13 ag13 qg13 rg13 (by rfl) ?_
        refine ft_if mi_k90 (decide (0 ≤ vg13)) 40 37 [(4, .int vg13), (0, .ref 0), (1, .int x1), (2, .int x2), (3, .int x3)] [] (by rfl) (fun c => ?_) (fun c => ?_)
        ·
          have c15 : (0 : Int32).toInt ≤ vg13.toInt := kd_le c; clear c
          refine ft_go mi_k90 5 49 [(4, .int vg13), (0, .ref 0), (1, .int x1), (2, .int x2), (3, .int x3)] [.int x2, .ref 1, .ref 49] ig13 ag13 qg13 rg13 (by rfl) ?_
          refine ko_callN mi_k90.1 (pc := 49) (ls := [(4, .int vg13), (0, .ref 0), (1, .int x1), (2, .int x2), (3, .int x3)]) (st := [.int x2, .ref 1, .ref 49]) (h := ks ig13 ag13 qg13 rg13) (i := (.invokevirtual 167, 3, 61, 0, 9, 0, 231)) (mi_k90.2 _ _ (by rfl)) (ft_invS mi_pq61 (by rfl)) (cy := mi_c61) mi_pq61 rfl (kc61_49_1 hGg13.I hGg13.R x2 (oz1058 z2.2 kn20)) (by decide) ?_
          intro ig16 ag16 qg16 rg16 kg16 hg16
          have hGg16 := kG_call hGg13 kg16 (by decide +kernel)
          refine ft_go mi_k90 3 57 [(4, .int vg13), (0, .ref 0), (1, .int x1), (2, .int x2), (3, .int x3)] [.int x3, .ref 49] ig16 ag16 qg16 rg16 (by rfl) ?_
          refine ko_callPI mi_k90.1 (pc := 57) (ls := [(4, .int vg13), (0, .ref 0), (1, .int x1), (2, .int x2), (3, .int x3)]) (st := [.int x3, .ref 49]) (h := ks ig16 ag16 qg16 rg16) (i := (.invokevirtual 171, 3, 62, 0, 9, 0, 233)) (mi_k90.2 _ _ (by rfl)) (ft_invS mi_pq62 (by rfl)) (cy := mi_c62) mi_pq62 rfl (kc62_49 hGg16.I hGg16.R x3) (by decide) ?_
          intro vg17 hg17
          exact ft_ret mi_k90 (by rfl) (hP vg17 _ _ _ _ hGg16 trivial)
        ·
          have c18 : vg13.toInt < (0 : Int32).toInt := kd_leF c; clear c
          refine ft_go mi_k90 1 39 [(4, .int vg13), (0, .ref 0), (1, .int x1), (2, .int x2), (3, .int x3)] [.int vg13] ig13 ag13 qg13 rg13 (by rfl) ?_
          exact ft_ret mi_k90 (by rfl) (hP vg13 _ _ _ _ hGg13 trivial)
      ·
        subst eg11
        have fi_64 : ((0 : Int) ≤ (i 64).toInt) ∧ ((i 64).toInt ≤ 8) := hG.I.1 64
        have z19 : ¬ (((0 : Int) ≤ x3.toInt) ∧ (x3.toInt < (i 64).toInt)) := hg11
        refine ft_go mi_k90 2 24 [(0, .ref 0), (1, .int x1), (2, .int x2), (3, .int x3)] [.int (-1)] i a q r (by rfl) ?_
        exact ft_ret mi_k90 (by rfl) (hP (-1) _ _ _ _ hG trivial)
  ·
    subst eg1
    have z20 : ¬ (((0 : Int32).toInt ≤ x2.toInt) ∧ (x2.toInt ≤ (20 : Int32).toInt)) := hg1
    refine ft_go mi_k90 2 24 [(0, .ref 0), (1, .int x1), (2, .int x2), (3, .int x3)] [.int (-1)] i a q r (by rfl) ?_
    exact ft_ret mi_k90 (by rfl) (hP (-1) _ _ _ _ hG trivial)
def w65_49 : kW := ([3138], [74], [], [])
set_option maxRecDepth 100000 in
theorem kc65_49 {i : Nat → Int32} {a : Nat → List Int32} {q : Nat → List Int64} {r : Nat → Nat} (hI : kI i a q) (hr : kr r) (x1 : Int32) (x2 : Int32) : km 1 65 [.ref 49, .int x1, .int x2] (ks i a q r) (kVN w65_49 i a q r (fun i1 a1 q1 r1 => True)) := by
  have hG := kG_self w65_49 hI hr
  refine km_ofN (q := (mi_h65, mi_c65)) rfl (by decide) (Nat.le_of_ble_eq_true rfl) ?_
  intro P hP
  have fi_3138 : ((0 : Int) ≤ (i 3138).toInt) ∧ ((i 3138).toInt ≤ 20) := hG.I.1 3138
  refine ft_go mi_k65 3 6 [(0, .ref 49), (1, .int x1), (2, .int x2)] [.int 20, .int (i 3138)] i a q r (by rfl) ?_
  refine ft_if mi_k65 (decide (20 ≤ (i 3138))) 59 9 [(0, .ref 49), (1, .int x1), (2, .int x2)] [] (by rfl) (fun c => ?_) (fun c => ?_)
  ·
    have c1 : (20 : Int32).toInt ≤ (i 3138).toInt := kd_le c; clear c
    exact ft_ret mi_k65 (by rfl) (hP  _ _ _ _ hG trivial)
  ·
    have c2 : (i 3138).toInt < (20 : Int32).toInt := kd_leF c; clear c
    refine ft_go mi_k65 1 10 [(0, .ref 49), (1, .int x1), (2, .int x2)] [.int x1] i a q r (by rfl) ?_
    refine ft_if mi_k65 (decide (x1 < 0)) 59 13 [(0, .ref 49), (1, .int x1), (2, .int x2)] [] (by rfl) (fun c => ?_) (fun c => ?_)
    ·
      have c3 : x1.toInt < (0 : Int32).toInt := kd_lt c; clear c
      exact ft_ret mi_k65 (by rfl) (hP  _ _ _ _ hG trivial)
    ·
      have c4 : (0 : Int32).toInt ≤ x1.toInt := kd_ltF c; clear c
      refine ft_go mi_k65 3 18 [(0, .ref 49), (1, .int x1), (2, .int x2)] [.int (i 3138), .int x1] i a q r (by rfl) ?_
      refine ft_if mi_k65 (decide ((i 3138) < x1)) 59 21 [(0, .ref 49), (1, .int x1), (2, .int x2)] [] (by rfl) (fun c => ?_) (fun c => ?_)
      ·
        have c5 : (i 3138).toInt < x1.toInt := kd_lt c; clear c
        exact ft_ret mi_k65 (by rfl) (hP  _ _ _ _ hG trivial)
      ·
        have c6 : x1.toInt ≤ (i 3138).toInt := kd_ltF c; clear c
        have s7 : (x1 + 1).toInt = x1.toInt + (1 : Int32).toInt := kd_add (oz950 c4 kn0 kn1) (oz1059 c6 fi_3138.2 kn1)
        have s8 : ((i 3138) - x1).toInt = (i 3138).toInt - x1.toInt := kd_sub (oz551 c6) (oz1060 c2 c4 kn20 kn0)
        refine ft_go mi_k65 12 39 [(0, .ref 49), (1, .int x1), (2, .int x2)] [.int ((i 3138) - x1), .int (x1 + 1), .ref 74, .int x1, .ref 74] i a q r (by rfl) ?_
        refine ko_copyI3 mi_k65.1 (n := 20) (c := 20) (m := 20) (b := 20) (mi_k65.2 _ _ (by rfl)) (by rfl) (by rfl) (by rfl) (ksG74 _ _ _ _) (ksG74 _ _ _ _) (ksA74 _ _ _ _) (hG.I.2.1 74) rfl (hG.I.2.1 74) rfl (oz1061 c6 s8) (oz389 c4 kn0) (oz952 c4 s7 kn0 kn1) (oz1062 fi_3138.2 s8) (oz1063 c2 s7 s8 kn20 kn1) ?_
        intro a10 ea10 fa10
        have hJ10 := kG_al3 hG 74 rfl ea10 fa10 (kcpy_len2 (n := 20) (c := 20) (m := 20) (b := 20) (sp := x1) (dp := (x1 + 1)) (n1 := ((i 3138) - x1)) (hG.I.2.1 74) rfl (hG.I.2.1 74) rfl (oz1061 c6 s8) (oz389 c4 kn0) (oz952 c4 s7 kn0 kn1) (oz1062 fi_3138.2 s8) (oz1063 c2 s7 s8 kn20 kn1)) (fun _ => kd_bd _)
        refine ft_go mi_k65 4 48 [(0, .ref 49), (1, .int x1), (2, .int x2)] [.int x2, .int x1, .ref 74] i a10 q r (by rfl) ?_
        refine ko_iast3 mi_k65.1 (n := 20) (c := 20) (ax := (0, 0, 0, 0, 0)) (mi_k65.2 _ _ (by rfl)) (by rfl) (ksG74 _ _ _ _) (ksA74 _ _ _ _) (hJ10.I.2.1 74) rfl (oz389 c4 kn0) (oz1064 c2 c6 kn20) ?_
        intro a11 ea11 fa11
        have hJ11 := kG_a3 hJ10 74 rfl ea11 fa11 (kd_bd _)
        have s12 : ((i 3138) + 1).toInt = (i 3138).toInt + (1 : Int32).toInt := kd_add (oz12 fi_3138.1 kn1) (oz448 fi_3138.2 kn1)
        have hJ13 := kG_i hJ11 3138 rfl (v := ((i 3138) + 1)) ⟨(oz14 fi_3138.1 s12 kn1), (oz224 c2 s12 kn20 kn1)⟩
        refine ft_go mi_k65 6 59 [(0, .ref 49), (1, .int x1), (2, .int x2)] [] (ku i 3138 ((i 3138) + 1)) a11 q r (by rfl) ?_
        exact ft_ret mi_k65 (by rfl) (hP  _ _ _ _ hJ13 trivial)
def w63_49_1 : kW := ([645, 3200, 3206, 3207, 3208, 3209, 3214, 3215, 3216, 3586, 3781, 6405], [13, 51, 52, 53, 54, 55, 57, 58, 62, 63, 65, 66, 67, 68, 69, 70, 71, 72, 73, 103], [], [1])
def w63_49_1_L10 : kW := ([645, 3209, 3214, 3215, 3216, 3586, 3781, 6405], [13, 51, 55, 57, 58, 62, 63, 65, 66, 67, 68, 69, 70, 71, 72, 73, 103], [], [])
set_option maxRecDepth 100000 in
theorem kc63_49_1 {i : Nat → Int32} {a : Nat → List Int32} {q : Nat → List Int64} {r : Nat → Nat} (hI : kI i a q) (hr : kr r) (x2 : Int32) : km 9 63 [.ref 49, .ref 1, .int x2] (ks i a q r) (kVI w63_49_1 i a q r (fun v i1 a1 q1 r1 => True)) := by
  have hG := kG_self w63_49_1 hI hr
  refine km_ofI (q := (mi_h63, mi_c63)) rfl (by decide) (Nat.le_of_ble_eq_true rfl) ?_
  intro P hP
  refine ft_go mi_k63 3 5 [(0, .ref 49), (1, .ref 1), (2, .int x2)] [.ref 1, .ref 50] i a q r (by rfl) ?_
  refine ko_callN mi_k63.1 (pc := 5) (ls := [(0, .ref 49), (1, .ref 1), (2, .int x2)]) (st := [.ref 1, .ref 50]) (h := ks i a q r) (i := (.invokevirtual 56, 3, 34, 0, 9, 0, 212)) (mi_k63.2 _ _ (by rfl)) (ft_invS mi_pq34 (by rfl)) (cy := mi_c34) mi_pq34 rfl (kc34_50_1 hG.I hG.R ) (by decide) ?_
  intro ig1 ag1 qg1 rg1 kg1 hg1
  have hGg1 := kG_call hG kg1 (by decide +kernel)
  refine ft_go mi_k63 2 10 [(3, .int 0), (0, .ref 49), (1, .ref 1), (2, .int x2)] [] ig1 ag1 qg1 rg1 (by rfl) ?_
  have lp2 : ∀ (nz : Nat) (i2 : Nat → Int32) (a2 : Nat → List Int32) (q2 : Nat → List Int64) (r2 : Nat → Nat) (l3_2 : Int32), kG w63_49_1_L10 ig1 ag1 qg1 rg1 i2 a2 q2 r2 → (0 : Int) ≤ l3_2.toInt → ((20 - l3_2.toInt)).toNat < nz → ko 9 (mi_h63, mi_c63) P (10, [(3, .int l3_2), (0, .ref 49), (1, .ref 1), (2, .int x2)], [], (0, 0), ks i2 a2 q2 r2) := by
    intro nz
    induction nz with
    | zero =>
      intro _ _ _ _ _ _ _ hm
      exact absurd hm (Nat.not_lt_zero _)
    | succ nz ih2 =>
      intro i2 a2 q2 r2 l3_2 hL2 p2_0 hm2
      have fi2_3138 : ((0 : Int) ≤ (i2 3138).toInt) ∧ ((i2 3138).toInt ≤ 20) := hL2.I.1 3138
      have fig1_3138 : ((0 : Int) ≤ (ig1 3138).toInt) ∧ ((ig1 3138).toInt ≤ 20) := hGg1.I.1 3138
      have fi_3138 : ((0 : Int) ≤ (i 3138).toInt) ∧ ((i 3138).toInt ≤ 20) := hG.I.1 3138
      have efig1_3138 : (ig1 3138).toInt = (i 3138).toInt := kg1.ti 3138 rfl
      have efi2_3138 : (i2 3138).toInt = (ig1 3138).toInt := hL2.ti 3138 rfl
      refine ft_go mi_k63 3 15 [(3, .int l3_2), (0, .ref 49), (1, .ref 1), (2, .int x2)] [.int (i2 3138), .int l3_2] i2 a2 q2 r2 (by rfl) ?_
      refine ft_if mi_k63 (decide ((i2 3138) ≤ l3_2)) 44 18 [(3, .int l3_2), (0, .ref 49), (1, .ref 1), (2, .int x2)] [] (by rfl) (fun c => ?_) (fun c => ?_)
      ·
        have c3 : (i2 3138).toInt ≤ l3_2.toInt := kd_le c; clear c
        have hG4 := kG_call hGg1 hL2 (by decide +kernel)
        refine ft_go mi_k63 4 50 [(3, .int l3_2), (0, .ref 49), (1, .ref 1), (2, .int x2)] [.int 0, .int x2, .ref 50] i2 a2 q2 r2 (by rfl) ?_
        refine ko_callPI mi_k63.1 (pc := 50) (ls := [(3, .int l3_2), (0, .ref 49), (1, .ref 1), (2, .int x2)]) (st := [.int 0, .int x2, .ref 50]) (h := ks i2 a2 q2 r2) (i := (.invokevirtual 85, 3, 27, 0, 9, 0, 240)) (mi_k63.2 _ _ (by rfl)) (ft_invS mi_pq27 (by rfl)) (cy := mi_c27) mi_pq27 rfl (kc27_50 hG4.I hG4.R x2 0) (by decide) ?_
        intro vg5 hg5
        exact ft_ret mi_k63 (by rfl) (hP vg5 _ _ _ _ hG4 trivial)
      ·
        have c6 : l3_2.toInt < (i2 3138).toInt := kd_leF c; clear c
        refine ft_go mi_k63 2 21 [(3, .int l3_2), (0, .ref 49), (1, .ref 1), (2, .int x2)] [.int 20, .int l3_2] i2 a2 q2 r2 (by rfl) ?_
        refine ft_if mi_k63 (decide (20 ≤ l3_2)) 44 24 [(3, .int l3_2), (0, .ref 49), (1, .ref 1), (2, .int x2)] [] (by rfl) (fun c => ?_) (fun c => ?_)
        ·
          have c7 : (20 : Int32).toInt ≤ l3_2.toInt := kd_le c; clear c
          exact (oz1031 c6 c7 fi2_3138.2 kn20).elim
        ·
          have c8 : l3_2.toInt < (20 : Int32).toInt := kd_leF c; clear c
          refine ft_go mi_k63 5 33 [(3, .int l3_2), (0, .ref 49), (1, .ref 1), (2, .int x2)] [.int l3_2, .ref 74, .ref 50] i2 a2 q2 r2 (by rfl) ?_
          refine ko_iald3 mi_k63.1 (n := 20) (c := 20) (ax := (0, 0, 0, 0, 0)) (mi_k63.2 _ _ (by rfl)) (by rfl) (ksG74 _ _ _ _) (hL2.I.2.1 74) rfl (oz3 p2_0) (oz1013 c8 kn20) ?_
          refine ko_callI mi_k63.1 (pc := 34) (ls := [(3, .int l3_2), (0, .ref 49), (1, .ref 1), (2, .int x2)]) (st := [.int ((a2 74).getD l3_2.toNatClampNeg 0), .ref 50]) (h := ks i2 a2 q2 r2) (i := (.invokevirtual 63, 3, 29, 0, 9, 0, 220)) (mi_k63.2 _ _ (by rfl)) (ft_invS mi_pq29 (by rfl)) (cy := mi_c29) mi_pq29 rfl (kc29_50 hL2.I hL2.R ((a2 74).getD l3_2.toNatClampNeg 0)) (by decide) ?_
          intro vg9 ig9 ag9 qg9 rg9 kg9 hg9
          have hGg9 := kG_call hL2 kg9 (by decide +kernel)
          have s10 : (l3_2 + 1).toInt = l3_2.toInt + (1 : Int32).toInt := kd_add (oz12 p2_0 kn1) (oz1014 c8 kn20 kn1)
          refine ft_go mi_k63 3 10 [(3, .int (l3_2 + 1)), (0, .ref 49), (1, .ref 1), (2, .int x2)] [] ig9 ag9 qg9 rg9 (by rfl) ?_
          exact ih2 _ _ _ _ _ hGg9 (oz14 p2_0 s10 kn1) (kj_meas (oz218 s10 kn1) (oz225 c8 kn20) hm2)
  exact lp2 _ _ _ _ _ _ (kG_self _ hGg1.I hGg1.R) (oz46 kn0) (Nat.lt_succ_self _)
def w64_49 : kW := ([], [74], [], [])
set_option maxRecDepth 100000 in
theorem kc64_49 {i : Nat → Int32} {a : Nat → List Int32} {q : Nat → List Int64} {r : Nat → Nat} (hI : kI i a q) (hr : kr r) (x1 : Int32) (x2 : Int32) (hp0 : ((0 : Int) ≤ x1.toInt) ∧ (x1.toInt ≤ 19)) (hp1 : ((0 : Int) ≤ x2.toInt) ∧ (x2.toInt ≤ 19)) : km 1 64 [.ref 49, .int x1, .int x2] (ks i a q r) (kVN w64_49 i a q r (fun i1 a1 q1 r1 => True)) := by
  have hG := kG_self w64_49 hI hr
  refine km_ofN (q := (mi_h64, mi_c64)) rfl (by decide) (Nat.le_of_ble_eq_true rfl) ?_
  intro P hP
  refine ft_go mi_k64 3 5 [(0, .ref 49), (1, .int x1), (2, .int x2)] [.int x1, .ref 74] i a q r (by rfl) ?_
  refine ko_iald3 mi_k64.1 (n := 20) (c := 20) (ax := (0, 0, 0, 0, 0)) (mi_k64.2 _ _ (by rfl)) (by rfl) (ksG74 _ _ _ _) (hG.I.2.1 74) rfl (oz3 hp0.1) (oz1065 hp0.2) ?_
  refine ft_go mi_k64 7 17 [(3, .int ((a 74).getD x1.toNatClampNeg 0)), (0, .ref 49), (1, .int x1), (2, .int x2)] [.int x2, .ref 74, .int x1, .ref 74] i a q r (by rfl) ?_
  refine ko_iald3 mi_k64.1 (n := 20) (c := 20) (ax := (0, 0, 0, 0, 0)) (mi_k64.2 _ _ (by rfl)) (by rfl) (ksG74 _ _ _ _) (hG.I.2.1 74) rfl (oz3 hp1.1) (oz1065 hp1.2) ?_
  refine ko_iast3 mi_k64.1 (n := 20) (c := 20) (ax := (0, 0, 0, 0, 0)) (mi_k64.2 _ _ (by rfl)) (by rfl) (ksG74 _ _ _ _) (ksA74 _ _ _ _) (hG.I.2.1 74) rfl (oz3 hp0.1) (oz1065 hp0.2) ?_
  intro a1 ea1 fa1
  have hJ1 := kG_a3 hG 74 rfl ea1 fa1 (kd_bd _)
  refine ft_go mi_k64 4 25 [(3, .int ((a 74).getD x1.toNatClampNeg 0)), (0, .ref 49), (1, .int x1), (2, .int x2)] [.int ((a 74).getD x1.toNatClampNeg 0), .int x2, .ref 74] i a1 q r (by rfl) ?_
  refine ko_iast3 mi_k64.1 (n := 20) (c := 20) (ax := (0, 0, 0, 0, 0)) (mi_k64.2 _ _ (by rfl)) (by rfl) (ksG74 _ _ _ _) (ksA74 _ _ _ _) (hJ1.I.2.1 74) rfl (oz3 hp1.1) (oz1065 hp1.2) ?_
  intro a2 ea2 fa2
  have hJ2 := kG_a3 hJ1 74 rfl ea2 fa2 (kd_bd _)
  exact ft_ret mi_k64 (by rfl) (hP  _ _ _ _ hJ2 trivial)
def w66_49_1 : kW := ([645, 3138, 3142, 3200, 3206, 3207, 3208, 3209, 3214, 3215, 3216, 3586, 3781, 6405], [13, 51, 52, 53, 54, 55, 57, 58, 62, 63, 65, 66, 67, 68, 69, 70, 71, 72, 73, 74, 103], [], [1])
def w66_49_1_L16 : kW := ([645, 3142, 3200, 3206, 3207, 3208, 3209, 3214, 3215, 3216, 3586, 3781, 6405], [13, 51, 52, 53, 54, 55, 57, 58, 62, 63, 65, 66, 67, 68, 69, 70, 71, 72, 73, 74, 103], [], [1])
set_option maxRecDepth 100000 in
theorem kc66_49_1 {i : Nat → Int32} {a : Nat → List Int32} {q : Nat → List Int64} {r : Nat → Nat} (hI : kI i a q) (hr : kr r) (x2 : Int32) : km 11 66 [.ref 49, .ref 1, .int x2] (ks i a q r) (kVI w66_49_1 i a q r (fun v i1 a1 q1 r1 => True)) := by
  have hG := kG_self w66_49_1 hI hr
  refine km_ofI (q := (mi_h66, mi_c66)) rfl (by decide) (Nat.le_of_ble_eq_true rfl) ?_
  intro P hP
  have hJ1 := kG_i hG 3142 rfl (v := (-1)) (kd_bd _)
  refine ft_go mi_k66 8 10 [(3, .int 0), (0, .ref 49), (1, .ref 1), (2, .int x2)] [.int x2, .int 0, .ref 49] (ku i 3142 (-1)) a q r (by rfl) ?_
  refine ko_callN mi_k66.1 (pc := 10) (ls := [(3, .int 0), (0, .ref 49), (1, .ref 1), (2, .int x2)]) (st := [.int x2, .int 0, .ref 49]) (h := ks (ku i 3142 (-1)) a q r) (i := (.invokevirtual 95, 3, 65, 0, 9, 0, 237)) (mi_k66.2 _ _ (by rfl)) (ft_invS mi_pq65 (by rfl)) (cy := mi_c65) mi_pq65 rfl (kc65_49 hJ1.I hJ1.R 0 x2) (by decide) ?_
  intro ig2 ag2 qg2 rg2 kg2 hg2
  have hGg2 := kG_call hJ1 kg2 (by decide +kernel)
  refine ft_go mi_k66 2 16 [(4, .int 0), (3, .int 0), (0, .ref 49), (1, .ref 1), (2, .int x2)] [] ig2 ag2 qg2 rg2 (by rfl) ?_
  have lp3 : ∀ (nz : Nat) (i3 : Nat → Int32) (a3 : Nat → List Int32) (q3 : Nat → List Int64) (r3 : Nat → Nat) (l4_3 : Int32) (l3_3 : Int32), kG w66_49_1_L16 ig2 ag2 qg2 rg2 i3 a3 q3 r3 → (0 : Int) ≤ l4_3.toInt → (((i3 3138).toInt - l4_3.toInt)).toNat < nz → ko 11 (mi_h66, mi_c66) P (16, [(4, .int l4_3), (3, .int l3_3), (0, .ref 49), (1, .ref 1), (2, .int x2)], [], (0, 0), ks i3 a3 q3 r3) := by
    intro nz
    induction nz with
    | zero =>
      intro _ _ _ _ _ _ _ _ hm
      exact absurd hm (Nat.not_lt_zero _)
    | succ nz ih3 =>
      intro i3 a3 q3 r3 l4_3 l3_3 hL3 p3_0 hm3
      have fi3_3138 : ((0 : Int) ≤ (i3 3138).toInt) ∧ ((i3 3138).toInt ≤ 20) := hL3.I.1 3138
      have fig2_3138 : ((0 : Int) ≤ (ig2 3138).toInt) ∧ ((ig2 3138).toInt ≤ 20) := hGg2.I.1 3138
      have efi3_3138 : (i3 3138).toInt = (ig2 3138).toInt := hL3.ti 3138 rfl
      refine ft_go mi_k66 3 22 [(4, .int l4_3), (3, .int l3_3), (0, .ref 49), (1, .ref 1), (2, .int x2)] [.int (i3 3138), .int l4_3] i3 a3 q3 r3 (by rfl) ?_
      refine ft_if mi_k66 (decide ((i3 3138) ≤ l4_3)) 78 25 [(4, .int l4_3), (3, .int l3_3), (0, .ref 49), (1, .ref 1), (2, .int x2)] [] (by rfl) (fun c => ?_) (fun c => ?_)
      ·
        have c4 : (i3 3138).toInt ≤ l4_3.toInt := kd_le c; clear c
        have hG5 := kG_call hGg2 hL3 (by decide +kernel)
        refine ft_go mi_k66 1 79 [(4, .int l4_3), (3, .int l3_3), (0, .ref 49), (1, .ref 1), (2, .int x2)] [.int l3_3] i3 a3 q3 r3 (by rfl) ?_
        exact ft_ret mi_k66 (by rfl) (hP l3_3 _ _ _ _ hG5 trivial)
      ·
        have c6 : l4_3.toInt < (i3 3138).toInt := kd_leF c; clear c
        refine ft_go mi_k66 3 28 [(4, .int l4_3), (3, .int l3_3), (0, .ref 49), (1, .ref 1), (2, .int x2)] [.int x2, .ref 1, .ref 49] i3 a3 q3 r3 (by rfl) ?_
        refine ko_callI mi_k66.1 (pc := 28) (ls := [(4, .int l4_3), (3, .int l3_3), (0, .ref 49), (1, .ref 1), (2, .int x2)]) (st := [.int x2, .ref 1, .ref 49]) (h := ks i3 a3 q3 r3) (i := (.invokevirtual 99, 3, 63, 0, 9, 0, 239)) (mi_k66.2 _ _ (by rfl)) (ft_invS mi_pq63 (by rfl)) (cy := mi_c63) mi_pq63 rfl (kc63_49_1 hL3.I hL3.R x2) (by decide) ?_
        intro vg7 ig7 ag7 qg7 rg7 kg7 hg7
        have hGg7 := kG_call hL3 kg7 (by decide +kernel)
        have efig7_3142 : (ig7 3142).toInt = (i3 3142).toInt := kg7.ti 3142 rfl
        refine ft_go mi_k66 4 39 [(5, .int vg7), (4, .int l4_3), (3, .int l3_3), (0, .ref 49), (1, .ref 1), (2, .int x2)] [.int (ig7 3142), .int vg7] ig7 ag7 qg7 rg7 (by rfl) ?_
        refine ft_if mi_k66 (decide (vg7 ≤ (ig7 3142))) 51 42 [(5, .int vg7), (4, .int l4_3), (3, .int l3_3), (0, .ref 49), (1, .ref 1), (2, .int x2)] [] (by rfl) (fun c => ?_) (fun c => ?_)
        ·
          have c8 : vg7.toInt ≤ (ig7 3142).toInt := kd_le c; clear c
          have s9 : (l4_3 + 1).toInt = l4_3.toInt + (1 : Int32).toInt := kd_add (oz12 p3_0 kn1) (oz1057 c6 fi3_3138.2 kn1)
          have fig7_3138 : ((0 : Int) ≤ (ig7 3138).toInt) ∧ ((ig7 3138).toInt ≤ 20) := hGg7.I.1 3138
          have efig7_3138 : (ig7 3138).toInt = (i3 3138).toInt := kg7.ti 3138 rfl
          refine ft_go mi_k66 5 59 [(5, .int vg7), (4, .int l4_3), (3, .int l3_3), (0, .ref 49), (1, .ref 1), (2, .int x2)] [.int (ig7 3138), .int (l4_3 + 1)] ig7 ag7 qg7 rg7 (by rfl) ?_
          refine ft_if mi_k66 (decide ((ig7 3138) ≤ (l4_3 + 1))) 72 62 [(5, .int vg7), (4, .int l4_3), (3, .int l3_3), (0, .ref 49), (1, .ref 1), (2, .int x2)] [] (by rfl) (fun c => ?_) (fun c => ?_)
          ·
            have c10 : (ig7 3138).toInt ≤ (l4_3 + 1).toInt := kd_le c; clear c
            refine ft_go mi_k66 2 16 [(4, .int (l4_3 + 1)), (5, .int vg7), (3, .int l3_3), (0, .ref 49), (1, .ref 1), (2, .int x2)] [] ig7 ag7 qg7 rg7 (by rfl) ?_
            refine ko_perm [(4, .int (l4_3 + 1)), (3, .int l3_3), (0, .ref 49), (1, .ref 1), (2, .int x2)] (List.forall_mem_cons.mpr ⟨(List.Mem.head _), (List.forall_mem_cons.mpr ⟨(List.Mem.tail _ (List.Mem.tail _ (List.Mem.head _))), (List.forall_mem_cons.mpr ⟨(List.Mem.tail _ (List.Mem.tail _ (List.Mem.tail _ (List.Mem.head _)))), (List.forall_mem_cons.mpr ⟨(List.Mem.tail _ (List.Mem.tail _ (List.Mem.tail _ (List.Mem.tail _ (List.Mem.head _))))), (List.forall_mem_cons.mpr ⟨(List.Mem.tail _ (List.Mem.tail _ (List.Mem.tail _ (List.Mem.tail _ (List.Mem.tail _ (List.Mem.head _)))))), (fun _ h => absurd h List.not_mem_nil)⟩)⟩)⟩)⟩)⟩) ?_
            exact ih3 _ _ _ _ _ _ hGg7 (oz14 p3_0 s9 kn1) (kj_meas (oz308 efig7_3138 s9 kn1) (oz45 c6) hm3)
          ·
            have c11 : (l4_3 + 1).toInt < (ig7 3138).toInt := kd_leF c; clear c
            refine ft_go mi_k66 5 69 [(5, .int vg7), (4, .int l4_3), (3, .int l3_3), (0, .ref 49), (1, .ref 1), (2, .int x2)] [.int (l4_3 + 1), .int l4_3, .ref 49] ig7 ag7 qg7 rg7 (by rfl) ?_
            refine ko_callN mi_k66.1 (pc := 69) (ls := [(5, .int vg7), (4, .int l4_3), (3, .int l3_3), (0, .ref 49), (1, .ref 1), (2, .int x2)]) (st := [.int (l4_3 + 1), .int l4_3, .ref 49]) (h := ks ig7 ag7 qg7 rg7) (i := (.invokevirtual 103, 3, 64, 0, 9, 0, 241)) (mi_k66.2 _ _ (by rfl)) (ft_invS mi_pq64 (by rfl)) (cy := mi_c64) mi_pq64 rfl (kc64_49 hGg7.I hGg7.R l4_3 (l4_3 + 1) (oz1066 c6 fi3_3138.2 p3_0) (oz1067 c11 fig7_3138.2 p3_0 s9 kn1)) (by decide) ?_
            intro ig12 ag12 qg12 rg12 kg12 hg12
            have hGg12 := kG_call hGg7 kg12 (by decide +kernel)
            refine ft_go mi_k66 2 16 [(4, .int (l4_3 + 1)), (5, .int vg7), (3, .int l3_3), (0, .ref 49), (1, .ref 1), (2, .int x2)] [] ig12 ag12 qg12 rg12 (by rfl) ?_
            refine ko_perm [(4, .int (l4_3 + 1)), (3, .int l3_3), (0, .ref 49), (1, .ref 1), (2, .int x2)] (List.forall_mem_cons.mpr ⟨(List.Mem.head _), (List.forall_mem_cons.mpr ⟨(List.Mem.tail _ (List.Mem.tail _ (List.Mem.head _))), (List.forall_mem_cons.mpr ⟨(List.Mem.tail _ (List.Mem.tail _ (List.Mem.tail _ (List.Mem.head _)))), (List.forall_mem_cons.mpr ⟨(List.Mem.tail _ (List.Mem.tail _ (List.Mem.tail _ (List.Mem.tail _ (List.Mem.head _))))), (List.forall_mem_cons.mpr ⟨(List.Mem.tail _ (List.Mem.tail _ (List.Mem.tail _ (List.Mem.tail _ (List.Mem.tail _ (List.Mem.head _)))))), (fun _ h => absurd h List.not_mem_nil)⟩)⟩)⟩)⟩)⟩) ?_
            have fig12_3138 : ((0 : Int) ≤ (ig12 3138).toInt) ∧ ((ig12 3138).toInt ≤ 20) := hGg12.I.1 3138
            have efig12_3138 : (ig12 3138).toInt = (ig7 3138).toInt := kg12.ti 3138 rfl
            exact ih3 _ _ _ _ _ _ hGg12 (oz14 p3_0 s9 kn1) (kj_meas (oz1068 efig12_3138 efig7_3138 s9 kn1) (oz45 c6) hm3)
        ·
          have c13 : (ig7 3142).toInt < vg7.toInt := kd_leF c; clear c
          have hJ14 := kG_i hGg7 3142 rfl (v := vg7) (kd_bd _)
          have s15 : (l4_3 + 1).toInt = l4_3.toInt + (1 : Int32).toInt := kd_add (oz12 p3_0 kn1) (oz1057 c6 fi3_3138.2 kn1)
          have fig7_3138 : ((0 : Int) ≤ (ig7 3138).toInt) ∧ ((ig7 3138).toInt ≤ 20) := hJ14.I.1 3138
          have efig7_3138 : (ig7 3138).toInt = (i3 3138).toInt := kg7.ti 3138 rfl
          refine ft_go mi_k66 10 59 [(3, .int l4_3), (5, .int vg7), (4, .int l4_3), (0, .ref 49), (1, .ref 1), (2, .int x2)] [.int (ig7 3138), .int (l4_3 + 1)] (ku ig7 3142 vg7) ag7 qg7 rg7 (by rfl) ?_
          refine ft_if mi_k66 (decide ((ig7 3138) ≤ (l4_3 + 1))) 72 62 [(3, .int l4_3), (5, .int vg7), (4, .int l4_3), (0, .ref 49), (1, .ref 1), (2, .int x2)] [] (by rfl) (fun c => ?_) (fun c => ?_)
          ·
            have c16 : (ig7 3138).toInt ≤ (l4_3 + 1).toInt := kd_le c; clear c
            refine ft_go mi_k66 2 16 [(4, .int (l4_3 + 1)), (3, .int l4_3), (5, .int vg7), (0, .ref 49), (1, .ref 1), (2, .int x2)] [] (ku ig7 3142 vg7) ag7 qg7 rg7 (by rfl) ?_
            refine ko_perm [(4, .int (l4_3 + 1)), (3, .int l4_3), (0, .ref 49), (1, .ref 1), (2, .int x2)] (List.forall_mem_cons.mpr ⟨(List.Mem.head _), (List.forall_mem_cons.mpr ⟨(List.Mem.tail _ (List.Mem.head _)), (List.forall_mem_cons.mpr ⟨(List.Mem.tail _ (List.Mem.tail _ (List.Mem.tail _ (List.Mem.head _)))), (List.forall_mem_cons.mpr ⟨(List.Mem.tail _ (List.Mem.tail _ (List.Mem.tail _ (List.Mem.tail _ (List.Mem.head _))))), (List.forall_mem_cons.mpr ⟨(List.Mem.tail _ (List.Mem.tail _ (List.Mem.tail _ (List.Mem.tail _ (List.Mem.tail _ (List.Mem.head _)))))), (fun _ h => absurd h List.not_mem_nil)⟩)⟩)⟩)⟩)⟩) ?_
            exact ih3 _ _ _ _ _ _ hJ14 (oz14 p3_0 s15 kn1) (kj_meas (oz308 efig7_3138 s15 kn1) (oz45 c6) hm3)
          ·
            have c17 : (l4_3 + 1).toInt < (ig7 3138).toInt := kd_leF c; clear c
            refine ft_go mi_k66 5 69 [(3, .int l4_3), (5, .int vg7), (4, .int l4_3), (0, .ref 49), (1, .ref 1), (2, .int x2)] [.int (l4_3 + 1), .int l4_3, .ref 49] (ku ig7 3142 vg7) ag7 qg7 rg7 (by rfl) ?_
            refine ko_callN mi_k66.1 (pc := 69) (ls := [(3, .int l4_3), (5, .int vg7), (4, .int l4_3), (0, .ref 49), (1, .ref 1), (2, .int x2)]) (st := [.int (l4_3 + 1), .int l4_3, .ref 49]) (h := ks (ku ig7 3142 vg7) ag7 qg7 rg7) (i := (.invokevirtual 103, 3, 64, 0, 9, 0, 241)) (mi_k66.2 _ _ (by rfl)) (ft_invS mi_pq64 (by rfl)) (cy := mi_c64) mi_pq64 rfl (kc64_49 hJ14.I hJ14.R l4_3 (l4_3 + 1) (oz1066 c6 fi3_3138.2 p3_0) (oz1067 c17 fig7_3138.2 p3_0 s15 kn1)) (by decide) ?_
            intro ig18 ag18 qg18 rg18 kg18 hg18
            have hGg18 := kG_call hJ14 kg18 (by decide +kernel)
            refine ft_go mi_k66 2 16 [(4, .int (l4_3 + 1)), (3, .int l4_3), (5, .int vg7), (0, .ref 49), (1, .ref 1), (2, .int x2)] [] ig18 ag18 qg18 rg18 (by rfl) ?_
            refine ko_perm [(4, .int (l4_3 + 1)), (3, .int l4_3), (0, .ref 49), (1, .ref 1), (2, .int x2)] (List.forall_mem_cons.mpr ⟨(List.Mem.head _), (List.forall_mem_cons.mpr ⟨(List.Mem.tail _ (List.Mem.head _)), (List.forall_mem_cons.mpr ⟨(List.Mem.tail _ (List.Mem.tail _ (List.Mem.tail _ (List.Mem.head _)))), (List.forall_mem_cons.mpr ⟨(List.Mem.tail _ (List.Mem.tail _ (List.Mem.tail _ (List.Mem.tail _ (List.Mem.head _))))), (List.forall_mem_cons.mpr ⟨(List.Mem.tail _ (List.Mem.tail _ (List.Mem.tail _ (List.Mem.tail _ (List.Mem.tail _ (List.Mem.head _)))))), (fun _ h => absurd h List.not_mem_nil)⟩)⟩)⟩)⟩)⟩) ?_
            have fig18_3138 : ((0 : Int) ≤ (ig18 3138).toInt) ∧ ((ig18 3138).toInt ≤ 20) := hGg18.I.1 3138
            have efig18_3138 : (ig18 3138).toInt = (ig7 3138).toInt := kg18.ti 3138 rfl
            exact ih3 _ _ _ _ _ _ hGg18 (oz14 p3_0 s15 kn1) (kj_meas (oz1068 efig18_3138 efig7_3138 s15 kn1) (oz45 c6) hm3)
  exact lp3 _ _ _ _ _ _ _ (kG_self _ hGg2.I hGg2.R) (oz46 kn0) (Nat.lt_succ_self _)
def w91_0 : kW := ([645, 3138, 3142, 3200, 3206, 3207, 3208, 3209, 3214, 3215, 3216, 3586, 3781, 6405], [13, 51, 52, 53, 54, 55, 57, 58, 62, 63, 65, 66, 67, 68, 69, 70, 71, 72, 73, 74, 103], [], [1])
set_option maxRecDepth 100000 in
theorem kc91_0 {i : Nat → Int32} {a : Nat → List Int32} {q : Nat → List Int64} {r : Nat → Nat} (hI : kI i a q) (hr : kr r) (x1 : Int32) (x2 : Int32) (x3 : Int32) : km 13 91 [.ref 0, .int x1, .int x2, .int x3] (ks i a q r) (kVI w91_0 i a q r (fun v i1 a1 q1 r1 => True)) := by
  have hG := kG_self w91_0 hI hr
  refine km_ofI (q := (mi_h91, mi_c91)) rfl (by decide) (Nat.le_of_ble_eq_true rfl) ?_
  intro P hP
  refine ft_go mi_k91 2 2 [(0, .ref 0), (1, .int x1), (2, .int x2), (3, .int x3)] [.int x2, .ref 0] i a q r (by rfl) ?_
  refine ko_callPI mi_k91.1 (pc := 2) (ls := [(0, .ref 0), (1, .int x1), (2, .int x2), (3, .int x3)]) (st := [.int x2, .ref 0]) (h := ks i a q r) (i := (.invokevirtual 141, 3, 123, 0, 9, 0, 162)) (mi_k91.2 _ _ (by rfl)) (ft_invS mi_pq123 (by rfl)) (cy := mi_c123) mi_pq123 rfl (kc123_0 hG.I hG.R x2) (by decide) ?_
  intro vg1 hg1
  rcases hg1 with ⟨eg1, hg1⟩ | ⟨eg1, hg1⟩
  ·
    subst eg1
    have fi_64 : ((0 : Int) ≤ (i 64).toInt) ∧ ((i 64).toInt ≤ 8) := hG.I.1 64
    have z2 : ((0 : Int) ≤ x2.toInt) ∧ (x2.toInt < (i 64).toInt) := hg1
    refine ft_go mi_k91 4 11 [(0, .ref 0), (1, .int x1), (2, .int x2), (3, .int x3)] [.int 1, .int 0, .int x3] i a q r (by rfl) ?_
    refine ko_callPI mi_k91.1 (pc := 11) (ls := [(0, .ref 0), (1, .int x1), (2, .int x2), (3, .int x3)]) (st := [.int 1, .int 0, .int x3]) (h := ks i a q r) (i := (.invokestatic 74, 3, 120, 0, 9, 0, 152)) (mi_k91.2 _ _ (by rfl)) (ft_invS mi_pq120 (by rfl)) (cy := mi_c120) mi_pq120 rfl (kc120 hG.I hG.R x3 0 1) (by decide) ?_
    intro vg3 hg3
    rcases hg3 with ⟨eg3, hg3⟩ | ⟨eg3, hg3⟩
    ·
      subst eg3
      have z4 : ((0 : Int32).toInt ≤ x3.toInt) ∧ (x3.toInt ≤ (1 : Int32).toInt) := hg3
      refine ft_go mi_k91 3 21 [(0, .ref 0), (1, .int x1), (2, .int x2), (3, .int x3)] [.int x1, .ref 0] i a q r (by rfl) ?_
      refine ko_callI mi_k91.1 (pc := 21) (ls := [(0, .ref 0), (1, .int x1), (2, .int x2), (3, .int x3)]) (st := [.int x1, .ref 0]) (h := ks i a q r) (i := (.invokevirtual 144, 3, 129, 0, 9, 0, 208)) (mi_k91.2 _ _ (by rfl)) (ft_invS mi_pq129 (by rfl)) (cy := mi_c129) mi_pq129 rfl (kc129_0 hG.I hG.R x1) (by decide) ?_
      intro vg5 ig5 ag5 qg5 rg5 kg5 hg5
      have hGg5 := kG_call hG kg5 (by decide +kernel)
      have z6 : (vg5.toInt < 0) ∨ (vg5.toInt = 0) := hg5
      refine ft_go mi_k91 2 28 [(4, .int vg5), (0, .ref 0), (1, .int x1), (2, .int x2), (3, .int x3)] [.int vg5] ig5 ag5 qg5 rg5 (by rfl) ?_
      refine ft_if mi_k91 (decide (0 ≤ vg5)) 34 31 [(4, .int vg5), (0, .ref 0), (1, .int x1), (2, .int x2), (3, .int x3)] [] (by rfl) (fun c => ?_) (fun c => ?_)
      ·
        have c7 : (0 : Int32).toInt ≤ vg5.toInt := kd_le c; clear c
        have fig5_3138 : ((0 : Int) ≤ (ig5 3138).toInt) ∧ ((ig5 3138).toInt ≤ 20) := hGg5.I.1 3138
        refine ft_go mi_k91 4 43 [(4, .int vg5), (0, .ref 0), (1, .int x1), (2, .int x2), (3, .int x3)] [.int 20, .int (ig5 3138)] ig5 ag5 qg5 rg5 (by rfl) ?_
        refine ft_if mi_k91 (decide ((ig5 3138) < 20)) 49 46 [(4, .int vg5), (0, .ref 0), (1, .int x1), (2, .int x2), (3, .int x3)] [] (by rfl) (fun c => ?_) (fun c => ?_)
        ·
          have c8 : (ig5 3138).toInt < (20 : Int32).toInt := kd_lt c; clear c
          refine ft_go mi_k91 5 58 [(4, .int vg5), (0, .ref 0), (1, .int x1), (2, .int x2), (3, .int x3)] [.int x2, .ref 1, .ref 49] ig5 ag5 qg5 rg5 (by rfl) ?_
          refine ko_callI mi_k91.1 (pc := 58) (ls := [(4, .int vg5), (0, .ref 0), (1, .int x1), (2, .int x2), (3, .int x3)]) (st := [.int x2, .ref 1, .ref 49]) (h := ks ig5 ag5 qg5 rg5) (i := (.invokevirtual 174, 3, 66, 0, 9, 0, 236)) (mi_k91.2 _ _ (by rfl)) (ft_invS mi_pq66 (by rfl)) (cy := mi_c66) mi_pq66 rfl (kc66_49_1 hGg5.I hGg5.R x2) (by decide) ?_
          intro vg9 ig9 ag9 qg9 rg9 kg9 hg9
          have hGg9 := kG_call hGg5 kg9 (by decide +kernel)
          refine ft_go mi_k91 2 64 [(5, .int vg9), (4, .int vg5), (0, .ref 0), (1, .int x1), (2, .int x2), (3, .int x3)] [.int x3] ig9 ag9 qg9 rg9 (by rfl) ?_
          refine ft_if mi_k91 (x3 != 0) 72 67 [(5, .int vg9), (4, .int vg5), (0, .ref 0), (1, .int x1), (2, .int x2), (3, .int x3)] [] (by rfl) (fun c => ?_) (fun c => ?_)
          ·
            have c10 : x3.toInt ≠ (0 : Int32).toInt := kd_ne c; clear c
            refine ft_go mi_k91 3 79 [(5, .int vg9), (4, .int vg5), (0, .ref 0), (1, .int x1), (2, .int x2), (3, .int x3)] [.int (ig9 3142)] ig9 ag9 qg9 rg9 (by rfl) ?_
            exact ft_ret mi_k91 (by rfl) (hP (ig9 3142) _ _ _ _ hGg9 trivial)
          ·
            have c11 : x3.toInt = (0 : Int32).toInt := kd_neF c; clear c
            refine ft_go mi_k91 2 79 [(5, .int vg9), (4, .int vg5), (0, .ref 0), (1, .int x1), (2, .int x2), (3, .int x3)] [.int vg9] ig9 ag9 qg9 rg9 (by rfl) ?_
            exact ft_ret mi_k91 (by rfl) (hP vg9 _ _ _ _ hGg9 trivial)
        ·
          have c12 : (20 : Int32).toInt ≤ (ig5 3138).toInt := kd_ltF c; clear c
          refine ft_go mi_k91 1 48 [(4, .int vg5), (0, .ref 0), (1, .int x1), (2, .int x2), (3, .int x3)] [.int (-5)] ig5 ag5 qg5 rg5 (by rfl) ?_
          exact ft_ret mi_k91 (by rfl) (hP (-5) _ _ _ _ hGg5 trivial)
      ·
        have c13 : vg5.toInt < (0 : Int32).toInt := kd_leF c; clear c
        refine ft_go mi_k91 1 33 [(4, .int vg5), (0, .ref 0), (1, .int x1), (2, .int x2), (3, .int x3)] [.int vg5] ig5 ag5 qg5 rg5 (by rfl) ?_
        exact ft_ret mi_k91 (by rfl) (hP vg5 _ _ _ _ hGg5 trivial)
    ·
      subst eg3
      have z14 : ¬ (((0 : Int32).toInt ≤ x3.toInt) ∧ (x3.toInt ≤ (1 : Int32).toInt)) := hg3
      refine ft_go mi_k91 2 18 [(0, .ref 0), (1, .int x1), (2, .int x2), (3, .int x3)] [.int (-1)] i a q r (by rfl) ?_
      exact ft_ret mi_k91 (by rfl) (hP (-1) _ _ _ _ hG trivial)
  ·
    subst eg1
    have fi_64 : ((0 : Int) ≤ (i 64).toInt) ∧ ((i 64).toInt ≤ 8) := hG.I.1 64
    have z15 : ¬ (((0 : Int) ≤ x2.toInt) ∧ (x2.toInt < (i 64).toInt)) := hg1
    refine ft_go mi_k91 2 18 [(0, .ref 0), (1, .int x1), (2, .int x2), (3, .int x3)] [.int (-1)] i a q r (by rfl) ?_
    exact ft_ret mi_k91 (by rfl) (hP (-1) _ _ _ _ hG trivial)
def w67_49_1 : kW := ([645, 3138, 3142, 3200, 3206, 3207, 3208, 3209, 3214, 3215, 3216, 3586, 3781, 6405], [13, 51, 52, 53, 54, 55, 57, 58, 62, 63, 65, 66, 67, 68, 69, 70, 71, 72, 73, 74, 103], [], [1])
def w67_49_1_L17 : kW := ([645, 3142, 3200, 3206, 3207, 3208, 3209, 3214, 3215, 3216, 3586, 3781, 6405], [13, 51, 52, 53, 54, 55, 57, 58, 62, 63, 65, 66, 67, 68, 69, 70, 71, 72, 73, 74, 103], [], [1])
set_option maxRecDepth 100000 in
theorem kc67_49_1 {i : Nat → Int32} {a : Nat → List Int32} {q : Nat → List Int64} {r : Nat → Nat} (hI : kI i a q) (hr : kr r) (x2 : Int32) (x3 : Int32) (hp0 : ((0 : Int) ≤ x2.toInt) ∧ (x2.toInt ≤ 19)) : km 11 67 [.ref 49, .ref 1, .int x2, .int x3] (ks i a q r) (kVI w67_49_1 i a q r (fun v i1 a1 q1 r1 => True)) := by
  have hG := kG_self w67_49_1 hI hr
  refine km_ofI (q := (mi_h67, mi_c67)) rfl (by decide) (Nat.le_of_ble_eq_true rfl) ?_
  intro P hP
  have hJ1 := kG_i hG 3142 rfl (v := (-1)) (kd_bd _)
  refine ft_go mi_k67 8 11 [(4, .int 0), (0, .ref 49), (1, .ref 1), (2, .int x2), (3, .int x3)] [.int 0, .int x2, .ref 49] (ku i 3142 (-1)) a q r (by rfl) ?_
  refine ko_callN mi_k67.1 (pc := 11) (ls := [(4, .int 0), (0, .ref 49), (1, .ref 1), (2, .int x2), (3, .int x3)]) (st := [.int 0, .int x2, .ref 49]) (h := ks (ku i 3142 (-1)) a q r) (i := (.invokevirtual 95, 3, 65, 0, 9, 0, 237)) (mi_k67.2 _ _ (by rfl)) (ft_invS mi_pq65 (by rfl)) (cy := mi_c65) mi_pq65 rfl (kc65_49 hJ1.I hJ1.R x2 0) (by decide) ?_
  intro ig2 ag2 qg2 rg2 kg2 hg2
  have hGg2 := kG_call hJ1 kg2 (by decide +kernel)
  refine ft_go mi_k67 2 17 [(5, .int 0), (4, .int 0), (0, .ref 49), (1, .ref 1), (2, .int x2), (3, .int x3)] [] ig2 ag2 qg2 rg2 (by rfl) ?_
  have lp3 : ∀ (nz : Nat) (i3 : Nat → Int32) (a3 : Nat → List Int32) (q3 : Nat → List Int64) (r3 : Nat → Nat) (l5_3 : Int32) (l4_3 : Int32), kG w67_49_1_L17 ig2 ag2 qg2 rg2 i3 a3 q3 r3 → (0 : Int) ≤ l5_3.toInt → (((i3 64).toInt - l5_3.toInt)).toNat < nz → ko 11 (mi_h67, mi_c67) P (17, [(5, .int l5_3), (4, .int l4_3), (0, .ref 49), (1, .ref 1), (2, .int x2), (3, .int x3)], [], (0, 0), ks i3 a3 q3 r3) := by
    intro nz
    induction nz with
    | zero =>
      intro _ _ _ _ _ _ _ _ hm
      exact absurd hm (Nat.not_lt_zero _)
    | succ nz ih3 =>
      intro i3 a3 q3 r3 l5_3 l4_3 hL3 p3_0 hm3
      have fi3_64 : ((0 : Int) ≤ (i3 64).toInt) ∧ ((i3 64).toInt ≤ 8) := hL3.I.1 64
      have fig2_64 : ((0 : Int) ≤ (ig2 64).toInt) ∧ ((ig2 64).toInt ≤ 8) := hGg2.I.1 64
      have fi_64 : ((0 : Int) ≤ (i 64).toInt) ∧ ((i 64).toInt ≤ 8) := hJ1.I.1 64
      have efig2_64 : (ig2 64).toInt = (i 64).toInt := kg2.ti 64 rfl
      have efi3_64 : (i3 64).toInt = (ig2 64).toInt := hL3.ti 64 rfl
      refine ft_go mi_k67 3 23 [(5, .int l5_3), (4, .int l4_3), (0, .ref 49), (1, .ref 1), (2, .int x2), (3, .int x3)] [.int (i3 64), .int l5_3] i3 a3 q3 r3 (by rfl) ?_
      refine ft_if mi_k67 (decide ((i3 64) ≤ l5_3)) 67 26 [(5, .int l5_3), (4, .int l4_3), (0, .ref 49), (1, .ref 1), (2, .int x2), (3, .int x3)] [] (by rfl) (fun c => ?_) (fun c => ?_)
      ·
        have c4 : (i3 64).toInt ≤ l5_3.toInt := kd_le c; clear c
        have hG5 := kG_call hGg2 hL3 (by decide +kernel)
        refine ft_go mi_k67 1 69 [(5, .int l5_3), (4, .int l4_3), (0, .ref 49), (1, .ref 1), (2, .int x2), (3, .int x3)] [.int l4_3] i3 a3 q3 r3 (by rfl) ?_
        exact ft_ret mi_k67 (by rfl) (hP l4_3 _ _ _ _ hG5 trivial)
      ·
        have c6 : l5_3.toInt < (i3 64).toInt := kd_leF c; clear c
        refine ft_go mi_k67 4 33 [(5, .int l5_3), (4, .int l4_3), (0, .ref 49), (1, .ref 1), (2, .int x2), (3, .int x3)] [.int l5_3, .int x2, .ref 74] i3 a3 q3 r3 (by rfl) ?_
        refine ko_iast3 mi_k67.1 (n := 20) (c := 20) (ax := (0, 0, 0, 0, 0)) (mi_k67.2 _ _ (by rfl)) (by rfl) (ksG74 _ _ _ _) (ksA74 _ _ _ _) (hL3.I.2.1 74) rfl (oz3 hp0.1) (oz1065 hp0.2) ?_
        intro a7 ea7 fa7
        have hJ7 := kG_a3 hL3 74 rfl ea7 fa7 (kd_bd _)
        refine ft_go mi_k67 3 37 [(5, .int l5_3), (4, .int l4_3), (0, .ref 49), (1, .ref 1), (2, .int x2), (3, .int x3)] [.int x3, .ref 1, .ref 49] i3 a7 q3 r3 (by rfl) ?_
        refine ko_callI mi_k67.1 (pc := 37) (ls := [(5, .int l5_3), (4, .int l4_3), (0, .ref 49), (1, .ref 1), (2, .int x2), (3, .int x3)]) (st := [.int x3, .ref 1, .ref 49]) (h := ks i3 a7 q3 r3) (i := (.invokevirtual 99, 3, 63, 0, 9, 0, 239)) (mi_k67.2 _ _ (by rfl)) (ft_invS mi_pq63 (by rfl)) (cy := mi_c63) mi_pq63 rfl (kc63_49_1 hJ7.I hJ7.R x3) (by decide) ?_
        intro vg8 ig8 ag8 qg8 rg8 kg8 hg8
        have hGg8 := kG_call hJ7 kg8 (by decide +kernel)
        have efig8_3142 : (ig8 3142).toInt = (i3 3142).toInt := kg8.ti 3142 rfl
        refine ft_go mi_k67 4 48 [(6, .int vg8), (5, .int l5_3), (4, .int l4_3), (0, .ref 49), (1, .ref 1), (2, .int x2), (3, .int x3)] [.int (ig8 3142), .int vg8] ig8 ag8 qg8 rg8 (by rfl) ?_
        refine ft_if mi_k67 (decide (vg8 ≤ (ig8 3142))) 61 51 [(6, .int vg8), (5, .int l5_3), (4, .int l4_3), (0, .ref 49), (1, .ref 1), (2, .int x2), (3, .int x3)] [] (by rfl) (fun c => ?_) (fun c => ?_)
        ·
          have c9 : vg8.toInt ≤ (ig8 3142).toInt := kd_le c; clear c
          have s10 : (l5_3 + 1).toInt = l5_3.toInt + (1 : Int32).toInt := kd_add (oz12 p3_0 kn1) (oz442 c6 fi3_64.2 kn1)
          refine ft_go mi_k67 2 17 [(5, .int (l5_3 + 1)), (6, .int vg8), (4, .int l4_3), (0, .ref 49), (1, .ref 1), (2, .int x2), (3, .int x3)] [] ig8 ag8 qg8 rg8 (by rfl) ?_
          refine ko_perm [(5, .int (l5_3 + 1)), (4, .int l4_3), (0, .ref 49), (1, .ref 1), (2, .int x2), (3, .int x3)] (List.forall_mem_cons.mpr ⟨(List.Mem.head _), (List.forall_mem_cons.mpr ⟨(List.Mem.tail _ (List.Mem.tail _ (List.Mem.head _))), (List.forall_mem_cons.mpr ⟨(List.Mem.tail _ (List.Mem.tail _ (List.Mem.tail _ (List.Mem.head _)))), (List.forall_mem_cons.mpr ⟨(List.Mem.tail _ (List.Mem.tail _ (List.Mem.tail _ (List.Mem.tail _ (List.Mem.head _))))), (List.forall_mem_cons.mpr ⟨(List.Mem.tail _ (List.Mem.tail _ (List.Mem.tail _ (List.Mem.tail _ (List.Mem.tail _ (List.Mem.head _)))))), (List.forall_mem_cons.mpr ⟨(List.Mem.tail _ (List.Mem.tail _ (List.Mem.tail _ (List.Mem.tail _ (List.Mem.tail _ (List.Mem.tail _ (List.Mem.head _))))))), (fun _ h => absurd h List.not_mem_nil)⟩)⟩)⟩)⟩)⟩)⟩) ?_
          have fig8_64 : ((0 : Int) ≤ (ig8 64).toInt) ∧ ((ig8 64).toInt ≤ 8) := hGg8.I.1 64
          have efig8_64 : (ig8 64).toInt = (i3 64).toInt := kg8.ti 64 rfl
          exact ih3 _ _ _ _ _ _ hGg8 (oz14 p3_0 s10 kn1) (kj_meas (oz308 efig8_64 s10 kn1) (oz45 c6) hm3)
        ·
          have c11 : (ig8 3142).toInt < vg8.toInt := kd_leF c; clear c
          have hJ12 := kG_i hGg8 3142 rfl (v := vg8) (kd_bd _)
          have s13 : (l5_3 + 1).toInt = l5_3.toInt + (1 : Int32).toInt := kd_add (oz12 p3_0 kn1) (oz442 c6 fi3_64.2 kn1)
          refine ft_go mi_k67 7 17 [(5, .int (l5_3 + 1)), (4, .int l5_3), (6, .int vg8), (0, .ref 49), (1, .ref 1), (2, .int x2), (3, .int x3)] [] (ku ig8 3142 vg8) ag8 qg8 rg8 (by rfl) ?_
          refine ko_perm [(5, .int (l5_3 + 1)), (4, .int l5_3), (0, .ref 49), (1, .ref 1), (2, .int x2), (3, .int x3)] (List.forall_mem_cons.mpr ⟨(List.Mem.head _), (List.forall_mem_cons.mpr ⟨(List.Mem.tail _ (List.Mem.head _)), (List.forall_mem_cons.mpr ⟨(List.Mem.tail _ (List.Mem.tail _ (List.Mem.tail _ (List.Mem.head _)))), (List.forall_mem_cons.mpr ⟨(List.Mem.tail _ (List.Mem.tail _ (List.Mem.tail _ (List.Mem.tail _ (List.Mem.head _))))), (List.forall_mem_cons.mpr ⟨(List.Mem.tail _ (List.Mem.tail _ (List.Mem.tail _ (List.Mem.tail _ (List.Mem.tail _ (List.Mem.head _)))))), (List.forall_mem_cons.mpr ⟨(List.Mem.tail _ (List.Mem.tail _ (List.Mem.tail _ (List.Mem.tail _ (List.Mem.tail _ (List.Mem.tail _ (List.Mem.head _))))))), (fun _ h => absurd h List.not_mem_nil)⟩)⟩)⟩)⟩)⟩)⟩) ?_
          have fig8_64 : ((0 : Int) ≤ (ig8 64).toInt) ∧ ((ig8 64).toInt ≤ 8) := hJ12.I.1 64
          have efig8_64 : (ig8 64).toInt = (i3 64).toInt := kg8.ti 64 rfl
          exact ih3 _ _ _ _ _ _ hJ12 (oz14 p3_0 s13 kn1) (kj_meas (oz308 efig8_64 s13 kn1) (oz45 c6) hm3)
  exact lp3 _ _ _ _ _ _ _ (kG_self _ hGg2.I hGg2.R) (oz46 kn0) (Nat.lt_succ_self _)
def w92_0 : kW := ([645, 3138, 3142, 3200, 3206, 3207, 3208, 3209, 3214, 3215, 3216, 3586, 3781, 6405], [13, 51, 52, 53, 54, 55, 57, 58, 62, 63, 65, 66, 67, 68, 69, 70, 71, 72, 73, 74, 103], [], [1])
set_option maxRecDepth 100000 in
theorem kc92_0 {i : Nat → Int32} {a : Nat → List Int32} {q : Nat → List Int64} {r : Nat → Nat} (hI : kI i a q) (hr : kr r) (x1 : Int32) (x2 : Int32) (x3 : Int32) (x4 : Int32) : km 13 92 [.ref 0, .int x1, .int x2, .int x3, .int x4] (ks i a q r) (kVI w92_0 i a q r (fun v i1 a1 q1 r1 => True)) := by
  have hG := kG_self w92_0 hI hr
  refine km_ofI (q := (mi_h92, mi_c92)) rfl (by decide) (Nat.le_of_ble_eq_true rfl) ?_
  intro P hP
  refine ft_go mi_k92 1 1 [(0, .ref 0), (1, .int x1), (2, .int x2), (3, .int x3), (4, .int x4)] [.int x2] i a q r (by rfl) ?_
  refine ft_if mi_k92 (decide (x2 < 0)) 22 4 [(0, .ref 0), (1, .int x1), (2, .int x2), (3, .int x3), (4, .int x4)] [] (by rfl) (fun c => ?_) (fun c => ?_)
  ·
    have c1 : x2.toInt < (0 : Int32).toInt := kd_lt c; clear c
    refine ft_go mi_k92 1 23 [(0, .ref 0), (1, .int x1), (2, .int x2), (3, .int x3), (4, .int x4)] [.int (-1)] i a q r (by rfl) ?_
    exact ft_ret mi_k92 (by rfl) (hP (-1) _ _ _ _ hG trivial)
  ·
    have c2 : (0 : Int32).toInt ≤ x2.toInt := kd_ltF c; clear c
    refine ft_go mi_k92 2 6 [(0, .ref 0), (1, .int x1), (2, .int x2), (3, .int x3), (4, .int x4)] [.int x3, .ref 0] i a q r (by rfl) ?_
    refine ko_callPI mi_k92.1 (pc := 6) (ls := [(0, .ref 0), (1, .int x1), (2, .int x2), (3, .int x3), (4, .int x4)]) (st := [.int x3, .ref 0]) (h := ks i a q r) (i := (.invokevirtual 141, 3, 123, 0, 9, 0, 162)) (mi_k92.2 _ _ (by rfl)) (ft_invS mi_pq123 (by rfl)) (cy := mi_c123) mi_pq123 rfl (kc123_0 hG.I hG.R x3) (by decide) ?_
    intro vg3 hg3
    rcases hg3 with ⟨eg3, hg3⟩ | ⟨eg3, hg3⟩
    ·
      subst eg3
      have fi_64 : ((0 : Int) ≤ (i 64).toInt) ∧ ((i 64).toInt ≤ 8) := hG.I.1 64
      have z4 : ((0 : Int) ≤ x3.toInt) ∧ (x3.toInt < (i 64).toInt) := hg3
      refine ft_go mi_k92 4 16 [(0, .ref 0), (1, .int x1), (2, .int x2), (3, .int x3), (4, .int x4)] [.int 1, .int 0, .int x4] i a q r (by rfl) ?_
      refine ko_callPI mi_k92.1 (pc := 16) (ls := [(0, .ref 0), (1, .int x1), (2, .int x2), (3, .int x3), (4, .int x4)]) (st := [.int 1, .int 0, .int x4]) (h := ks i a q r) (i := (.invokestatic 74, 3, 120, 0, 9, 0, 152)) (mi_k92.2 _ _ (by rfl)) (ft_invS mi_pq120 (by rfl)) (cy := mi_c120) mi_pq120 rfl (kc120 hG.I hG.R x4 0 1) (by decide) ?_
      intro vg5 hg5
      rcases hg5 with ⟨eg5, hg5⟩ | ⟨eg5, hg5⟩
      ·
        subst eg5
        have z6 : ((0 : Int32).toInt ≤ x4.toInt) ∧ (x4.toInt ≤ (1 : Int32).toInt) := hg5
        refine ft_go mi_k92 3 26 [(0, .ref 0), (1, .int x1), (2, .int x2), (3, .int x3), (4, .int x4)] [.int x1, .ref 0] i a q r (by rfl) ?_
        refine ko_callI mi_k92.1 (pc := 26) (ls := [(0, .ref 0), (1, .int x1), (2, .int x2), (3, .int x3), (4, .int x4)]) (st := [.int x1, .ref 0]) (h := ks i a q r) (i := (.invokevirtual 144, 3, 129, 0, 9, 0, 208)) (mi_k92.2 _ _ (by rfl)) (ft_invS mi_pq129 (by rfl)) (cy := mi_c129) mi_pq129 rfl (kc129_0 hG.I hG.R x1) (by decide) ?_
        intro vg7 ig7 ag7 qg7 rg7 kg7 hg7
        have hGg7 := kG_call hG kg7 (by decide +kernel)
        have z8 : (vg7.toInt < 0) ∨ (vg7.toInt = 0) := hg7
        refine ft_go mi_k92 2 33 [(5, .int vg7), (0, .ref 0), (1, .int x1), (2, .int x2), (3, .int x3), (4, .int x4)] [.int vg7] ig7 ag7 qg7 rg7 (by rfl) ?_
        refine ft_if mi_k92 (decide (0 ≤ vg7)) 39 36 [(5, .int vg7), (0, .ref 0), (1, .int x1), (2, .int x2), (3, .int x3), (4, .int x4)] [] (by rfl) (fun c => ?_) (fun c => ?_)
        ·
          have c9 : (0 : Int32).toInt ≤ vg7.toInt := kd_le c; clear c
          have fig7_3138 : ((0 : Int) ≤ (ig7 3138).toInt) ∧ ((ig7 3138).toInt ≤ 20) := hGg7.I.1 3138
          refine ft_go mi_k92 4 47 [(5, .int vg7), (0, .ref 0), (1, .int x1), (2, .int x2), (3, .int x3), (4, .int x4)] [.int (ig7 3138), .int x2] ig7 ag7 qg7 rg7 (by rfl) ?_
          refine ft_if mi_k92 (decide (x2 ≤ (ig7 3138))) 52 50 [(5, .int vg7), (0, .ref 0), (1, .int x1), (2, .int x2), (3, .int x3), (4, .int x4)] [] (by rfl) (fun c => ?_) (fun c => ?_)
          ·
            have c10 : x2.toInt ≤ (ig7 3138).toInt := kd_le c; clear c
            refine ft_go mi_k92 4 61 [(5, .int vg7), (0, .ref 0), (1, .int x1), (2, .int x2), (3, .int x3), (4, .int x4)] [.int 20, .int (ig7 3138)] ig7 ag7 qg7 rg7 (by rfl) ?_
            refine ft_if mi_k92 (decide ((ig7 3138) < 20)) 67 64 [(5, .int vg7), (0, .ref 0), (1, .int x1), (2, .int x2), (3, .int x3), (4, .int x4)] [] (by rfl) (fun c => ?_) (fun c => ?_)
            ·
              have c11 : (ig7 3138).toInt < (20 : Int32).toInt := kd_lt c; clear c
              refine ft_go mi_k92 6 77 [(5, .int vg7), (0, .ref 0), (1, .int x1), (2, .int x2), (3, .int x3), (4, .int x4)] [.int x3, .int x2, .ref 1, .ref 49] ig7 ag7 qg7 rg7 (by rfl) ?_
              refine ko_callI mi_k92.1 (pc := 77) (ls := [(5, .int vg7), (0, .ref 0), (1, .int x1), (2, .int x2), (3, .int x3), (4, .int x4)]) (st := [.int x3, .int x2, .ref 1, .ref 49]) (h := ks ig7 ag7 qg7 rg7) (i := (.invokevirtual 181, 3, 67, 0, 9, 0, 243)) (mi_k92.2 _ _ (by rfl)) (ft_invS mi_pq67 (by rfl)) (cy := mi_c67) mi_pq67 rfl (kc67_49_1 hGg7.I hGg7.R x2 x3 (oz1069 c10 c11 c2 kn20 kn0)) (by decide) ?_
              intro vg12 ig12 ag12 qg12 rg12 kg12 hg12
              have hGg12 := kG_call hGg7 kg12 (by decide +kernel)
              refine ft_go mi_k92 2 84 [(6, .int vg12), (5, .int vg7), (0, .ref 0), (1, .int x1), (2, .int x2), (3, .int x3), (4, .int x4)] [.int x4] ig12 ag12 qg12 rg12 (by rfl) ?_
              refine ft_if mi_k92 (x4 != 0) 92 87 [(6, .int vg12), (5, .int vg7), (0, .ref 0), (1, .int x1), (2, .int x2), (3, .int x3), (4, .int x4)] [] (by rfl) (fun c => ?_) (fun c => ?_)
              ·
                have c13 : x4.toInt ≠ (0 : Int32).toInt := kd_ne c; clear c
                refine ft_go mi_k92 3 99 [(6, .int vg12), (5, .int vg7), (0, .ref 0), (1, .int x1), (2, .int x2), (3, .int x3), (4, .int x4)] [.int (ig12 3142)] ig12 ag12 qg12 rg12 (by rfl) ?_
                exact ft_ret mi_k92 (by rfl) (hP (ig12 3142) _ _ _ _ hGg12 trivial)
              ·
                have c14 : x4.toInt = (0 : Int32).toInt := kd_neF c; clear c
                refine ft_go mi_k92 2 99 [(6, .int vg12), (5, .int vg7), (0, .ref 0), (1, .int x1), (2, .int x2), (3, .int x3), (4, .int x4)] [.int vg12] ig12 ag12 qg12 rg12 (by rfl) ?_
                exact ft_ret mi_k92 (by rfl) (hP vg12 _ _ _ _ hGg12 trivial)
            ·
              have c15 : (20 : Int32).toInt ≤ (ig7 3138).toInt := kd_ltF c; clear c
              refine ft_go mi_k92 1 66 [(5, .int vg7), (0, .ref 0), (1, .int x1), (2, .int x2), (3, .int x3), (4, .int x4)] [.int (-5)] ig7 ag7 qg7 rg7 (by rfl) ?_
              exact ft_ret mi_k92 (by rfl) (hP (-5) _ _ _ _ hGg7 trivial)
          ·
            have c16 : (ig7 3138).toInt < x2.toInt := kd_leF c; clear c
            refine ft_go mi_k92 1 51 [(5, .int vg7), (0, .ref 0), (1, .int x1), (2, .int x2), (3, .int x3), (4, .int x4)] [.int (-1)] ig7 ag7 qg7 rg7 (by rfl) ?_
            exact ft_ret mi_k92 (by rfl) (hP (-1) _ _ _ _ hGg7 trivial)
        ·
          have c17 : vg7.toInt < (0 : Int32).toInt := kd_leF c; clear c
          refine ft_go mi_k92 1 38 [(5, .int vg7), (0, .ref 0), (1, .int x1), (2, .int x2), (3, .int x3), (4, .int x4)] [.int vg7] ig7 ag7 qg7 rg7 (by rfl) ?_
          exact ft_ret mi_k92 (by rfl) (hP vg7 _ _ _ _ hGg7 trivial)
      ·
        subst eg5
        have z18 : ¬ (((0 : Int32).toInt ≤ x4.toInt) ∧ (x4.toInt ≤ (1 : Int32).toInt)) := hg5
        refine ft_go mi_k92 2 23 [(0, .ref 0), (1, .int x1), (2, .int x2), (3, .int x3), (4, .int x4)] [.int (-1)] i a q r (by rfl) ?_
        exact ft_ret mi_k92 (by rfl) (hP (-1) _ _ _ _ hG trivial)
    ·
      subst eg3
      have fi_64 : ((0 : Int) ≤ (i 64).toInt) ∧ ((i 64).toInt ≤ 8) := hG.I.1 64
      have z19 : ¬ (((0 : Int) ≤ x3.toInt) ∧ (x3.toInt < (i 64).toInt)) := hg3
      refine ft_go mi_k92 2 23 [(0, .ref 0), (1, .int x1), (2, .int x2), (3, .int x3), (4, .int x4)] [.int (-1)] i a q r (by rfl) ?_
      exact ft_ret mi_k92 (by rfl) (hP (-1) _ _ _ _ hG trivial)
def w68_49_1 : kW := ([645, 3142, 3200, 3206, 3207, 3208, 3209, 3214, 3215, 3216, 3586, 3781, 6405], [13, 51, 52, 53, 54, 55, 57, 58, 62, 63, 65, 66, 67, 68, 69, 70, 71, 72, 73, 74, 103], [], [1])
def w68_49_1_L16 : kW := ([645, 3142, 3200, 3206, 3207, 3208, 3209, 3214, 3215, 3216, 3586, 3781, 6405], [13, 51, 52, 53, 54, 55, 57, 58, 62, 63, 65, 66, 67, 68, 69, 70, 71, 72, 73, 74, 103], [], [1])
set_option maxRecDepth 100000 in
theorem kc68_49_1 {i : Nat → Int32} {a : Nat → List Int32} {q : Nat → List Int64} {r : Nat → Nat} (hI : kI i a q) (hr : kr r) (x2 : Int32) : km 11 68 [.ref 49, .ref 1, .int x2] (ks i a q r) (kVI w68_49_1 i a q r (fun v i1 a1 q1 r1 => True)) := by
  have hG := kG_self w68_49_1 hI hr
  refine km_ofI (q := (mi_h68, mi_c68)) rfl (by decide) (Nat.le_of_ble_eq_true rfl) ?_
  intro P hP
  refine ft_go mi_k68 6 7 [(3, .int (-2)), (0, .ref 49), (1, .ref 1), (2, .int x2)] [.int x2, .ref 1, .ref 49, .ref 49] i a q r (by rfl) ?_
  refine ko_callI mi_k68.1 (pc := 7) (ls := [(3, .int (-2)), (0, .ref 49), (1, .ref 1), (2, .int x2)]) (st := [.int x2, .ref 1, .ref 49, .ref 49]) (h := ks i a q r) (i := (.invokevirtual 99, 3, 63, 0, 9, 0, 239)) (mi_k68.2 _ _ (by rfl)) (ft_invS mi_pq63 (by rfl)) (cy := mi_c63) mi_pq63 rfl (kc63_49_1 hG.I hG.R x2) (by decide) ?_
  intro vg1 ig1 ag1 qg1 rg1 kg1 hg1
  have hGg1 := kG_call hG kg1 (by decide +kernel)
  have hJ2 := kG_i hGg1 3142 rfl (v := vg1) (kd_bd _)
  refine ft_go mi_k68 3 16 [(4, .int 0), (3, .int (-2)), (0, .ref 49), (1, .ref 1), (2, .int x2)] [] (ku ig1 3142 vg1) ag1 qg1 rg1 (by rfl) ?_
  have lp3 : ∀ (nz : Nat) (i3 : Nat → Int32) (a3 : Nat → List Int32) (q3 : Nat → List Int64) (r3 : Nat → Nat) (l4_3 : Int32) (l3_3 : Int32), kG w68_49_1_L16 (ku ig1 3142 vg1) ag1 qg1 rg1 i3 a3 q3 r3 → ((0 : Int) ≤ l4_3.toInt) ∧ (l4_3.toInt ≤ 20) → (((i3 3138).toInt - l4_3.toInt)).toNat < nz → ko 11 (mi_h68, mi_c68) P (16, [(4, .int l4_3), (3, .int l3_3), (0, .ref 49), (1, .ref 1), (2, .int x2)], [], (0, 0), ks i3 a3 q3 r3) := by
    intro nz
    induction nz with
    | zero =>
      intro _ _ _ _ _ _ _ _ hm
      exact absurd hm (Nat.not_lt_zero _)
    | succ nz ih3 =>
      intro i3 a3 q3 r3 l4_3 l3_3 hL3 p3_0 hm3
      have fi3_3138 : ((0 : Int) ≤ (i3 3138).toInt) ∧ ((i3 3138).toInt ≤ 20) := hL3.I.1 3138
      have fig1_3138 : ((0 : Int) ≤ (ig1 3138).toInt) ∧ ((ig1 3138).toInt ≤ 20) := hJ2.I.1 3138
      have fi_3138 : ((0 : Int) ≤ (i 3138).toInt) ∧ ((i 3138).toInt ≤ 20) := hG.I.1 3138
      have efig1_3138 : (ig1 3138).toInt = (i 3138).toInt := kg1.ti 3138 rfl
      have efi3_3138 : (i3 3138).toInt = (ig1 3138).toInt := hL3.ti 3138 rfl
      have s4 : (l4_3 + 1).toInt = l4_3.toInt + (1 : Int32).toInt := kd_add (oz12 p3_0.1 kn1) (oz448 p3_0.2 kn1)
      refine ft_go mi_k68 5 24 [(4, .int l4_3), (3, .int l3_3), (0, .ref 49), (1, .ref 1), (2, .int x2)] [.int (i3 3138), .int (l4_3 + 1)] i3 a3 q3 r3 (by rfl) ?_
      refine ft_if mi_k68 (decide ((i3 3138) ≤ (l4_3 + 1))) 79 27 [(4, .int l4_3), (3, .int l3_3), (0, .ref 49), (1, .ref 1), (2, .int x2)] [] (by rfl) (fun c => ?_) (fun c => ?_)
      ·
        have c5 : (i3 3138).toInt ≤ (l4_3 + 1).toInt := kd_le c; clear c
        have hG6 := kG_call hJ2 hL3 (by decide +kernel)
        refine ft_go mi_k68 1 80 [(4, .int l4_3), (3, .int l3_3), (0, .ref 49), (1, .ref 1), (2, .int x2)] [.int l3_3] i3 a3 q3 r3 (by rfl) ?_
        exact ft_ret mi_k68 (by rfl) (hP l3_3 _ _ _ _ hG6 trivial)
      ·
        have c7 : (l4_3 + 1).toInt < (i3 3138).toInt := kd_leF c; clear c
        refine ft_go mi_k68 5 34 [(4, .int l4_3), (3, .int l3_3), (0, .ref 49), (1, .ref 1), (2, .int x2)] [.int (l4_3 + 1), .int l4_3, .ref 49] i3 a3 q3 r3 (by rfl) ?_
        refine ko_callN mi_k68.1 (pc := 34) (ls := [(4, .int l4_3), (3, .int l3_3), (0, .ref 49), (1, .ref 1), (2, .int x2)]) (st := [.int (l4_3 + 1), .int l4_3, .ref 49]) (h := ks i3 a3 q3 r3) (i := (.invokevirtual 103, 3, 64, 0, 9, 0, 241)) (mi_k68.2 _ _ (by rfl)) (ft_invS mi_pq64 (by rfl)) (cy := mi_c64) mi_pq64 rfl (kc64_49 hL3.I hL3.R l4_3 (l4_3 + 1) (oz1070 c7 fi3_3138.2 p3_0.1 s4 kn1) (oz1067 c7 fi3_3138.2 p3_0.1 s4 kn1)) (by decide) ?_
        intro ig8 ag8 qg8 rg8 kg8 hg8
        have hGg8 := kG_call hL3 kg8 (by decide +kernel)
        refine ft_go mi_k68 3 40 [(4, .int l4_3), (3, .int l3_3), (0, .ref 49), (1, .ref 1), (2, .int x2)] [.int x2, .ref 1, .ref 49] ig8 ag8 qg8 rg8 (by rfl) ?_
        refine ko_callI mi_k68.1 (pc := 40) (ls := [(4, .int l4_3), (3, .int l3_3), (0, .ref 49), (1, .ref 1), (2, .int x2)]) (st := [.int x2, .ref 1, .ref 49]) (h := ks ig8 ag8 qg8 rg8) (i := (.invokevirtual 99, 3, 63, 0, 9, 0, 239)) (mi_k68.2 _ _ (by rfl)) (ft_invS mi_pq63 (by rfl)) (cy := mi_c63) mi_pq63 rfl (kc63_49_1 hGg8.I hGg8.R x2) (by decide) ?_
        intro vg9 ig9 ag9 qg9 rg9 kg9 hg9
        have hGg9 := kG_call hGg8 kg9 (by decide +kernel)
        refine ft_go mi_k68 6 52 [(5, .int vg9), (4, .int l4_3), (3, .int l3_3), (0, .ref 49), (1, .ref 1), (2, .int x2)] [.int (l4_3 + 1), .int l4_3, .ref 49] ig9 ag9 qg9 rg9 (by rfl) ?_
        refine ko_callN mi_k68.1 (pc := 52) (ls := [(5, .int vg9), (4, .int l4_3), (3, .int l3_3), (0, .ref 49), (1, .ref 1), (2, .int x2)]) (st := [.int (l4_3 + 1), .int l4_3, .ref 49]) (h := ks ig9 ag9 qg9 rg9) (i := (.invokevirtual 103, 3, 64, 0, 9, 0, 241)) (mi_k68.2 _ _ (by rfl)) (ft_invS mi_pq64 (by rfl)) (cy := mi_c64) mi_pq64 rfl (kc64_49 hGg9.I hGg9.R l4_3 (l4_3 + 1) (oz1070 c7 fi3_3138.2 p3_0.1 s4 kn1) (oz1067 c7 fi3_3138.2 p3_0.1 s4 kn1)) (by decide) ?_
        intro ig10 ag10 qg10 rg10 kg10 hg10
        have hGg10 := kG_call hGg9 kg10 (by decide +kernel)
        have efig8_3142 : (ig8 3142).toInt = (i3 3142).toInt := kg8.ti 3142 rfl
        have efig9_3142 : (ig9 3142).toInt = (ig8 3142).toInt := kg9.ti 3142 rfl
        have efig10_3142 : (ig10 3142).toInt = (ig9 3142).toInt := kg10.ti 3142 rfl
        refine ft_go mi_k68 3 61 [(5, .int vg9), (4, .int l4_3), (3, .int l3_3), (0, .ref 49), (1, .ref 1), (2, .int x2)] [.int (ig10 3142), .int vg9] ig10 ag10 qg10 rg10 (by rfl) ?_
        refine ft_if mi_k68 (decide (vg9 ≤ (ig10 3142))) 73 64 [(5, .int vg9), (4, .int l4_3), (3, .int l3_3), (0, .ref 49), (1, .ref 1), (2, .int x2)] [] (by rfl) (fun c => ?_) (fun c => ?_)
        ·
          have c11 : vg9.toInt ≤ (ig10 3142).toInt := kd_le c; clear c
          refine ft_go mi_k68 2 16 [(4, .int (l4_3 + 1)), (5, .int vg9), (3, .int l3_3), (0, .ref 49), (1, .ref 1), (2, .int x2)] [] ig10 ag10 qg10 rg10 (by rfl) ?_
          refine ko_perm [(4, .int (l4_3 + 1)), (3, .int l3_3), (0, .ref 49), (1, .ref 1), (2, .int x2)] (List.forall_mem_cons.mpr ⟨(List.Mem.head _), (List.forall_mem_cons.mpr ⟨(List.Mem.tail _ (List.Mem.tail _ (List.Mem.head _))), (List.forall_mem_cons.mpr ⟨(List.Mem.tail _ (List.Mem.tail _ (List.Mem.tail _ (List.Mem.head _)))), (List.forall_mem_cons.mpr ⟨(List.Mem.tail _ (List.Mem.tail _ (List.Mem.tail _ (List.Mem.tail _ (List.Mem.head _))))), (List.forall_mem_cons.mpr ⟨(List.Mem.tail _ (List.Mem.tail _ (List.Mem.tail _ (List.Mem.tail _ (List.Mem.tail _ (List.Mem.head _)))))), (fun _ h => absurd h List.not_mem_nil)⟩)⟩)⟩)⟩)⟩) ?_
          have fig10_3138 : ((0 : Int) ≤ (ig10 3138).toInt) ∧ ((ig10 3138).toInt ≤ 20) := hGg10.I.1 3138
          have fig9_3138 : ((0 : Int) ≤ (ig9 3138).toInt) ∧ ((ig9 3138).toInt ≤ 20) := hGg9.I.1 3138
          have fig8_3138 : ((0 : Int) ≤ (ig8 3138).toInt) ∧ ((ig8 3138).toInt ≤ 20) := hGg8.I.1 3138
          have efig8_3138 : (ig8 3138).toInt = (i3 3138).toInt := kg8.ti 3138 rfl
          have efig9_3138 : (ig9 3138).toInt = (ig8 3138).toInt := kg9.ti 3138 rfl
          have efig10_3138 : (ig10 3138).toInt = (ig9 3138).toInt := kg10.ti 3138 rfl
          exact ih3 _ _ _ _ _ _ hGg10 (oz1071 c7 fi3_3138.2 p3_0.1 s4 kn1) (kj_meas (oz933 efig10_3138 efig8_3138 efig9_3138 s4 kn1) (oz455 c7 s4 kn1) hm3)
        ·
          have c12 : (ig10 3142).toInt < vg9.toInt := kd_leF c; clear c
          have hJ13 := kG_i hGg10 3142 rfl (v := vg9) (kd_bd _)
          refine ft_go mi_k68 7 16 [(4, .int (l4_3 + 1)), (3, .int l4_3), (5, .int vg9), (0, .ref 49), (1, .ref 1), (2, .int x2)] [] (ku ig10 3142 vg9) ag10 qg10 rg10 (by rfl) ?_
          refine ko_perm [(4, .int (l4_3 + 1)), (3, .int l4_3), (0, .ref 49), (1, .ref 1), (2, .int x2)] (List.forall_mem_cons.mpr ⟨(List.Mem.head _), (List.forall_mem_cons.mpr ⟨(List.Mem.tail _ (List.Mem.head _)), (List.forall_mem_cons.mpr ⟨(List.Mem.tail _ (List.Mem.tail _ (List.Mem.tail _ (List.Mem.head _)))), (List.forall_mem_cons.mpr ⟨(List.Mem.tail _ (List.Mem.tail _ (List.Mem.tail _ (List.Mem.tail _ (List.Mem.head _))))), (List.forall_mem_cons.mpr ⟨(List.Mem.tail _ (List.Mem.tail _ (List.Mem.tail _ (List.Mem.tail _ (List.Mem.tail _ (List.Mem.head _)))))), (fun _ h => absurd h List.not_mem_nil)⟩)⟩)⟩)⟩)⟩) ?_
          have fig10_3138 : ((0 : Int) ≤ (ig10 3138).toInt) ∧ ((ig10 3138).toInt ≤ 20) := hJ13.I.1 3138
          have fig9_3138 : ((0 : Int) ≤ (ig9 3138).toInt) ∧ ((ig9 3138).toInt ≤ 20) := hGg9.I.1 3138
          have fig8_3138 : ((0 : Int) ≤ (ig8 3138).toInt) ∧ ((ig8 3138).toInt ≤ 20) := hGg8.I.1 3138
          have efig8_3138 : (ig8 3138).toInt = (i3 3138).toInt := kg8.ti 3138 rfl
          have efig9_3138 : (ig9 3138).toInt = (ig8 3138).toInt := kg9.ti 3138 rfl
          have efig10_3138 : (ig10 3138).toInt = (ig9 3138).toInt := kg10.ti 3138 rfl
          exact ih3 _ _ _ _ _ _ hJ13 (oz1071 c7 fi3_3138.2 p3_0.1 s4 kn1) (kj_meas (oz933 efig10_3138 efig8_3138 efig9_3138 s4 kn1) (oz455 c7 s4 kn1) hm3)
  exact lp3 _ _ _ _ _ _ _ (kG_self _ hJ2.I hJ2.R) (oz456 kn0) (Nat.lt_succ_self _)
def w93_0 : kW := ([645, 3138, 3142, 3200, 3206, 3207, 3208, 3209, 3214, 3215, 3216, 3586, 3781, 6405], [13, 51, 52, 53, 54, 55, 57, 58, 62, 63, 65, 66, 67, 68, 69, 70, 71, 72, 73, 74, 103], [], [1])
