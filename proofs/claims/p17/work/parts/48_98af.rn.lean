theorem kox0 : (0 : Int32).toInt = 0 := by decide
theorem kox1 : (1 : Int32).toInt = 1 := by decide
theorem kox20 : (20 : Int32).toInt = 20 := by decide
theorem ox0 {a0 a1 a2 : Int} (h0 : a0 ≤ a1) (h1 : a0 = a2) (h2 : a1 ≤ a2) : a1 = a2 := by omega
theorem ox1 {a0 a1 a2 a3 : Int} (h0 : a0 < a1) (h1 : a2 ≤ a0) (h2 : a1 = a3) (h3 : a3 ≤ 20) (h4 : a2 = 20) : False := by omega
theorem ox2 {a0 : Int} (h0 : (0 : Int) ≤ a0) : (0 : Int) ≤ a0 := oz3 h0
theorem ox3 {a0 a1 : Int} (h0 : a0 < a1) (h1 : a1 = 20) : a0 < 20 := oz1013 h0 h1
theorem ox4 {a0 a1 a2 : Int} (h0 : a0 < a1) (h1 : a1 = a2) : a0 < a2 := od20 h0 h1
theorem ox5 {a0 a1 : Int} (h0 : (0 : Int) ≤ a0) (h1 : a0 < a1) : ((0 : Int) ≤ a0) ∧ (a0 < a1) := oz967 h0 h1
theorem ox6 {a0 a1 : Int} (h0 : (0 : Int) ≤ a0) (h1 : a1 = 1) : (-2147483648 : Int) ≤ a0 + a1 := oz12 h0 h1
theorem ox7 {a0 a1 a2 : Int} (h0 : a0 < a1) (h1 : a1 = 20) (h2 : a2 = 1) : a0 + a2 ≤ 2147483647 := oz1014 h0 h1 h2
theorem ox8 {a0 a1 a2 : Int} (h0 : (0 : Int) ≤ a0) (h1 : a1 = a0 + a2) (h2 : a2 = 1) : (0 : Int) ≤ a1 := oz14 h0 h1 h2
theorem ox9 {a0 a1 a2 a3 a4 : Int} (h0 : a0 < a1) (h1 : a1 = a2) (h2 : a3 = a0 + a4) (h3 : a4 = 1) : a3 ≤ a2 := by omega
theorem ox10 {a0 a1 a2 : Int} (h0 : a0 = a1) (h1 : a2 = a0) : a2 = a1 := oz762 h0 h1
theorem ox11 {a0 a1 a2 : Int} (h0 : a0 = a1 + a2) (h1 : a2 = 1) : a0 = a1 + 1 := oz169 h0 h1
theorem ox12 {a0 a1 : Int} (h0 : a0 < a1) (h1 : a1 = 20) : a0 < ((20 : Nat) : Int) := by omega
theorem ox13 {a0 a1 a2 : Int} (h0 : a0 = a1 + a2) (h1 : a2 = 1) : (20 - a0) < (20 - a1) := oz218 h0 h1
theorem ox14 {a0 a1 : Int} (h0 : a0 < a1) (h1 : a1 = 20) : (1 : Int) ≤ (20 - a0) := oz225 h0 h1
theorem ox15 {a0 : Int} (h0 : a0 = 0) : (0 : Int) ≤ a0 := oz46 h0
theorem ox16 {a0 a1 : Int} (h0 : (0 : Int) ≤ a0) (h1 : a1 = 0) : a1 ≤ a0 := ob67 h0 h1
theorem ox17 {a0 : Int}  : a0 = a0 := oz34
theorem ox22 {a0 a1 a2 a3 : Int} (h0 : a0 = a1) (h1 : a2 = a0) (h2 : a1 = a3) : a2 = a3 := by omega
def yw60_49 : kW := ([645, 3209, 3214, 3215, 3216, 3586, 3781, 6405], [13, 51, 55, 57, 58, 62, 63, 65, 66, 67, 68, 69, 70, 71, 72, 73, 75, 76, 77, 103], [], [])
def yw60_49_L2 : kW := ([645, 3209, 3214, 3215, 3216, 3586, 3781, 6405], [13, 51, 55, 57, 58, 62, 63, 65, 66, 67, 68, 69, 70, 71, 72, 73, 75, 76, 77, 103], [], [])
set_option maxRecDepth 100000 in
theorem ke60_49 {i : Nat → Int32} {a : Nat → List Int32} {q : Nat → List Int64} {r : Nat → Nat} (hI : kI i a q) (hr : kr r) (hN : kNoW i a r) (S : gS) (hT : kThm i a r S) (hR : kRow i a) : km 9 60 [.ref 49] (ks i a q r) (kVN yw60_49 i a q r (fun i1 a1 q1 r1 => (True) ∧ (kThm i1 a1 r1 (gAt (gKn i a) (a 74) (S) (i 3138).toInt.toNat) ∧ gOp (gKn i a) (a 74) S (i 3138).toInt (a1 75) (a1 76) (a1 77)))) := by
  have hG := kG_self yw60_49 hI hr
  refine km_ofN (q := (mi_h60, mi_c60)) rfl (by decide) (Nat.le_of_ble_eq_true rfl) ?_
  intro P hP
  refine ft_go mi_k60 2 2 [(1, .int 0), (0, .ref 49)] [] i a q r (by rfl) ?_
  have lp1 : ∀ (nz : Nat) (i1 : Nat → Int32) (a1 : Nat → List Int32) (q1 : Nat → List Int64) (r1 : Nat → Nat) (l1_1 : Int32), kG yw60_49_L2 i a q r i1 a1 q1 r1 → (0 : Int) ≤ l1_1.toInt → l1_1.toInt ≤ (i 3138).toInt → (i1 3138).toInt = (i 3138).toInt → kThm i1 a1 r1 (gAt (gKn i a) (a 74) (S) l1_1.toInt.toNat) → gOp (gKn i a) (a 74) S l1_1.toInt (a1 75) (a1 76) (a1 77) → ((20 - l1_1.toInt)).toNat < nz → ko 9 (mi_h60, mi_c60) P (2, [(1, .int l1_1), (0, .ref 49)], [], (0, 0), ks i1 a1 q1 r1) := by
    intro nz
    induction nz with
    | zero =>
      intro _ _ _ _ _ _ _ _ _ _ _ hm
      exact absurd hm (Nat.not_lt_zero _)
    | succ nz ih1 =>
      intro i1 a1 q1 r1 l1_1 hL1 p1_0 p1_1 p1_2 O1_0 O1_1 hm1
      have fi_3138 : ((0 : Int) ≤ (i 3138).toInt) ∧ ((i 3138).toInt ≤ 20) := hG.I.1 3138
      have fi1_3138 : ((0 : Int) ≤ (i1 3138).toInt) ∧ ((i1 3138).toInt ≤ 20) := hL1.I.1 3138
      have efi1_3138 : (i1 3138).toInt = (i 3138).toInt := hL1.ti 3138 rfl
      refine ft_go mi_k60 3 7 [(1, .int l1_1), (0, .ref 49)] [.int (i1 3138), .int l1_1] i1 a1 q1 r1 (by rfl) ?_
      refine ft_if mi_k60 (decide ((i1 3138) ≤ l1_1)) 67 10 [(1, .int l1_1), (0, .ref 49)] [] (by rfl) (fun c => ?_) (fun c => ?_)
      ·
        have c2 : (i1 3138).toInt ≤ l1_1.toInt := kd_le c; clear c
        have hG3 := kG_call hG hL1 (by decide +kernel)
        exact ft_ret mi_k60 (by rfl) (hP  _ _ _ _ hG3 ⟨trivial, ⟨kThm_c O1_0 (gAt_len (ox0 c2 efi1_3138 p1_1)), gOp_len O1_1 (ox0 c2 efi1_3138 p1_1)⟩⟩)
      ·
        have c4 : l1_1.toInt < (i1 3138).toInt := kd_leF c; clear c
        refine ft_go mi_k60 2 13 [(1, .int l1_1), (0, .ref 49)] [.int 20, .int l1_1] i1 a1 q1 r1 (by rfl) ?_
        refine ft_if mi_k60 (decide (20 ≤ l1_1)) 67 16 [(1, .int l1_1), (0, .ref 49)] [] (by rfl) (fun c => ?_) (fun c => ?_)
        ·
          have c5 : (20 : Int32).toInt ≤ l1_1.toInt := kd_le c; clear c
          exact (ox1 c4 c5 efi1_3138 fi_3138.2 kox20).elim
        ·
          have c6 : l1_1.toInt < (20 : Int32).toInt := kd_leF c; clear c
          refine ft_go mi_k60 8 30 [(1, .int l1_1), (0, .ref 49)] [.int l1_1, .ref 74, .ref 50, .int l1_1, .ref 76] i1 a1 q1 r1 (by rfl) ?_
          refine ko_iald3 mi_k60.1 (n := 20) (c := 20) (ax := (0, 0, 0, 0, 0)) (mi_k60.2 _ _ (by rfl)) (by rfl) (ksG74 _ _ _ _) (hL1.I.2.1 74) rfl (ox2 p1_0) (ox3 c6 kox20) ?_
          have hG7 := kG_call hG hL1 (by decide +kernel)
          have hx8 : ((0 : Int) ≤ ((a1 74).getD l1_1.toNatClampNeg 0).toInt) ∧ (((a1 74).getD l1_1.toNatClampNeg 0).toInt < (i1 3200).toInt) := th_rng hR O1_0 (hL1.fa 74 rfl) (hG7.fi 64 rfl) (ox2 p1_0) (ox4 c4 efi1_3138)
          have fi1_3200 : ((0 : Int) ≤ (i1 3200).toInt) ∧ ((i1 3200).toInt ≤ 8) := hL1.I.1 3200
          have fi_3200 : ((0 : Int) ≤ (i 3200).toInt) ∧ ((i 3200).toInt ≤ 8) := hG.I.1 3200
          have efi1_3200 : (i1 3200).toInt = (i 3200).toInt := hL1.ti 3200 rfl
          refine ko_callI mi_k60.1 (pc := 31) (ls := [(1, .int l1_1), (0, .ref 49)]) (st := [.int ((a1 74).getD l1_1.toNatClampNeg 0), .ref 50, .int l1_1, .ref 76]) (h := ks i1 a1 q1 r1) (i := (.invokevirtual 63, 3, 29, 0, 9, 0, 220)) (mi_k60.2 _ _ (by rfl)) (ft_invS mi_pq29 (by rfl)) (cy := mi_c29) mi_pq29 rfl (kg29_50 hL1.I hL1.R ((a1 74).getD l1_1.toNatClampNeg 0) (ox5 hx8.1 hx8.2) (kNoW_fr hG7 (by decide +kernel) hr hN) O1_0) (by decide) ?_
          intro vg9 ig9 ag9 qg9 rg9 kg9 hg9
          have hGg9 := kG_call hL1 kg9 (by decide +kernel)
          obtain ⟨hg9, og9⟩ := hg9
          have hG11 := kG_call hG hL1 (by decide +kernel)
          have kn10 := (gKn_fr hG11 (by decide +kernel) : gKn i1 a1 = gKn i a)
          have oT12 := og9
          rw [kn10] at oT12
          have tT13 : kThm ig9 ag9 rg9 (gIn (gKn i a) ((a1 74).getD l1_1.toNatClampNeg 0) (gAt (gKn i a) (a 74) (S) l1_1.toInt.toNat)) := oT12.1
          refine ko_iast3 mi_k60.1 (n := 20) (c := 20) (ax := (0, 0, 0, 0, 0)) (mi_k60.2 _ _ (by rfl)) (by rfl) (ksG76 _ _ _ _) (ksA76 _ _ _ _) (hGg9.I.2.1 76) rfl (ox2 p1_0) (ox3 c6 kox20) ?_
          intro a14 ea14 fa14
          have hJ14 := kG_a3 hGg9 76 rfl ea14 fa14 (kd_bd _)
          refine ft_go mi_k60 6 47 [(1, .int l1_1), (0, .ref 49)] [.int (ig9 3214), .int l1_1, .ref 75] ig9 a14 qg9 rg9 (by rfl) ?_
          refine ko_iast3 mi_k60.1 (n := 20) (c := 20) (ax := (0, 0, 0, 0, 0)) (mi_k60.2 _ _ (by rfl)) (by rfl) (ksG75 _ _ _ _) (ksA75 _ _ _ _) (hJ14.I.2.1 75) rfl (ox2 p1_0) (ox3 c6 kox20) ?_
          intro a15 ea15 fa15
          have hJ15 := kG_a3 hJ14 75 rfl ea15 fa15 (kd_bd _)
          refine ft_go mi_k60 6 60 [(1, .int l1_1), (0, .ref 49)] [.int (ig9 3216), .int l1_1, .ref 77] ig9 a15 qg9 rg9 (by rfl) ?_
          refine ko_iast3 mi_k60.1 (n := 20) (c := 20) (ax := (0, 0, 0, 0, 0)) (mi_k60.2 _ _ (by rfl)) (by rfl) (ksG77 _ _ _ _) (ksA77 _ _ _ _) (hJ15.I.2.1 77) rfl (ox2 p1_0) (ox3 c6 kox20) ?_
          intro a16 ea16 fa16
          have hJ16 := kG_a3 hJ15 77 rfl ea16 fa16 (kd_bd _)
          have s17 : (l1_1 + 1).toInt = l1_1.toInt + (1 : Int32).toInt := kd_add (ox6 p1_0 kox1) (ox7 c6 kox20 kox1)
          refine ft_go mi_k60 2 2 [(1, .int (l1_1 + 1)), (0, .ref 49)] [] ig9 a16 qg9 rg9 (by rfl) ?_
          have fig9_3138 : ((0 : Int) ≤ (ig9 3138).toInt) ∧ ((ig9 3138).toInt ≤ 20) := hJ16.I.1 3138
          have efig9_3138 : (ig9 3138).toInt = (i1 3138).toInt := kg9.ti 3138 rfl
          exact ih1 _ _ _ _ _ hJ16 (ox8 p1_0 s17 kox1) (ox9 c4 efi1_3138 s17 kox1) (ox10 efi1_3138 efig9_3138) (kThm_c (kThm_st fa16 (by decide +kernel) (kThm_st fa15 (by decide +kernel) (kThm_st fa14 (by decide +kernel) tT13))) (gAt_next (i1 := i) rfl (congrArg (fun z : List Int32 => z.getD l1_1.toNatClampNeg 0) (hL1.fa 74 rfl)) (ox2 p1_0) (ox11 s17 kox1) rfl).symm) (gOp_step (n := 20) O1_1 (hL1.I.2.1 75) (hL1.I.2.1 76) (hL1.I.2.1 77) (ox2 p1_0) (ox12 c6 kox20) (ox11 s17 kox1) (gAt_next (i1 := i) rfl (congrArg (fun z : List Int32 => z.getD l1_1.toNatClampNeg 0) (hL1.fa 74 rfl)) (ox2 p1_0) (ox11 s17 kox1) rfl) (show a16 75 = (a1 75).set l1_1.toNatClampNeg (ig9 3214) from (by first | rfl | (simp only [fa16 75 (by decide), ea15, fa14 75 (by decide), kg9.fa 75 rfl, sMn, sMx]; done) | (simp only [fa16 75 (by decide), ea15, fa14 75 (by decide), kg9.fa 75 rfl, sMn, sMx]; rfl))) (show a16 76 = (a1 76).set l1_1.toNatClampNeg vg9 from (by first | rfl | (simp only [fa16 76 (by decide), fa15 76 (by decide), ea14, kg9.fa 76 rfl, sMn, sMx]; done) | (simp only [fa16 76 (by decide), fa15 76 (by decide), ea14, kg9.fa 76 rfl, sMn, sMx]; rfl))) (show a16 77 = (a1 77).set l1_1.toNatClampNeg (ig9 3216) from (by first | rfl | (simp only [ea16, fa15 77 (by decide), fa14 77 (by decide), kg9.fa 77 rfl, sMn, sMx]; done) | (simp only [ea16, fa15 77 (by decide), fa14 77 (by decide), kg9.fa 77 rfl, sMn, sMx]; rfl))) (kThm_out tT13).1 oT12.2 (kThm_out tT13).2.2) (kj_meas (ox13 s17 kox1) (ox14 c6 kox20) hm1)
  have fi_3138 : ((0 : Int) ≤ (i 3138).toInt) ∧ ((i 3138).toInt ≤ 20) := hG.I.1 3138
  exact lp1 _ _ _ _ _ _ (kG_self _ hG.I hG.R) (ox15 kox0) (ox16 fi_3138.1 kox0) ox17 (kThm_c hT (gAt_k0 kox0)) (gOp_0 kox0) (Nat.lt_succ_self _)
def yw59_49_1 : kW := ([645, 3200, 3206, 3207, 3208, 3209, 3214, 3215, 3216, 3586, 3781, 6405], [13, 51, 52, 53, 54, 55, 57, 58, 62, 63, 65, 66, 67, 68, 69, 70, 71, 72, 73, 75, 76, 77, 103], [], [1])
set_option maxRecDepth 100000 in
theorem ke59_49_1 {i : Nat → Int32} {a : Nat → List Int32} {q : Nat → List Int64} {r : Nat → Nat} (hI : kI i a q) (hr : kr r) (hN : kNoW i a r) (hR : kRow i a) : km 11 59 [.ref 49, .ref 1] (ks i a q r) (kVN yw59_49_1 i a q r (fun i1 a1 q1 r1 => (True) ∧ (kThm i1 a1 r1 (gAt (gKn i a) (a 74) (gB i a) (i 3138).toInt.toNat) ∧ gOp (gKn i a) (a 74) (gB i a) (i 3138).toInt (a1 75) (a1 76) (a1 77)))) := by
  have hG := kG_self yw59_49_1 hI hr
  refine km_ofN (q := (mi_h59, mi_c59)) rfl (by decide) (Nat.le_of_ble_eq_true rfl) ?_
  intro P hP
  refine ft_go mi_k59 3 5 [(0, .ref 49), (1, .ref 1)] [.ref 1, .ref 50] i a q r (by rfl) ?_
  refine ko_callN mi_k59.1 (pc := 5) (ls := [(0, .ref 49), (1, .ref 1)]) (st := [.ref 1, .ref 50]) (h := ks i a q r) (i := (.invokevirtual 56, 3, 34, 0, 9, 0, 212)) (mi_k59.2 _ _ (by rfl)) (ft_invS mi_pq34 (by rfl)) (cy := mi_c34) mi_pq34 rfl (kg34_50_1 hG.I hG.R hN) (by decide) ?_
  intro ig1 ag1 qg1 rg1 kg1 hg1
  have hGg1 := kG_call hG kg1 (by decide +kernel)
  obtain ⟨hg1, og1⟩ := hg1
  have tT2 : kThm ig1 ag1 rg1 (gB i a) := og1
  refine ft_go mi_k59 1 9 [(0, .ref 49), (1, .ref 1)] [.ref 49] ig1 ag1 qg1 rg1 (by rfl) ?_
  refine ko_callN mi_k59.1 (pc := 9) (ls := [(0, .ref 49), (1, .ref 1)]) (st := [.ref 49]) (h := ks ig1 ag1 qg1 rg1) (i := (.invokevirtual 60, 3, 60, 0, 9, 0, 219)) (mi_k59.2 _ _ (by rfl)) (ft_invS mi_pq60 (by rfl)) (cy := mi_c60) mi_pq60 rfl (ke60_49 hGg1.I hGg1.R (kNoW_fr hGg1 (by decide +kernel) hr hN) _ tT2 (kRow_to hR (kg1.fa 74 rfl) (kg1.fi 3138 rfl) (hGg1.fi 64 rfl))) (by decide) ?_
  intro ig3 ag3 qg3 rg3 kg3 hg3
  have hGg3 := kG_call hGg1 kg3 (by decide +kernel)
  obtain ⟨hg3, og3⟩ := hg3
  have kn4 := (gKn_fr hGg1 (by decide +kernel) : gKn ig1 ag1 = gKn i a)
  have oT5 := og3
  rw [kn4, ((kg1.fa 74 rfl) : ag1 74 = a 74), ((kg1.fi 3138 rfl) : ig1 3138 = i 3138)] at oT5
  have tT6 : kThm ig3 ag3 rg3 (gAt (gKn i a) (a 74) (gB i a) (i 3138).toInt.toNat) := oT5.1
  exact ft_ret mi_k59 (by rfl) (hP  _ _ _ _ hGg3 ⟨trivial, ⟨tT6, oT5.2⟩⟩)
