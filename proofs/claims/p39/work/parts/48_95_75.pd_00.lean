set_option maxRecDepth 100000 in
theorem ke45_98 {i : Nat → Int32} {a : Nat → List Int32} {q : Nat → List Int64} {r : Nat → Nat} (hI : kI i a q) (hr : kr r) (t : List Int32) (nn : Int32) (hT : a 99 = t) (hN : i 6273 = nn) (hX : kBy t) : km 1 45 [.ref 98] (ks i a q r) (kPI (ks i a q r) (fun v => ((((-1) : Int) ≤ v.toInt) ∧ (v.toInt ≤ 255) ∧ ((v.toInt = (-1)) ∨ (((i 6275).toInt = 0) ∧ ((i 6274).toInt < (i 6273).toInt)))) ∧ v = cHr t nn (i 6274) (i 6275))) := by
  have hG := kG_self kW0 hI hr
  refine km_ofPI (q := (mi_h45, mi_c45)) rfl (by decide) (Nat.le_of_ble_eq_true rfl) ?_
  intro P hP
  have hn1 : (i 6273).toInt = nn.toInt := congrArg Int32.toInt hN
  have fi_6275 : ((0 : Int) ≤ (i 6275).toInt) ∧ ((i 6275).toInt ≤ 1) := hG.I.1 6275
  refine ft_go mi_k45 2 4 [(0, .ref 98)] [.int (i 6275)] i a q r (by rfl) ?_
  refine ft_if mi_k45 ((i 6275) != 0) 37 7 [(0, .ref 98)] [] (by rfl) (fun c => ?_) (fun c => ?_)
  ·
    have c2 : (i 6275).toInt ≠ (0 : Int32).toInt := kd_ne c; clear c
    refine ft_go mi_k45 1 38 [(0, .ref 98)] [.int (-1)] i a q r (by rfl) ?_
    have fi_6274 : ((0 : Int) ≤ (i 6274).toInt) ∧ ((i 6274).toInt ≤ 120) := hG.I.1 6274
    have fi_6273 : ((0 : Int) ≤ (i 6273).toInt) ∧ ((i 6273).toInt ≤ 120) := hG.I.1 6273
    exact ft_ret mi_k45 (by rfl) (hP (-1) ⟨(op0 kopm1), (show ((-1) : Int32) = cHr t nn (i 6274) (i 6275) from (cHr_out (op1 c2 fi_6275.1 kop0)))⟩)
  ·
    have c3 : (i 6275).toInt = (0 : Int32).toInt := kd_neF c; clear c
    have fi_6274 : ((0 : Int) ≤ (i 6274).toInt) ∧ ((i 6274).toInt ≤ 120) := hG.I.1 6274
    refine ft_go mi_k45 2 11 [(0, .ref 98)] [.int (i 6274)] i a q r (by rfl) ?_
    refine ft_if mi_k45 (decide ((i 6274) < 0)) 37 14 [(0, .ref 98)] [] (by rfl) (fun c => ?_) (fun c => ?_)
    ·
      have c4 : (i 6274).toInt < (0 : Int32).toInt := kd_lt c; clear c
      exact (op2 c4 fi_6274.1 kop0).elim
    ·
      have c5 : (0 : Int32).toInt ≤ (i 6274).toInt := kd_ltF c; clear c
      have fi_6273 : ((0 : Int) ≤ (i 6273).toInt) ∧ ((i 6273).toInt ≤ 120) := hG.I.1 6273
      refine ft_go mi_k45 4 22 [(0, .ref 98)] [.int (i 6273), .int (i 6274)] i a q r (by rfl) ?_
      refine ft_if mi_k45 (decide ((i 6273) ≤ (i 6274))) 37 25 [(0, .ref 98)] [] (by rfl) (fun c => ?_) (fun c => ?_)
      ·
        have c6 : (i 6273).toInt ≤ (i 6274).toInt := kd_le c; clear c
        refine ft_go mi_k45 1 38 [(0, .ref 98)] [.int (-1)] i a q r (by rfl) ?_
        exact ft_ret mi_k45 (by rfl) (hP (-1) ⟨(op0 kopm1), (show ((-1) : Int32) = cHr t nn (i 6274) (i 6275) from (cHr_out (op3 c6 hn1)))⟩)
      ·
        have c7 : (i 6274).toInt < (i 6273).toInt := kd_leF c; clear c
        refine ft_go mi_k45 4 33 [(0, .ref 98)] [.int (i 6274), .ref 99] i a q r (by rfl) ?_
        refine ko_iald3 mi_k45.1 (n := 120) (c := 120) (ax := (0, 0, 0, 0, 0)) (mi_k45.2 _ _ (by rfl)) (by rfl) (ksG99 _ _ _ _) (hG.I.2.1 99) rfl (op4 fi_6274.1) (op5 c7 fi_6273.2) ?_
        have hx8 : ((0 : Int) ≤ ((a 99).getD (i 6274).toNatClampNeg 0).toInt) ∧ (((a 99).getD (i 6274).toNatClampNeg 0).toInt ≤ 255) := (hT ▸ hX ((i 6274).toNatClampNeg) : (0 : Int) ≤ ((a 99).getD ((i 6274).toNatClampNeg) 0).toInt ∧ ((a 99).getD ((i 6274).toNatClampNeg) 0).toInt ≤ 255)
        refine ft_go mi_k45 1 38 [(0, .ref 98)] [.int ((a 99).getD (i 6274).toNatClampNeg 0)] i a q r (by rfl) ?_
        exact ft_ret mi_k45 (by rfl) (hP ((a 99).getD (i 6274).toNatClampNeg 0) ⟨(op6 c3 c7 fi_6275.1 hx8.1 hx8.2 kop0), (show ((a 99).getD (i 6274).toNatClampNeg 0) = cHr t nn (i 6274) (i 6275) from (by rw [hT]; exact cHr_in (op7 c3 fi_6275.1 kop0) (op8 c7 hn1)))⟩)
def zw17_10 : kW := ([643], [11, 12], [], [])
set_option maxRecDepth 100000 in
theorem kf17_10 {i : Nat → Int32} {a : Nat → List Int32} {q : Nat → List Int64} {r : Nat → Nat} (hI : kI i a q) (hr : kr r) (x1 : Int32) (x2 : Int32) : km 1 17 [.ref 10, .int x1, .int x2] (ks i a q r) (kVI zw17_10 i a q r (fun v i1 a1 q1 r1 => ((((i 643).toInt ≤ 120) ∧ ((i1 643).toInt = ((i 643).toInt + 1))) ∨ (((121 : Int) ≤ (i 643).toInt) ∧ ((i1 643).toInt = (i 643).toInt))) ∧ ((a1 11, a1 12, i1 643) = lAdd x1 x2 (a 11, a 12, i 643) ∧ v = i1 643 - 1))) := by
  have hG := kG_self zw17_10 hI hr
  refine km_ofI (q := (mi_h17, mi_c17)) rfl (by decide) (Nat.le_of_ble_eq_true rfl) ?_
  intro P hP
  have fi_643 : ((0 : Int) ≤ (i 643).toInt) ∧ ((i 643).toInt ≤ 121) := hG.I.1 643
  refine ft_go mi_k17 3 6 [(0, .ref 10), (1, .int x1), (2, .int x2)] [.int 121, .int (i 643)] i a q r (by rfl) ?_
  refine ft_if mi_k17 (decide (121 ≤ (i 643))) 39 9 [(0, .ref 10), (1, .int x1), (2, .int x2)] [] (by rfl) (fun c => ?_) (fun c => ?_)
  ·
    have c1 : (121 : Int32).toInt ≤ (i 643).toInt := kd_le c; clear c
    have s2 : ((i 643) - 1).toInt = (i 643).toInt - (1 : Int32).toInt := kd_sub (op13 c1 kop121 kop1) (op14 fi_643.2 kop1)
    refine ft_go mi_k17 4 45 [(0, .ref 10), (1, .int x1), (2, .int x2)] [.int ((i 643) - 1)] i a q r (by rfl) ?_
    exact ft_ret mi_k17 (by rfl) (hP ((i 643) - 1) _ _ _ _ hG ⟨(op15 c1 kop121), ⟨(show (a 11, a 12, i 643) = (a 11, a 12, i 643) from rfl).trans (if_neg (op16 c1 kop121)).symm, rfl⟩⟩)
  ·
    have c3 : (i 643).toInt < (121 : Int32).toInt := kd_leF c; clear c
    refine ft_go mi_k17 5 18 [(0, .ref 10), (1, .int x1), (2, .int x2)] [.int x1, .int (i 643), .ref 11] i a q r (by rfl) ?_
    refine ko_iast3 mi_k17.1 (n := 121) (c := 121) (ax := (0, 0, 0, 0, 0)) (mi_k17.2 _ _ (by rfl)) (by rfl) (ksG11 _ _ _ _) (ksA11 _ _ _ _) (hG.I.2.1 11) rfl (op4 fi_643.1) (op17 c3 kop121) ?_
    intro a4 ea4 fa4
    have hJ4 := kG_a3 hG 11 rfl ea4 fa4 (kd_bd _)
    refine ft_go mi_k17 5 28 [(0, .ref 10), (1, .int x1), (2, .int x2)] [.int x2, .int (i 643), .ref 12] i a4 q r (by rfl) ?_
    refine ko_iast3 mi_k17.1 (n := 121) (c := 121) (ax := (0, 0, 0, 0, 0)) (mi_k17.2 _ _ (by rfl)) (by rfl) (ksG12 _ _ _ _) (ksA12 _ _ _ _) (hJ4.I.2.1 12) rfl (op4 fi_643.1) (op17 c3 kop121) ?_
    intro a5 ea5 fa5
    have hJ5 := kG_a3 hJ4 12 rfl ea5 fa5 (kd_bd _)
    have s6 : ((i 643) + 1).toInt = (i 643).toInt + (1 : Int32).toInt := kd_add (op18 fi_643.1 kop1) (op19 fi_643.2 kop1)
    have hJ7 := kG_i hJ5 643 rfl (v := ((i 643) + 1)) ⟨(op20 fi_643.1 s6 kop1), (op21 c3 s6 kop121 kop1)⟩
    have s8 : (((i 643) + 1) - 1).toInt = ((i 643) + 1).toInt - (1 : Int32).toInt := kd_sub (op22 fi_643.1 s6 kop1) (op23 fi_643.2 s6 kop1)
    refine ft_go mi_k17 10 45 [(0, .ref 10), (1, .int x1), (2, .int x2)] [.int (((i 643) + 1) - 1)] (ku i 643 ((i 643) + 1)) a5 q r (by rfl) ?_
    exact ft_ret mi_k17 (by rfl) (hP (((i 643) + 1) - 1) _ _ _ _ hJ7 ⟨(op24 c3 s6 kop121 kop1), ⟨(show (a5 11, a5 12, ((i 643) + 1)) = ((a 11).set (i 643).toNatClampNeg x1, (a 12).set (i 643).toNatClampNeg x2, i 643 + 1) from by rw [fa5 11 (by decide), ea4, ea5, fa4 12 (by decide)]).trans (if_pos (op25 c3 kop121)).symm, rfl⟩⟩)
def yw55_98_L10 : kW := ([643, 6274], [11, 12], [], [])
def yw55_98_L10_L4 : kW := ([6274], [], [], [])
set_option maxRecDepth 100000 in
theorem ke55_98_L10 {i : Nat → Int32} {a : Nat → List Int32} {q : Nat → List Int64} {r : Nat → Nat} (hI : kI i a q) (hr : kr r) (t : List Int32) (nn : Int32) (hT : a 99 = t) (hN : i 6273 = nn) (hL : r 2 = 10) (hX : kBy t) : km 3 55 [.ref 98] (ks i a q r) (kVN yw55_98_L10 i a q r (fun i1 a1 q1 r1 => (True) ∧ (i1 6274, i1 6275, a1 11, a1 12, i1 643) = cNum t nn (i 6274, i 6275, a 11, a 12, i 643))) := by
  have hG := kG_self yw55_98_L10 hI hr
  refine km_ofN (q := (mi_h55, mi_c55)) rfl (by decide) (Nat.le_of_ble_eq_true rfl) ?_
  intro P hP
  have hn1 : (i 6273).toInt = nn.toInt := congrArg Int32.toInt hN
  have eRr_2 : r 2 = 10 := hL
  refine ft_go mi_k55 4 4 [(2, .int 0), (1, .int 0), (0, .ref 98)] [] i a q r (by rfl) ?_
  have lp2 : ∀ (nz : Nat) (i2 : Nat → Int32) (a2 : Nat → List Int32) (q2 : Nat → List Int64) (r2 : Nat → Nat) (l2_2 : Int32) (l1_2 : Int32), kG yw55_98_L10_L4 i a q r i2 a2 q2 r2 → (0 : Int) ≤ l2_2.toInt → cDig t nn (4 - l2_2.toInt).toNat (l1_2, (i2 6274, i2 6275, a2 11, a2 12, i2 643)) = cDig t nn 4 (0, (i 6274, i 6275, a 11, a 12, i 643)) → ((4 - l2_2.toInt)).toNat < nz → ko 3 (mi_h55, mi_c55) P (4, [(2, .int l2_2), (1, .int l1_2), (0, .ref 98)], [], (0, 0), ks i2 a2 q2 r2) := by
    intro nz
    induction nz with
    | zero =>
      intro _ _ _ _ _ _ _ _ _ hm
      exact absurd hm (Nat.not_lt_zero _)
    | succ nz ih2 =>
      intro i2 a2 q2 r2 l2_2 l1_2 hL2 p2_0 O2_0 hm2
      have eRr2_2 : r2 2 = 10 := (hL2.fr 2 rfl).trans eRr_2
      refine ft_go mi_k55 2 6 [(2, .int l2_2), (1, .int l1_2), (0, .ref 98)] [.int 4, .int l2_2] i2 a2 q2 r2 (by rfl) ?_
      refine ft_if mi_k55 (decide (4 ≤ l2_2)) 48 9 [(2, .int l2_2), (1, .int l1_2), (0, .ref 98)] [] (by rfl) (fun c => ?_) (fun c => ?_)
      ·
        have c3 : (4 : Int32).toInt ≤ l2_2.toInt := kd_le c; clear c
        have hG4 := kG_call hG hL2 (by decide +kernel)
        have hD5 : (l1_2, (i2 6274, i2 6275, a2 11, a2 12, i2 643)) = cDig t nn 4 (0, (i 6274, i 6275, a 11, a 12, i 643)) := cDg_end O2_0 (kj_sub0 (n := 4) (op12 c3 kop4))
        refine ft_go mi_k55 2 52 [(2, .int l2_2), (1, .int l1_2), (0, .ref 98)] [.ref (r2 2)] i2 a2 q2 r2 (by rfl) ?_
        refine ko_eq (x1 := (52, [(2, .int l2_2), (1, .int l1_2), (0, .ref 98)], [.ref 10], (0, 0), ks i2 a2 q2 r2)) (by rw [eRr2_2]) ?_
        refine ft_go mi_k55 2 54 [(2, .int l2_2), (1, .int l1_2), (0, .ref 98)] [.int l1_2, .int 0, .ref 10] i2 a2 q2 r2 (by rfl) ?_
        refine ko_callI mi_k55.1 (pc := 54) (ls := [(2, .int l2_2), (1, .int l1_2), (0, .ref 98)]) (st := [.int l1_2, .int 0, .ref 10]) (h := ks i2 a2 q2 r2) (i := (.invokevirtual 60, 3, 17, 0, 9, 0, 187)) (mi_k55.2 _ _ (by rfl)) (ft_invS mi_pq17 (by rfl)) (cy := mi_c17) mi_pq17 rfl (kf17_10 hG4.I hG4.R 0 l1_2) (by decide) ?_
        intro vg6 ig6 ag6 qg6 rg6 kg6 hg6
        have hGg6 := kG_call hG4 kg6 (by decide +kernel)
        have eRrg6_2 : rg6 2 = 10 := (kg6.fr 2 rfl).trans eRr2_2
        obtain ⟨hg6, og6⟩ := hg6
        have fi2_643 : ((0 : Int) ≤ (i2 643).toInt) ∧ ((i2 643).toInt ≤ 121) := hG4.I.1 643
        have fi_643 : ((0 : Int) ≤ (i 643).toInt) ∧ ((i 643).toInt ≤ 121) := hG.I.1 643
        have efi2_643 : (i2 643).toInt = (i 643).toInt := hL2.ti 643 rfl
        have fig6_643 : ((0 : Int) ≤ (ig6 643).toInt) ∧ ((ig6 643).toInt ≤ 121) := hGg6.I.1 643
        have z7 : (((i2 643).toInt ≤ 120) ∧ ((ig6 643).toInt = ((i2 643).toInt + 1))) ∨ (((121 : Int) ≤ (i2 643).toInt) ∧ ((ig6 643).toInt = (i2 643).toInt)) := hg6
        refine ft_go mi_k55 1 58 [(2, .int l2_2), (1, .int l1_2), (0, .ref 98)] [] ig6 ag6 qg6 rg6 (by rfl) ?_
        exact ft_ret mi_k55 (by rfl) (hP  _ _ _ _ hGg6 ⟨trivial, (cNu_of hD5 (tAdd og6.1 (kg6.fi 6274 rfl) (kg6.fi 6275 rfl)))⟩)
      ·
        have c8 : l2_2.toInt < (4 : Int32).toInt := kd_leF c; clear c
        refine ft_go mi_k55 1 10 [(2, .int l2_2), (1, .int l1_2), (0, .ref 98)] [.ref 98] i2 a2 q2 r2 (by rfl) ?_
        refine ko_callPI mi_k55.1 (pc := 10) (ls := [(2, .int l2_2), (1, .int l1_2), (0, .ref 98)]) (st := [.ref 98]) (h := ks i2 a2 q2 r2) (i := (.invokevirtual 46, 3, 45, 0, 9, 0, 184)) (mi_k55.2 _ _ (by rfl)) (ft_invS mi_pq45 (by rfl)) (cy := mi_c45) mi_pq45 rfl (ke45_98 hL2.I hL2.R t nn ((hL2.fa 99 rfl).trans hT) ((hL2.fi 6273 rfl).trans hN) hX) (by decide) ?_
        intro vg9 hg9
        obtain ⟨hg9, og9⟩ := hg9
        have fi2_6275 : ((0 : Int) ≤ (i2 6275).toInt) ∧ ((i2 6275).toInt ≤ 1) := hL2.I.1 6275
        have fi_6275 : ((0 : Int) ≤ (i 6275).toInt) ∧ ((i 6275).toInt ≤ 1) := hG.I.1 6275
        have efi2_6275 : (i2 6275).toInt = (i 6275).toInt := hL2.ti 6275 rfl
        have fi2_6274 : ((0 : Int) ≤ (i2 6274).toInt) ∧ ((i2 6274).toInt ≤ 120) := hL2.I.1 6274
        have fi2_6273 : ((0 : Int) ≤ (i2 6273).toInt) ∧ ((i2 6273).toInt ≤ 120) := hL2.I.1 6273
        have fi_6273 : ((0 : Int) ≤ (i 6273).toInt) ∧ ((i 6273).toInt ≤ 120) := hG.I.1 6273
        have efi2_6273 : (i2 6273).toInt = (i 6273).toInt := hL2.ti 6273 rfl
        have z10 : (((-1) : Int) ≤ vg9.toInt) ∧ (vg9.toInt ≤ 255) ∧ ((vg9.toInt = (-1)) ∨ (((i2 6275).toInt = 0) ∧ ((i2 6274).toInt < (i2 6273).toInt))) := hg9
        have q11 : vg9 = cHr t nn (i2 6274) (i2 6275) := og9
        have hv12 : vg9.toInt = (cHr t nn (i2 6274) (i2 6275)).toInt := congrArg Int32.toInt og9
        refine ko_callPI mi_k55.1 (pc := 13) (ls := [(2, .int l2_2), (1, .int l1_2), (0, .ref 98)]) (st := [.int vg9]) (h := ks i2 a2 q2 r2) (i := (.invokestatic 92, 3, 56, 0, 9, 0, 185)) (mi_k55.2 _ _ (by rfl)) (ft_invS mi_pq56 (by rfl)) (cy := mi_c56) mi_pq56 rfl (kc56 hL2.I hL2.R vg9) (by decide) ?_
        intro vg13 hg13
        rcases hg13 with ⟨eg13, hg13⟩ | ⟨eg13, hg13⟩
        ·
          subst eg13
          have z14 : ((48 : Int) ≤ vg9.toInt) ∧ (vg9.toInt ≤ 57) := hg13
          have b15 : ((-2147483648 : Int) ≤ l1_2.toInt) ∧ (l1_2.toInt ≤ 2147483647) := kd_bd l1_2
          refine ft_go mi_k55 5 24 [(2, .int l2_2), (1, .int l1_2), (0, .ref 98)] [.ref 98, .int (l1_2 * 10)] i2 a2 q2 r2 (by rfl) ?_
          refine ko_callPI mi_k55.1 (pc := 24) (ls := [(2, .int l2_2), (1, .int l1_2), (0, .ref 98)]) (st := [.ref 98, .int (l1_2 * 10)]) (h := ks i2 a2 q2 r2) (i := (.invokevirtual 46, 3, 45, 0, 9, 0, 184)) (mi_k55.2 _ _ (by rfl)) (ft_invS mi_pq45 (by rfl)) (cy := mi_c45) mi_pq45 rfl (ke45_98 hL2.I hL2.R t nn ((hL2.fa 99 rfl).trans hT) ((hL2.fi 6273 rfl).trans hN) hX) (by decide) ?_
          intro vg16 hg16
          obtain ⟨hg16, og16⟩ := hg16
          have z17 : (((-1) : Int) ≤ vg16.toInt) ∧ (vg16.toInt ≤ 255) ∧ ((vg16.toInt = (-1)) ∨ (((i2 6275).toInt = 0) ∧ ((i2 6274).toInt < (i2 6273).toInt))) := hg16
          have q18 : vg16 = cHr t nn (i2 6274) (i2 6275) := og16
          have hv19 : vg16.toInt = (cHr t nn (i2 6274) (i2 6275)).toInt := congrArg Int32.toInt og16
          have b20 : ((-2147483648 : Int) ≤ (l1_2 * 10).toInt) ∧ ((l1_2 * 10).toInt ≤ 2147483647) := kd_bd (l1_2 * 10)
          have b21 : ((-2147483648 : Int) ≤ vg16.toInt) ∧ (vg16.toInt ≤ 2147483647) := kd_bd vg16
          have b22 : ((-2147483648 : Int) ≤ ((l1_2 * 10) + vg16).toInt) ∧ (((l1_2 * 10) + vg16).toInt ≤ 2147483647) := kd_bd ((l1_2 * 10) + vg16)
          have s23 : ((i2 6274) + 1).toInt = (i2 6274).toInt + (1 : Int32).toInt := kd_add (op18 fi2_6274.1 kop1) (op26 fi2_6274.2 kop1)
          have hJ24 := kG_i hL2 6274 rfl (v := ((i2 6274) + 1)) ⟨(op20 fi2_6274.1 s23 kop1), (op27 fi2_6273.2 s23 z10.2.2 z14.1 kop1)⟩
          have s25 : (l2_2 + 1).toInt = l2_2.toInt + (1 : Int32).toInt := kd_add (op18 p2_0 kop1) (op28 c8 kop4 kop1)
          refine ft_go mi_k55 12 4 [(2, .int (l2_2 + 1)), (1, .int (((l1_2 * 10) + vg16) - 48)), (0, .ref 98)] [] (ku i2 6274 ((i2 6274) + 1)) a2 q2 r2 (by rfl) ?_
          exact ih2 _ _ _ _ _ _ hJ24 (op20 p2_0 s25 kop1) (cDg_again O2_0 (kj_sub2 (n := 4) (op29 c8 kop4) (op4 p2_0) (op30 s25 kop1)) (op31 hv12 z14.1) (op32 hv12 z14.2) (congrArg (fun z : Int32 => ((l1_2 * 10) + z) - 48) og16) rfl) (kj_meas (op33 s25 kop1) (op34 c8 kop4) hm2)
        ·
          subst eg13
          have z26 : ¬ (((48 : Int) ≤ vg9.toInt) ∧ (vg9.toInt ≤ 57)) := hg13
          refine ft_go mi_k55 1 48 [(2, .int l2_2), (1, .int l1_2), (0, .ref 98)] [] i2 a2 q2 r2 (by rfl) ?_
          have hG27 := kG_call hG hL2 (by decide +kernel)
          have hD28 : (l1_2, (i2 6274, i2 6275, a2 11, a2 12, i2 643)) = cDig t nn 4 (0, (i 6274, i 6275, a 11, a 12, i 643)) := cDg_out O2_0 (op35 hv12 z26)
          refine ft_go mi_k55 2 52 [(2, .int l2_2), (1, .int l1_2), (0, .ref 98)] [.ref (r2 2)] i2 a2 q2 r2 (by rfl) ?_
          refine ko_eq (x1 := (52, [(2, .int l2_2), (1, .int l1_2), (0, .ref 98)], [.ref 10], (0, 0), ks i2 a2 q2 r2)) (by rw [eRr2_2]) ?_
          refine ft_go mi_k55 2 54 [(2, .int l2_2), (1, .int l1_2), (0, .ref 98)] [.int l1_2, .int 0, .ref 10] i2 a2 q2 r2 (by rfl) ?_
          refine ko_callI mi_k55.1 (pc := 54) (ls := [(2, .int l2_2), (1, .int l1_2), (0, .ref 98)]) (st := [.int l1_2, .int 0, .ref 10]) (h := ks i2 a2 q2 r2) (i := (.invokevirtual 60, 3, 17, 0, 9, 0, 187)) (mi_k55.2 _ _ (by rfl)) (ft_invS mi_pq17 (by rfl)) (cy := mi_c17) mi_pq17 rfl (kf17_10 hG27.I hG27.R 0 l1_2) (by decide) ?_
          intro vg29 ig29 ag29 qg29 rg29 kg29 hg29
          have hGg29 := kG_call hG27 kg29 (by decide +kernel)
          have eRrg29_2 : rg29 2 = 10 := (kg29.fr 2 rfl).trans eRr2_2
          obtain ⟨hg29, og29⟩ := hg29
          have fi2_643 : ((0 : Int) ≤ (i2 643).toInt) ∧ ((i2 643).toInt ≤ 121) := hG27.I.1 643
          have fi_643 : ((0 : Int) ≤ (i 643).toInt) ∧ ((i 643).toInt ≤ 121) := hG.I.1 643
          have efi2_643 : (i2 643).toInt = (i 643).toInt := hL2.ti 643 rfl
          have fig29_643 : ((0 : Int) ≤ (ig29 643).toInt) ∧ ((ig29 643).toInt ≤ 121) := hGg29.I.1 643
          have z30 : (((i2 643).toInt ≤ 120) ∧ ((ig29 643).toInt = ((i2 643).toInt + 1))) ∨ (((121 : Int) ≤ (i2 643).toInt) ∧ ((ig29 643).toInt = (i2 643).toInt)) := hg29
          refine ft_go mi_k55 1 58 [(2, .int l2_2), (1, .int l1_2), (0, .ref 98)] [] ig29 ag29 qg29 rg29 (by rfl) ?_
          exact ft_ret mi_k55 (by rfl) (hP  _ _ _ _ hGg29 ⟨trivial, (cNu_of hD28 (tAdd og29.1 (kg29.fi 6274 rfl) (kg29.fi 6275 rfl)))⟩)
  exact lp2 _ _ _ _ _ _ _ (kG_self _ hG.I hG.R) (op36 kop0) (by rw [kop0]; rfl) (Nat.lt_succ_self _)
set_option maxRecDepth 100000 in
theorem ke230_1000010 {i : Nat → Int32} {a : Nat → List Int32} {q : Nat → List Int64} {r : Nat → Nat} (hI : kI i a q) (hr : kr r)  : km 1 230 [.ref (mi_RO + 10)] (ks i a q r) (kPI (ks i a q r) (fun v => v.toInt = 0)) := by
  have hG := kG_self kW0 hI hr
  refine km_ofPI (q := (mi_h230, mi_c230)) rfl (by decide) (Nat.le_of_ble_eq_true rfl) ?_
  intro P hP
  refine ft_go mi_k230 5 14 [(0, .ref (mi_RO + 10))] [.int 0] i a q r (by rfl) ?_
  exact ft_ret mi_k230 (by rfl) (hP 0 (op41 kop0))
set_option maxRecDepth 100000 in
theorem ke227_1000010 {i : Nat → Int32} {a : Nat → List Int32} {q : Nat → List Int64} {r : Nat → Nat} (hI : kI i a q) (hr : kr r)  : km 3 227 [.ref (mi_RO + 10)] (ks i a q r) (kPI (ks i a q r) (fun v => v.toInt = 6)) := by
  have hG := kG_self kW0 hI hr
  refine km_ofPI (q := (mi_h227, mi_c227)) rfl (by decide) (Nat.le_of_ble_eq_true rfl) ?_
  intro P hP
  first | refine ft_go mi_k227 4 6 [(0, .ref (mi_RO + 10))] [.ref (mi_RO + 10), .int 6] i a q r (by rfl) ?_ | refine ko_steps mi_in227 4 _ (6, [(0, .ref (mi_RO + 10))], [.ref (mi_RO + 10), .int 6], (0, 0), ks i a q r) (by rfl) ?_
  refine ko_callPI mi_k227.1 (pc := 6) (ls := [(0, .ref (mi_RO + 10))]) (st := [.ref (mi_RO + 10), .int 6]) (h := ks i a q r) (i := (.invokevirtual 335, 3, 230, 0, 9, 0, 32)) (mi_k227.2 _ _ (by rfl)) (ft_invS mi_pq230 (by rfl)) (cy := mi_c230) mi_pq230 rfl (ke230_1000010 hG.I hG.R ) (by decide) ?_
  intro vg1 hg1
  have z2 : vg1.toInt = 0 := hg1
  refine ko_eq (x1 := (9, [(0, .ref (mi_RO + 10))], [.int 0, .int 6], (0, 0), ks i a q r)) (by rw [(kj_eq (op41 z2) (by decide) : vg1 = 0)]) ?_
  first | refine ft_go mi_k227 1 10 [(0, .ref (mi_RO + 10))] [.int ((6 : Int32) >>> ((0 : Int32) &&& 31))] i a q r (by rfl) ?_ | refine ko_steps mi_in227 1 _ (10, [(0, .ref (mi_RO + 10))], [.int ((6 : Int32) >>> ((0 : Int32) &&& 31))], (0, 0), ks i a q r) (by rfl) ?_
  refine ko_eq (x1 := (10, [(0, .ref (mi_RO + 10))], [.int 6], (0, 0), ks i a q r)) (by rw [(by decide : ((6 : Int32) >>> ((0 : Int32) &&& 31) : Int32) = 6)]) ?_
  exact ft_ret mi_k227 (by rfl) (hP 6 (op42 kop6))
set_option maxRecDepth 100000 in
theorem ke232 {i : Nat → Int32} {a : Nat → List Int32} {q : Nat → List Int64} {r : Nat → Nat} (hI : kI i a q) (hr : kr r) (x1 : Int32) : km 1 232 [.int x1] (ks i a q r) (kPI (ks i a q r) (fun v => (v = 1 ∧ (((0 : Int) ≤ x1.toInt) ∧ (x1.toInt ≤ 255))) ∨ (v = 0 ∧ (¬ (((0 : Int) ≤ x1.toInt) ∧ (x1.toInt ≤ 255)))))) := by
  have hG := kG_self kW0 hI hr
  refine km_ofPI (q := (mi_h232, mi_c232)) rfl (by decide) (Nat.le_of_ble_eq_true rfl) ?_
  intro P hP
  refine ft_go mi_k232 1 1 [(0, .int x1)] [.int x1] i a q r (by rfl) ?_
  refine ft_if mi_k232 (decide (x1 < 0)) 15 4 [(0, .int x1)] [] (by rfl) (fun c => ?_) (fun c => ?_)
  ·
    have c1 : x1.toInt < (0 : Int32).toInt := kd_lt c; clear c
    refine ft_go mi_k232 1 16 [(0, .int x1)] [.int 0] i a q r (by rfl) ?_
    exact ft_ret mi_k232 (by rfl) (hP 0 (Or.inr ⟨rfl, (op43 c1 kop0)⟩))
  ·
    have c2 : (0 : Int32).toInt ≤ x1.toInt := kd_ltF c; clear c
    refine ft_go mi_k232 2 8 [(0, .int x1)] [.int 255, .int x1] i a q r (by rfl) ?_
    refine ft_if mi_k232 (decide (255 < x1)) 15 11 [(0, .int x1)] [] (by rfl) (fun c => ?_) (fun c => ?_)
    ·
      have c3 : (255 : Int32).toInt < x1.toInt := kd_lt c; clear c
      refine ft_go mi_k232 1 16 [(0, .int x1)] [.int 0] i a q r (by rfl) ?_
      exact ft_ret mi_k232 (by rfl) (hP 0 (Or.inr ⟨rfl, (op44 c3 kop255)⟩))
    ·
      have c4 : x1.toInt ≤ (255 : Int32).toInt := kd_ltF c; clear c
      refine ft_go mi_k232 2 16 [(0, .int x1)] [.int 1] i a q r (by rfl) ?_
      exact ft_ret mi_k232 (by rfl) (hP 1 (Or.inl ⟨rfl, (op45 c2 c4 kop0 kop255)⟩))
set_option maxRecDepth 100000 in
theorem ke234_1000020_l10_l26 {i : Nat → Int32} {a : Nat → List Int32} {q : Nat → List Int64} {r : Nat → Nat} (hI : kI i a q) (hr : kr r) (x2 : Int32) (hp0 : ((0 : Int) ≤ x2.toInt) ∧ (x2.toInt ≤ 255)) : km 1 234 [.ref (mi_RO + 20), .int x2, .int 0, .int 6] (ks i a q r) (kPI (ks i a q r) (fun v => (((-1) : Int) ≤ v.toInt) ∧ (v.toInt ≤ 5) ∧ (((x2.toInt = 119) → (v.toInt = 0))) ∧ (((x2.toInt = 112) → (v.toInt = 1))) ∧ (((x2.toInt = 104) → (v.toInt = 2))) ∧ (((x2.toInt = 110) → (v.toInt = 3))) ∧ (((x2.toInt = 111) → (v.toInt = 4))) ∧ (((x2.toInt = 100) → (v.toInt = 5))) ∧ (((v.toInt = 0) → (x2.toInt = 119))) ∧ (((v.toInt = 1) → (x2.toInt = 112))) ∧ (((v.toInt = 2) → (x2.toInt = 104))) ∧ (((v.toInt = 3) → (x2.toInt = 110))) ∧ (((v.toInt = 4) → (x2.toInt = 111))) ∧ (((v.toInt = 5) → (x2.toInt = 100))) ∧ ((v.toInt = (-1)) ∨ (x2.toInt = 119) ∨ (x2.toInt = 112) ∨ (x2.toInt = 104) ∨ (x2.toInt = 110) ∨ (x2.toInt = 111) ∨ (x2.toInt = 100)))) := by
  have hG := kG_self kW0 hI hr
  refine km_ofPI (q := (mi_h234, mi_c234)) rfl (by decide) (Nat.le_of_ble_eq_true rfl) ?_
  intro P hP
  have s1 : ((x2.toInt ≤ 127 → x2.toInt8.toInt32.toInt = x2.toInt)) ∧ ((128 ≤ x2.toInt → x2.toInt8.toInt32.toInt = x2.toInt - 256)) := kd_i2b (op4 hp0.1) (op40 hp0.2)
  first | refine ft_go mi_k234 12 19 [(5, .int 0), (4, .int x2.toInt8.toInt32), (0, .ref (mi_RO + 20)), (1, .int x2), (2, .int 0), (3, .int 6)] [.int x2.toInt8.toInt32, .int 119] i a q r (by rfl) ?_ | refine ko_steps mi_in234 12 _ (19, [(5, .int 0), (4, .int x2.toInt8.toInt32), (0, .ref (mi_RO + 20)), (1, .int x2), (2, .int 0), (3, .int 6)], [.int x2.toInt8.toInt32, .int 119], (0, 0), ks i a q r) (by rfl) ?_
  refine ft_if mi_k234 (119 != x2.toInt8.toInt32) 25 22 [(5, .int 0), (4, .int x2.toInt8.toInt32), (0, .ref (mi_RO + 20)), (1, .int x2), (2, .int 0), (3, .int 6)] [] (by rfl) (fun c => ?_) (fun c => ?_)
  ·
    have c2 : (119 : Int32).toInt ≠ x2.toInt8.toInt32.toInt := kd_ne c; clear c
    first | refine ft_go mi_k234 1 28 [(5, .int (0 + 1)), (4, .int x2.toInt8.toInt32), (0, .ref (mi_RO + 20)), (1, .int x2), (2, .int 0), (3, .int 6)] [] i a q r (by rfl) ?_ | refine ko_steps mi_in234 1 _ (28, [(5, .int (0 + 1)), (4, .int x2.toInt8.toInt32), (0, .ref (mi_RO + 20)), (1, .int x2), (2, .int 0), (3, .int 6)], [], (0, 0), ks i a q r) (by rfl) ?_
    refine ko_eq (x1 := (28, [(5, .int 1), (4, .int x2.toInt8.toInt32), (0, .ref (mi_RO + 20)), (1, .int x2), (2, .int 0), (3, .int 6)], [], (0, 0), ks i a q r)) (by rw [(by decide : (0 + 1 : Int32) = 1)]) ?_
    first | refine ft_go mi_k234 8 19 [(5, .int 1), (4, .int x2.toInt8.toInt32), (0, .ref (mi_RO + 20)), (1, .int x2), (2, .int 0), (3, .int 6)] [.int x2.toInt8.toInt32, .int 112] i a q r (by rfl) ?_ | refine ko_steps mi_in234 8 _ (19, [(5, .int 1), (4, .int x2.toInt8.toInt32), (0, .ref (mi_RO + 20)), (1, .int x2), (2, .int 0), (3, .int 6)], [.int x2.toInt8.toInt32, .int 112], (0, 0), ks i a q r) (by rfl) ?_
    refine ft_if mi_k234 (112 != x2.toInt8.toInt32) 25 22 [(5, .int 1), (4, .int x2.toInt8.toInt32), (0, .ref (mi_RO + 20)), (1, .int x2), (2, .int 0), (3, .int 6)] [] (by rfl) (fun c => ?_) (fun c => ?_)
    ·
      have c3 : (112 : Int32).toInt ≠ x2.toInt8.toInt32.toInt := kd_ne c; clear c
      first | refine ft_go mi_k234 1 28 [(5, .int (1 + 1)), (4, .int x2.toInt8.toInt32), (0, .ref (mi_RO + 20)), (1, .int x2), (2, .int 0), (3, .int 6)] [] i a q r (by rfl) ?_ | refine ko_steps mi_in234 1 _ (28, [(5, .int (1 + 1)), (4, .int x2.toInt8.toInt32), (0, .ref (mi_RO + 20)), (1, .int x2), (2, .int 0), (3, .int 6)], [], (0, 0), ks i a q r) (by rfl) ?_
      refine ko_eq (x1 := (28, [(5, .int 2), (4, .int x2.toInt8.toInt32), (0, .ref (mi_RO + 20)), (1, .int x2), (2, .int 0), (3, .int 6)], [], (0, 0), ks i a q r)) (by rw [(by decide : (1 + 1 : Int32) = 2)]) ?_
      first | refine ft_go mi_k234 8 19 [(5, .int 2), (4, .int x2.toInt8.toInt32), (0, .ref (mi_RO + 20)), (1, .int x2), (2, .int 0), (3, .int 6)] [.int x2.toInt8.toInt32, .int 104] i a q r (by rfl) ?_ | refine ko_steps mi_in234 8 _ (19, [(5, .int 2), (4, .int x2.toInt8.toInt32), (0, .ref (mi_RO + 20)), (1, .int x2), (2, .int 0), (3, .int 6)], [.int x2.toInt8.toInt32, .int 104], (0, 0), ks i a q r) (by rfl) ?_
      refine ft_if mi_k234 (104 != x2.toInt8.toInt32) 25 22 [(5, .int 2), (4, .int x2.toInt8.toInt32), (0, .ref (mi_RO + 20)), (1, .int x2), (2, .int 0), (3, .int 6)] [] (by rfl) (fun c => ?_) (fun c => ?_)
      ·
        have c4 : (104 : Int32).toInt ≠ x2.toInt8.toInt32.toInt := kd_ne c; clear c
        first | refine ft_go mi_k234 1 28 [(5, .int (2 + 1)), (4, .int x2.toInt8.toInt32), (0, .ref (mi_RO + 20)), (1, .int x2), (2, .int 0), (3, .int 6)] [] i a q r (by rfl) ?_ | refine ko_steps mi_in234 1 _ (28, [(5, .int (2 + 1)), (4, .int x2.toInt8.toInt32), (0, .ref (mi_RO + 20)), (1, .int x2), (2, .int 0), (3, .int 6)], [], (0, 0), ks i a q r) (by rfl) ?_
        refine ko_eq (x1 := (28, [(5, .int 3), (4, .int x2.toInt8.toInt32), (0, .ref (mi_RO + 20)), (1, .int x2), (2, .int 0), (3, .int 6)], [], (0, 0), ks i a q r)) (by rw [(by decide : (2 + 1 : Int32) = 3)]) ?_
        first | refine ft_go mi_k234 8 19 [(5, .int 3), (4, .int x2.toInt8.toInt32), (0, .ref (mi_RO + 20)), (1, .int x2), (2, .int 0), (3, .int 6)] [.int x2.toInt8.toInt32, .int 110] i a q r (by rfl) ?_ | refine ko_steps mi_in234 8 _ (19, [(5, .int 3), (4, .int x2.toInt8.toInt32), (0, .ref (mi_RO + 20)), (1, .int x2), (2, .int 0), (3, .int 6)], [.int x2.toInt8.toInt32, .int 110], (0, 0), ks i a q r) (by rfl) ?_
        refine ft_if mi_k234 (110 != x2.toInt8.toInt32) 25 22 [(5, .int 3), (4, .int x2.toInt8.toInt32), (0, .ref (mi_RO + 20)), (1, .int x2), (2, .int 0), (3, .int 6)] [] (by rfl) (fun c => ?_) (fun c => ?_)
        ·
          have c5 : (110 : Int32).toInt ≠ x2.toInt8.toInt32.toInt := kd_ne c; clear c
          first | refine ft_go mi_k234 1 28 [(5, .int (3 + 1)), (4, .int x2.toInt8.toInt32), (0, .ref (mi_RO + 20)), (1, .int x2), (2, .int 0), (3, .int 6)] [] i a q r (by rfl) ?_ | refine ko_steps mi_in234 1 _ (28, [(5, .int (3 + 1)), (4, .int x2.toInt8.toInt32), (0, .ref (mi_RO + 20)), (1, .int x2), (2, .int 0), (3, .int 6)], [], (0, 0), ks i a q r) (by rfl) ?_
          refine ko_eq (x1 := (28, [(5, .int 4), (4, .int x2.toInt8.toInt32), (0, .ref (mi_RO + 20)), (1, .int x2), (2, .int 0), (3, .int 6)], [], (0, 0), ks i a q r)) (by rw [(by decide : (3 + 1 : Int32) = 4)]) ?_
          first | refine ft_go mi_k234 8 19 [(5, .int 4), (4, .int x2.toInt8.toInt32), (0, .ref (mi_RO + 20)), (1, .int x2), (2, .int 0), (3, .int 6)] [.int x2.toInt8.toInt32, .int 111] i a q r (by rfl) ?_ | refine ko_steps mi_in234 8 _ (19, [(5, .int 4), (4, .int x2.toInt8.toInt32), (0, .ref (mi_RO + 20)), (1, .int x2), (2, .int 0), (3, .int 6)], [.int x2.toInt8.toInt32, .int 111], (0, 0), ks i a q r) (by rfl) ?_
          refine ft_if mi_k234 (111 != x2.toInt8.toInt32) 25 22 [(5, .int 4), (4, .int x2.toInt8.toInt32), (0, .ref (mi_RO + 20)), (1, .int x2), (2, .int 0), (3, .int 6)] [] (by rfl) (fun c => ?_) (fun c => ?_)
          ·
            have c6 : (111 : Int32).toInt ≠ x2.toInt8.toInt32.toInt := kd_ne c; clear c
            first | refine ft_go mi_k234 1 28 [(5, .int (4 + 1)), (4, .int x2.toInt8.toInt32), (0, .ref (mi_RO + 20)), (1, .int x2), (2, .int 0), (3, .int 6)] [] i a q r (by rfl) ?_ | refine ko_steps mi_in234 1 _ (28, [(5, .int (4 + 1)), (4, .int x2.toInt8.toInt32), (0, .ref (mi_RO + 20)), (1, .int x2), (2, .int 0), (3, .int 6)], [], (0, 0), ks i a q r) (by rfl) ?_
            refine ko_eq (x1 := (28, [(5, .int 5), (4, .int x2.toInt8.toInt32), (0, .ref (mi_RO + 20)), (1, .int x2), (2, .int 0), (3, .int 6)], [], (0, 0), ks i a q r)) (by rw [(by decide : (4 + 1 : Int32) = 5)]) ?_
            first | refine ft_go mi_k234 8 19 [(5, .int 5), (4, .int x2.toInt8.toInt32), (0, .ref (mi_RO + 20)), (1, .int x2), (2, .int 0), (3, .int 6)] [.int x2.toInt8.toInt32, .int 100] i a q r (by rfl) ?_ | refine ko_steps mi_in234 8 _ (19, [(5, .int 5), (4, .int x2.toInt8.toInt32), (0, .ref (mi_RO + 20)), (1, .int x2), (2, .int 0), (3, .int 6)], [.int x2.toInt8.toInt32, .int 100], (0, 0), ks i a q r) (by rfl) ?_
            refine ft_if mi_k234 (100 != x2.toInt8.toInt32) 25 22 [(5, .int 5), (4, .int x2.toInt8.toInt32), (0, .ref (mi_RO + 20)), (1, .int x2), (2, .int 0), (3, .int 6)] [] (by rfl) (fun c => ?_) (fun c => ?_)
            ·
              have c7 : (100 : Int32).toInt ≠ x2.toInt8.toInt32.toInt := kd_ne c; clear c
              first | refine ft_go mi_k234 1 28 [(5, .int (5 + 1)), (4, .int x2.toInt8.toInt32), (0, .ref (mi_RO + 20)), (1, .int x2), (2, .int 0), (3, .int 6)] [] i a q r (by rfl) ?_ | refine ko_steps mi_in234 1 _ (28, [(5, .int (5 + 1)), (4, .int x2.toInt8.toInt32), (0, .ref (mi_RO + 20)), (1, .int x2), (2, .int 0), (3, .int 6)], [], (0, 0), ks i a q r) (by rfl) ?_
              refine ko_eq (x1 := (28, [(5, .int 6), (4, .int x2.toInt8.toInt32), (0, .ref (mi_RO + 20)), (1, .int x2), (2, .int 0), (3, .int 6)], [], (0, 0), ks i a q r)) (by rw [(by decide : (5 + 1 : Int32) = 6)]) ?_
              first | refine ft_go mi_k234 5 32 [(5, .int 6), (4, .int x2.toInt8.toInt32), (0, .ref (mi_RO + 20)), (1, .int x2), (2, .int 0), (3, .int 6)] [.int (-1)] i a q r (by rfl) ?_ | refine ko_steps mi_in234 5 _ (32, [(5, .int 6), (4, .int x2.toInt8.toInt32), (0, .ref (mi_RO + 20)), (1, .int x2), (2, .int 0), (3, .int 6)], [.int (-1)], (0, 0), ks i a q r) (by rfl) ?_
              exact ft_ret mi_k234 (by rfl) (hP (-1) (op46 c2 c3 c4 c5 c6 c7 s1.1 kop119 kop112 kop104 kop110 kop111 kop100 kopm1))
            ·
              have c8 : (100 : Int32).toInt = x2.toInt8.toInt32.toInt := kd_neF c; clear c
              first | refine ft_go mi_k234 1 24 [(5, .int 5), (4, .int x2.toInt8.toInt32), (0, .ref (mi_RO + 20)), (1, .int x2), (2, .int 0), (3, .int 6)] [.int 5] i a q r (by rfl) ?_ | refine ko_steps mi_in234 1 _ (24, [(5, .int 5), (4, .int x2.toInt8.toInt32), (0, .ref (mi_RO + 20)), (1, .int x2), (2, .int 0), (3, .int 6)], [.int 5], (0, 0), ks i a q r) (by rfl) ?_
              exact ft_ret mi_k234 (by rfl) (hP 5 (op47 c8 hp0.2 s1.1 s1.2 kop100 kop5))
          ·
            have c9 : (111 : Int32).toInt = x2.toInt8.toInt32.toInt := kd_neF c; clear c
            first | refine ft_go mi_k234 1 24 [(5, .int 4), (4, .int x2.toInt8.toInt32), (0, .ref (mi_RO + 20)), (1, .int x2), (2, .int 0), (3, .int 6)] [.int 4] i a q r (by rfl) ?_ | refine ko_steps mi_in234 1 _ (24, [(5, .int 4), (4, .int x2.toInt8.toInt32), (0, .ref (mi_RO + 20)), (1, .int x2), (2, .int 0), (3, .int 6)], [.int 4], (0, 0), ks i a q r) (by rfl) ?_
            exact ft_ret mi_k234 (by rfl) (hP 4 (op48 c9 hp0.2 s1.1 s1.2 kop111 kop4))
        ·
          have c10 : (110 : Int32).toInt = x2.toInt8.toInt32.toInt := kd_neF c; clear c
          first | refine ft_go mi_k234 1 24 [(5, .int 3), (4, .int x2.toInt8.toInt32), (0, .ref (mi_RO + 20)), (1, .int x2), (2, .int 0), (3, .int 6)] [.int 3] i a q r (by rfl) ?_ | refine ko_steps mi_in234 1 _ (24, [(5, .int 3), (4, .int x2.toInt8.toInt32), (0, .ref (mi_RO + 20)), (1, .int x2), (2, .int 0), (3, .int 6)], [.int 3], (0, 0), ks i a q r) (by rfl) ?_
          exact ft_ret mi_k234 (by rfl) (hP 3 (op49 c10 hp0.2 s1.1 s1.2 kop110 kop3))
      ·
        have c11 : (104 : Int32).toInt = x2.toInt8.toInt32.toInt := kd_neF c; clear c
        first | refine ft_go mi_k234 1 24 [(5, .int 2), (4, .int x2.toInt8.toInt32), (0, .ref (mi_RO + 20)), (1, .int x2), (2, .int 0), (3, .int 6)] [.int 2] i a q r (by rfl) ?_ | refine ko_steps mi_in234 1 _ (24, [(5, .int 2), (4, .int x2.toInt8.toInt32), (0, .ref (mi_RO + 20)), (1, .int x2), (2, .int 0), (3, .int 6)], [.int 2], (0, 0), ks i a q r) (by rfl) ?_
        exact ft_ret mi_k234 (by rfl) (hP 2 (op50 c11 hp0.2 s1.1 s1.2 kop104 kop2))
    ·
      have c12 : (112 : Int32).toInt = x2.toInt8.toInt32.toInt := kd_neF c; clear c
      first | refine ft_go mi_k234 1 24 [(5, .int 1), (4, .int x2.toInt8.toInt32), (0, .ref (mi_RO + 20)), (1, .int x2), (2, .int 0), (3, .int 6)] [.int 1] i a q r (by rfl) ?_ | refine ko_steps mi_in234 1 _ (24, [(5, .int 1), (4, .int x2.toInt8.toInt32), (0, .ref (mi_RO + 20)), (1, .int x2), (2, .int 0), (3, .int 6)], [.int 1], (0, 0), ks i a q r) (by rfl) ?_
      exact ft_ret mi_k234 (by rfl) (hP 1 (op51 c12 hp0.2 s1.1 s1.2 kop112 kop1))
  ·
    have c13 : (119 : Int32).toInt = x2.toInt8.toInt32.toInt := kd_neF c; clear c
    first | refine ft_go mi_k234 1 24 [(5, .int 0), (4, .int x2.toInt8.toInt32), (0, .ref (mi_RO + 20)), (1, .int x2), (2, .int 0), (3, .int 6)] [.int 0] i a q r (by rfl) ?_ | refine ko_steps mi_in234 1 _ (24, [(5, .int 0), (4, .int x2.toInt8.toInt32), (0, .ref (mi_RO + 20)), (1, .int x2), (2, .int 0), (3, .int 6)], [.int 0], (0, 0), ks i a q r) (by rfl) ?_
    exact ft_ret mi_k234 (by rfl) (hP 0 (op52 c13 hp0.2 s1.1 s1.2 kop119 kop0))
set_option maxRecDepth 100000 in
theorem ke233_1000020_l10_l26 {i : Nat → Int32} {a : Nat → List Int32} {q : Nat → List Int64} {r : Nat → Nat} (hI : kI i a q) (hr : kr r) (x2 : Int32) (hp0 : ((0 : Int) ≤ x2.toInt) ∧ (x2.toInt ≤ 255)) : km 3 233 [.ref (mi_RO + 20), .int x2, .int 0, .int 6] (ks i a q r) (kPI (ks i a q r) (fun v => (((-1) : Int) ≤ v.toInt) ∧ (v.toInt ≤ 5) ∧ (((x2.toInt = 119) → (v.toInt = 0))) ∧ (((x2.toInt = 112) → (v.toInt = 1))) ∧ (((x2.toInt = 104) → (v.toInt = 2))) ∧ (((x2.toInt = 110) → (v.toInt = 3))) ∧ (((x2.toInt = 111) → (v.toInt = 4))) ∧ (((x2.toInt = 100) → (v.toInt = 5))) ∧ (((v.toInt = 0) → (x2.toInt = 119))) ∧ (((v.toInt = 1) → (x2.toInt = 112))) ∧ (((v.toInt = 2) → (x2.toInt = 104))) ∧ (((v.toInt = 3) → (x2.toInt = 110))) ∧ (((v.toInt = 4) → (x2.toInt = 111))) ∧ (((v.toInt = 5) → (x2.toInt = 100))) ∧ ((v.toInt = (-1)) ∨ (x2.toInt = 119) ∨ (x2.toInt = 112) ∨ (x2.toInt = 104) ∨ (x2.toInt = 110) ∨ (x2.toInt = 111) ∨ (x2.toInt = 100)))) := by
  have hG := kG_self kW0 hI hr
  refine km_ofPI (q := (mi_h233, mi_c233)) rfl (by decide) (Nat.le_of_ble_eq_true rfl) ?_
  intro P hP
  first | refine ft_go mi_k233 1 1 [(0, .ref (mi_RO + 20)), (1, .int x2), (2, .int 0), (3, .int 6)] [.int x2] i a q r (by rfl) ?_ | refine ko_steps mi_in233 1 _ (1, [(0, .ref (mi_RO + 20)), (1, .int x2), (2, .int 0), (3, .int 6)], [.int x2], (0, 0), ks i a q r) (by rfl) ?_
  refine ko_callPI mi_k233.1 (pc := 1) (ls := [(0, .ref (mi_RO + 20)), (1, .int x2), (2, .int 0), (3, .int 6)]) (st := [.int x2]) (h := ks i a q r) (i := (.invokestatic 88, 3, 232, 0, 9, 0, 195)) (mi_k233.2 _ _ (by rfl)) (ft_invS mi_pq232 (by rfl)) (cy := mi_c232) mi_pq232 rfl (ke232 hG.I hG.R x2) (by decide) ?_
  intro vg1 hg1
  rcases hg1 with ⟨eg1, hg1⟩ | ⟨eg1, hg1⟩
  ·
    subst eg1
    have z2 : ((0 : Int) ≤ x2.toInt) ∧ (x2.toInt ≤ 255) := hg1
    first | refine ft_go mi_k233 4 14 [(0, .ref (mi_RO + 20)), (1, .int x2), (2, .int 0), (3, .int 6)] [.int (bif decide ((0 : Int32) < 0) then 0 else 0)] i a q r (by rfl) ?_ | refine ko_steps mi_in233 4 _ (14, [(0, .ref (mi_RO + 20)), (1, .int x2), (2, .int 0), (3, .int 6)], [.int (bif decide ((0 : Int32) < 0) then 0 else 0)], (0, 0), ks i a q r) (by rfl) ?_
    refine ko_eq (x1 := (14, [(0, .ref (mi_RO + 20)), (1, .int x2), (2, .int 0), (3, .int 6)], [.int 0], (0, 0), ks i a q r)) (by rw [(by decide : (bif decide ((0 : Int32) < 0) then 0 else 0 : Int32) = 0)]) ?_
    first | refine ft_go mi_k233 5 21 [(2, .int 0), (0, .ref (mi_RO + 20)), (1, .int x2), (3, .int 6)] [.int (bif decide ((6 : Int32) < 6) then 6 else 6)] i a q r (by rfl) ?_ | refine ko_steps mi_in233 5 _ (21, [(2, .int 0), (0, .ref (mi_RO + 20)), (1, .int x2), (3, .int 6)], [.int (bif decide ((6 : Int32) < 6) then 6 else 6)], (0, 0), ks i a q r) (by rfl) ?_
    refine ko_eq (x1 := (21, [(2, .int 0), (0, .ref (mi_RO + 20)), (1, .int x2), (3, .int 6)], [.int 6], (0, 0), ks i a q r)) (by rw [(by decide : (bif decide ((6 : Int32) < 6) then 6 else 6 : Int32) = 6)]) ?_
    first | refine ft_go mi_k233 8 33 [(3, .int 6), (2, .int 0), (0, .ref (mi_RO + 20)), (1, .int x2)] [.int 6, .int 0, .int x2, .ref (mi_RO + 20)] i a q r (by rfl) ?_ | refine ko_steps mi_in233 8 _ (33, [(3, .int 6), (2, .int 0), (0, .ref (mi_RO + 20)), (1, .int x2)], [.int 6, .int 0, .int x2, .ref (mi_RO + 20)], (0, 0), ks i a q r) (by rfl) ?_
    refine ko_callPI mi_k233.1 (pc := 33) (ls := [(3, .int 6), (2, .int 0), (0, .ref (mi_RO + 20)), (1, .int x2)]) (st := [.int 6, .int 0, .int x2, .ref (mi_RO + 20)]) (h := ks i a q r) (i := (.invokestatic 95, 3, 234, 0, 9, 0, 198)) (mi_k233.2 _ _ (by rfl)) (ft_invS mi_pq234 (by rfl)) (cy := mi_c234) mi_pq234 rfl (ke234_1000020_l10_l26 hG.I hG.R x2 (op53 hp0.1 hp0.2)) (by decide) ?_
    intro vg3 hg3
    have z4 : (((-1) : Int) ≤ vg3.toInt) ∧ (vg3.toInt ≤ 5) ∧ (((x2.toInt = 119) → (vg3.toInt = 0))) ∧ (((x2.toInt = 112) → (vg3.toInt = 1))) ∧ (((x2.toInt = 104) → (vg3.toInt = 2))) ∧ (((x2.toInt = 110) → (vg3.toInt = 3))) ∧ (((x2.toInt = 111) → (vg3.toInt = 4))) ∧ (((x2.toInt = 100) → (vg3.toInt = 5))) ∧ (((vg3.toInt = 0) → (x2.toInt = 119))) ∧ (((vg3.toInt = 1) → (x2.toInt = 112))) ∧ (((vg3.toInt = 2) → (x2.toInt = 104))) ∧ (((vg3.toInt = 3) → (x2.toInt = 110))) ∧ (((vg3.toInt = 4) → (x2.toInt = 111))) ∧ (((vg3.toInt = 5) → (x2.toInt = 100))) ∧ ((vg3.toInt = (-1)) ∨ (x2.toInt = 119) ∨ (x2.toInt = 112) ∨ (x2.toInt = 104) ∨ (x2.toInt = 110) ∨ (x2.toInt = 111) ∨ (x2.toInt = 100)) := hg3
    exact ft_ret mi_k233 (by rfl) (hP vg3 (op54 z4.1 z4.2.1 z4.2.2.1 z4.2.2.2.1 z4.2.2.2.2.1 z4.2.2.2.2.2.1 z4.2.2.2.2.2.2.1 z4.2.2.2.2.2.2.2.1 z4.2.2.2.2.2.2.2.2.1 z4.2.2.2.2.2.2.2.2.2.1 z4.2.2.2.2.2.2.2.2.2.2.1 z4.2.2.2.2.2.2.2.2.2.2.2.1 z4.2.2.2.2.2.2.2.2.2.2.2.2.1 z4.2.2.2.2.2.2.2.2.2.2.2.2.2.1 z4.2.2.2.2.2.2.2.2.2.2.2.2.2.2))
  ·
    subst eg1
    have z5 : ¬ (((0 : Int) ≤ x2.toInt) ∧ (x2.toInt ≤ 255)) := hg1
    exact (op55 hp0.1 hp0.2 z5).elim
set_option maxRecDepth 100000 in
theorem ke229_1000010_l10 {i : Nat → Int32} {a : Nat → List Int32} {q : Nat → List Int64} {r : Nat → Nat} (hI : kI i a q) (hr : kr r) (x1 : Int32) (hp0 : ((0 : Int) ≤ x1.toInt) ∧ (x1.toInt ≤ 255)) : km 5 229 [.ref (mi_RO + 10), .int x1, .int 0] (ks i a q r) (kPI (ks i a q r) (fun v => (((-1) : Int) ≤ v.toInt) ∧ (v.toInt ≤ 5) ∧ (((x1.toInt = 119) → (v.toInt = 0))) ∧ (((x1.toInt = 112) → (v.toInt = 1))) ∧ (((x1.toInt = 104) → (v.toInt = 2))) ∧ (((x1.toInt = 110) → (v.toInt = 3))) ∧ (((x1.toInt = 111) → (v.toInt = 4))) ∧ (((x1.toInt = 100) → (v.toInt = 5))) ∧ (((v.toInt = 0) → (x1.toInt = 119))) ∧ (((v.toInt = 1) → (x1.toInt = 112))) ∧ (((v.toInt = 2) → (x1.toInt = 104))) ∧ (((v.toInt = 3) → (x1.toInt = 110))) ∧ (((v.toInt = 4) → (x1.toInt = 111))) ∧ (((v.toInt = 5) → (x1.toInt = 100))) ∧ ((v.toInt = (-1)) ∨ (x1.toInt = 119) ∨ (x1.toInt = 112) ∨ (x1.toInt = 104) ∨ (x1.toInt = 110) ∨ (x1.toInt = 111) ∨ (x1.toInt = 100)))) := by
  have hG := kG_self kW0 hI hr
  refine km_ofPI (q := (mi_h229, mi_c229)) rfl (by decide) (Nat.le_of_ble_eq_true rfl) ?_
  intro P hP
  refine ft_go mi_k229 1 1 [(0, .ref (mi_RO + 10)), (1, .int x1), (2, .int 0)] [.ref (mi_RO + 10)] i a q r (by rfl) ?_
  refine ko_callPI mi_k229.1 (pc := 1) (ls := [(0, .ref (mi_RO + 10)), (1, .int x1), (2, .int 0)]) (st := [.ref (mi_RO + 10)]) (h := ks i a q r) (i := (.invokevirtual 492, 3, 231, 0, 9, 0, 192)) (mi_k229.2 _ _ (by rfl)) (ft_invS mi_pq231 (by rfl)) (cy := mi_c231) mi_pq231 rfl (kc231_S10 hG.I hG.R ) (by decide) ?_
  intro vg1 hg1
  rcases hg1 with ⟨eg1, hg1⟩ | ⟨eg1, hg1⟩
  ·
    subst eg1
    refine ft_go mi_k229 6 14 [(0, .ref (mi_RO + 10)), (1, .int x1), (2, .int 0)] [.ref (mi_RO + 10), .int 0, .int x1, .ref (mi_RO + 20)] i a q r (by rfl) ?_
    refine ko_callPI mi_k229.1 (pc := 14) (ls := [(0, .ref (mi_RO + 10)), (1, .int x1), (2, .int 0)]) (st := [.ref (mi_RO + 10), .int 0, .int x1, .ref (mi_RO + 20)]) (h := ks i a q r) (i := (.invokevirtual 505, 3, 227, 0, 9, 0, 193)) (mi_k229.2 _ _ (by rfl)) (ft_invS mi_pq227 (by rfl)) (cy := mi_c227) mi_pq227 rfl (ke227_1000010 hG.I hG.R ) (by decide) ?_
    intro vg2 hg2
    have z3 : vg2.toInt = 6 := hg2
    refine ko_eq (x1 := (17, [(0, .ref (mi_RO + 10)), (1, .int x1), (2, .int 0)], [.int 6, .int 0, .int x1, .ref (mi_RO + 20)], (0, 0), ks i a q r)) (by rw [(kj_eq (op42 z3) (by decide) : vg2 = 6)]) ?_
    refine ko_callPI mi_k229.1 (pc := 17) (ls := [(0, .ref (mi_RO + 10)), (1, .int x1), (2, .int 0)]) (st := [.int 6, .int 0, .int x1, .ref (mi_RO + 20)]) (h := ks i a q r) (i := (.invokestatic 637, 3, 233, 0, 9, 0, 194)) (mi_k229.2 _ _ (by rfl)) (ft_invS mi_pq233 (by rfl)) (cy := mi_c233) mi_pq233 rfl (ke233_1000020_l10_l26 hG.I hG.R x1 (op53 hp0.1 hp0.2)) (by decide) ?_
    intro vg4 hg4
    have z5 : (((-1) : Int) ≤ vg4.toInt) ∧ (vg4.toInt ≤ 5) ∧ (((x1.toInt = 119) → (vg4.toInt = 0))) ∧ (((x1.toInt = 112) → (vg4.toInt = 1))) ∧ (((x1.toInt = 104) → (vg4.toInt = 2))) ∧ (((x1.toInt = 110) → (vg4.toInt = 3))) ∧ (((x1.toInt = 111) → (vg4.toInt = 4))) ∧ (((x1.toInt = 100) → (vg4.toInt = 5))) ∧ (((vg4.toInt = 0) → (x1.toInt = 119))) ∧ (((vg4.toInt = 1) → (x1.toInt = 112))) ∧ (((vg4.toInt = 2) → (x1.toInt = 104))) ∧ (((vg4.toInt = 3) → (x1.toInt = 110))) ∧ (((vg4.toInt = 4) → (x1.toInt = 111))) ∧ (((vg4.toInt = 5) → (x1.toInt = 100))) ∧ ((vg4.toInt = (-1)) ∨ (x1.toInt = 119) ∨ (x1.toInt = 112) ∨ (x1.toInt = 104) ∨ (x1.toInt = 110) ∨ (x1.toInt = 111) ∨ (x1.toInt = 100)) := hg4
    refine ft_go mi_k229 1 36 [(0, .ref (mi_RO + 10)), (1, .int x1), (2, .int 0)] [.int vg4] i a q r (by rfl) ?_
    exact ft_ret mi_k229 (by rfl) (hP vg4 (op54 z5.1 z5.2.1 z5.2.2.1 z5.2.2.2.1 z5.2.2.2.2.1 z5.2.2.2.2.2.1 z5.2.2.2.2.2.2.1 z5.2.2.2.2.2.2.2.1 z5.2.2.2.2.2.2.2.2.1 z5.2.2.2.2.2.2.2.2.2.1 z5.2.2.2.2.2.2.2.2.2.2.1 z5.2.2.2.2.2.2.2.2.2.2.2.1 z5.2.2.2.2.2.2.2.2.2.2.2.2.1 z5.2.2.2.2.2.2.2.2.2.2.2.2.2.1 z5.2.2.2.2.2.2.2.2.2.2.2.2.2.2))
  ·
    subst eg1
    have z6 : (2 : Int) ≤ 1 := hg1
    exact (op56 z6).elim
set_option maxRecDepth 100000 in
theorem ke228_1000010 {i : Nat → Int32} {a : Nat → List Int32} {q : Nat → List Int64} {r : Nat → Nat} (hI : kI i a q) (hr : kr r) (x1 : Int32) (hp0 : ((0 : Int) ≤ x1.toInt) ∧ (x1.toInt ≤ 255)) : km 7 228 [.ref (mi_RO + 10), .int x1] (ks i a q r) (kPI (ks i a q r) (fun v => (((-1) : Int) ≤ v.toInt) ∧ (v.toInt ≤ 5) ∧ (((x1.toInt = 119) → (v.toInt = 0))) ∧ (((x1.toInt = 112) → (v.toInt = 1))) ∧ (((x1.toInt = 104) → (v.toInt = 2))) ∧ (((x1.toInt = 110) → (v.toInt = 3))) ∧ (((x1.toInt = 111) → (v.toInt = 4))) ∧ (((x1.toInt = 100) → (v.toInt = 5))) ∧ (((v.toInt = 0) → (x1.toInt = 119))) ∧ (((v.toInt = 1) → (x1.toInt = 112))) ∧ (((v.toInt = 2) → (x1.toInt = 104))) ∧ (((v.toInt = 3) → (x1.toInt = 110))) ∧ (((v.toInt = 4) → (x1.toInt = 111))) ∧ (((v.toInt = 5) → (x1.toInt = 100))) ∧ ((v.toInt = (-1)) ∨ (x1.toInt = 119) ∨ (x1.toInt = 112) ∨ (x1.toInt = 104) ∨ (x1.toInt = 110) ∨ (x1.toInt = 111) ∨ (x1.toInt = 100)))) := by
  have hG := kG_self kW0 hI hr
  refine km_ofPI (q := (mi_h228, mi_c228)) rfl (by decide) (Nat.le_of_ble_eq_true rfl) ?_
  intro P hP
  refine ft_go mi_k228 3 3 [(0, .ref (mi_RO + 10)), (1, .int x1)] [.int 0, .int x1, .ref (mi_RO + 10)] i a q r (by rfl) ?_
  refine ko_callPI mi_k228.1 (pc := 3) (ls := [(0, .ref (mi_RO + 10)), (1, .int x1)]) (st := [.int 0, .int x1, .ref (mi_RO + 10)]) (h := ks i a q r) (i := (.invokevirtual 633, 3, 229, 0, 9, 0, 191)) (mi_k228.2 _ _ (by rfl)) (ft_invS mi_pq229 (by rfl)) (cy := mi_c229) mi_pq229 rfl (ke229_1000010_l10 hG.I hG.R x1 (op53 hp0.1 hp0.2)) (by decide) ?_
  intro vg1 hg1
  have z2 : (((-1) : Int) ≤ vg1.toInt) ∧ (vg1.toInt ≤ 5) ∧ (((x1.toInt = 119) → (vg1.toInt = 0))) ∧ (((x1.toInt = 112) → (vg1.toInt = 1))) ∧ (((x1.toInt = 104) → (vg1.toInt = 2))) ∧ (((x1.toInt = 110) → (vg1.toInt = 3))) ∧ (((x1.toInt = 111) → (vg1.toInt = 4))) ∧ (((x1.toInt = 100) → (vg1.toInt = 5))) ∧ (((vg1.toInt = 0) → (x1.toInt = 119))) ∧ (((vg1.toInt = 1) → (x1.toInt = 112))) ∧ (((vg1.toInt = 2) → (x1.toInt = 104))) ∧ (((vg1.toInt = 3) → (x1.toInt = 110))) ∧ (((vg1.toInt = 4) → (x1.toInt = 111))) ∧ (((vg1.toInt = 5) → (x1.toInt = 100))) ∧ ((vg1.toInt = (-1)) ∨ (x1.toInt = 119) ∨ (x1.toInt = 112) ∨ (x1.toInt = 104) ∨ (x1.toInt = 110) ∨ (x1.toInt = 111) ∨ (x1.toInt = 100)) := hg1
  exact ft_ret mi_k228 (by rfl) (hP vg1 (op54 z2.1 z2.2.1 z2.2.2.1 z2.2.2.2.1 z2.2.2.2.2.1 z2.2.2.2.2.2.1 z2.2.2.2.2.2.2.1 z2.2.2.2.2.2.2.2.1 z2.2.2.2.2.2.2.2.2.1 z2.2.2.2.2.2.2.2.2.2.1 z2.2.2.2.2.2.2.2.2.2.2.1 z2.2.2.2.2.2.2.2.2.2.2.2.1 z2.2.2.2.2.2.2.2.2.2.2.2.2.1 z2.2.2.2.2.2.2.2.2.2.2.2.2.2.1 z2.2.2.2.2.2.2.2.2.2.2.2.2.2.2))
def yw47_98_1000010 : kW := ([6274], [], [], [])
set_option maxRecDepth 100000 in
theorem ke47_98_1000010 {i : Nat → Int32} {a : Nat → List Int32} {q : Nat → List Int64} {r : Nat → Nat} (hI : kI i a q) (hr : kr r) (t : List Int32) (nn : Int32) (hT : a 99 = t) (hN : i 6273 = nn) (hX : kBy t) : km 9 47 [.ref 98, .ref (mi_RO + 10)] (ks i a q r) (kVI yw47_98_1000010 i a q r (fun v i1 a1 q1 r1 => (((v.toInt = (-1)) ∧ ((i1 6274).toInt = (i 6274).toInt)) ∨ (((i1 6274).toInt = ((i 6274).toInt + 1)) ∧ ((i 6274).toInt < (i 6273).toInt) ∧ ((i 6275).toInt = 0) ∧ ((v.toInt = 119) ∨ (v.toInt = 112) ∨ (v.toInt = 104) ∨ (v.toInt = 110) ∨ (v.toInt = 111) ∨ (v.toInt = 100)))) ∧ (v, i1 6274) = cOfP t nn oNam (i 6274) (i 6275))) := by
  have hG := kG_self yw47_98_1000010 hI hr
  refine km_ofI (q := (mi_h47, mi_c47)) rfl (by decide) (Nat.le_of_ble_eq_true rfl) ?_
  intro P hP
  have hn1 : (i 6273).toInt = nn.toInt := congrArg Int32.toInt hN
  refine ft_go mi_k47 1 1 [(0, .ref 98), (1, .ref (mi_RO + 10))] [.ref 98] i a q r (by rfl) ?_
  refine ko_callPI mi_k47.1 (pc := 1) (ls := [(0, .ref 98), (1, .ref (mi_RO + 10))]) (st := [.ref 98]) (h := ks i a q r) (i := (.invokevirtual 46, 3, 45, 0, 9, 0, 184)) (mi_k47.2 _ _ (by rfl)) (ft_invS mi_pq45 (by rfl)) (cy := mi_c45) mi_pq45 rfl (ke45_98 hG.I hG.R t nn hT hN hX) (by decide) ?_
  intro vg2 hg2
  obtain ⟨hg2, og2⟩ := hg2
  have fi_6275 : ((0 : Int) ≤ (i 6275).toInt) ∧ ((i 6275).toInt ≤ 1) := hG.I.1 6275
  have fi_6274 : ((0 : Int) ≤ (i 6274).toInt) ∧ ((i 6274).toInt ≤ 120) := hG.I.1 6274
  have fi_6273 : ((0 : Int) ≤ (i 6273).toInt) ∧ ((i 6273).toInt ≤ 120) := hG.I.1 6273
  have z3 : (((-1) : Int) ≤ vg2.toInt) ∧ (vg2.toInt ≤ 255) ∧ ((vg2.toInt = (-1)) ∨ (((i 6275).toInt = 0) ∧ ((i 6274).toInt < (i 6273).toInt))) := hg2
  have q4 : vg2 = cHr t nn (i 6274) (i 6275) := og2
  have hv5 : vg2.toInt = (cHr t nn (i 6274) (i 6275)).toInt := congrArg Int32.toInt og2
  refine ft_go mi_k47 3 7 [(2, .int vg2), (0, .ref 98), (1, .ref (mi_RO + 10))] [.int (-1), .int vg2] i a q r (by rfl) ?_
  refine ft_if mi_k47 (vg2 == (-1)) 19 10 [(2, .int vg2), (0, .ref 98), (1, .ref (mi_RO + 10))] [] (by rfl) (fun c => ?_) (fun c => ?_)
  ·
    have c6 : vg2.toInt = ((-1) : Int32).toInt := kd_eq c; clear c
    refine ft_go mi_k47 1 20 [(2, .int vg2), (0, .ref 98), (1, .ref (mi_RO + 10))] [.int (-1)] i a q r (by rfl) ?_
    exact ft_ret mi_k47 (by rfl) (hP (-1) _ _ _ _ hG ⟨(op37 kopm1), (ofP_n (o := oNam) (decide_eq_false (op38 c6 hv5 kopm1)))⟩)
  ·
    have c7 : vg2.toInt ≠ ((-1) : Int32).toInt := kd_eqF c; clear c
    have s8 : ((vg2.toUInt32 % 65536).toInt32).toInt = vg2.toInt := kd_i2c (op39 c7 z3.1 kopm1) (Int.le_trans (op40 z3.2.1) (by decide))
    refine ft_go mi_k47 3 13 [(2, .int vg2), (0, .ref 98), (1, .ref (mi_RO + 10))] [.int ((vg2.toUInt32 % 65536).toInt32), .ref (mi_RO + 10)] i a q r (by rfl) ?_
    refine ko_callPI mi_k47.1 (pc := 13) (ls := [(2, .int vg2), (0, .ref 98), (1, .ref (mi_RO + 10))]) (st := [.int ((vg2.toUInt32 % 65536).toInt32), .ref (mi_RO + 10)]) (h := ks i a q r) (i := (.invokevirtual 50, 3, 228, 0, 9, 0, 190)) (mi_k47.2 _ _ (by rfl)) (ft_invS mi_pq228 (by rfl)) (cy := mi_c228) mi_pq228 rfl (ke228_1000010 hG.I hG.R ((vg2.toUInt32 % 65536).toInt32) (op57 c7 s8 z3.1 z3.2.1 kopm1)) (by decide) ?_
    intro vg9 hg9
    have z10 : (((-1) : Int) ≤ vg9.toInt) ∧ (vg9.toInt ≤ 5) ∧ (((((vg2.toUInt32 % 65536).toInt32).toInt = 119) → (vg9.toInt = 0))) ∧ (((((vg2.toUInt32 % 65536).toInt32).toInt = 112) → (vg9.toInt = 1))) ∧ (((((vg2.toUInt32 % 65536).toInt32).toInt = 104) → (vg9.toInt = 2))) ∧ (((((vg2.toUInt32 % 65536).toInt32).toInt = 110) → (vg9.toInt = 3))) ∧ (((((vg2.toUInt32 % 65536).toInt32).toInt = 111) → (vg9.toInt = 4))) ∧ (((((vg2.toUInt32 % 65536).toInt32).toInt = 100) → (vg9.toInt = 5))) ∧ (((vg9.toInt = 0) → (((vg2.toUInt32 % 65536).toInt32).toInt = 119))) ∧ (((vg9.toInt = 1) → (((vg2.toUInt32 % 65536).toInt32).toInt = 112))) ∧ (((vg9.toInt = 2) → (((vg2.toUInt32 % 65536).toInt32).toInt = 104))) ∧ (((vg9.toInt = 3) → (((vg2.toUInt32 % 65536).toInt32).toInt = 110))) ∧ (((vg9.toInt = 4) → (((vg2.toUInt32 % 65536).toInt32).toInt = 111))) ∧ (((vg9.toInt = 5) → (((vg2.toUInt32 % 65536).toInt32).toInt = 100))) ∧ ((vg9.toInt = (-1)) ∨ (((vg2.toUInt32 % 65536).toInt32).toInt = 119) ∨ (((vg2.toUInt32 % 65536).toInt32).toInt = 112) ∨ (((vg2.toUInt32 % 65536).toInt32).toInt = 104) ∨ (((vg2.toUInt32 % 65536).toInt32).toInt = 110) ∨ (((vg2.toUInt32 % 65536).toInt32).toInt = 111) ∨ (((vg2.toUInt32 % 65536).toInt32).toInt = 100)) := hg9
    refine ft_if mi_k47 (decide (0 ≤ vg9)) 21 19 [(2, .int vg2), (0, .ref 98), (1, .ref (mi_RO + 10))] [] (by rfl) (fun c => ?_) (fun c => ?_)
    ·
      have c11 : (0 : Int32).toInt ≤ vg9.toInt := kd_le c; clear c
      have s12 : ((i 6274) + 1).toInt = (i 6274).toInt + (1 : Int32).toInt := kd_add (op18 fi_6274.1 kop1) (op26 fi_6274.2 kop1)
      have hJ13 := kG_i hG 6274 rfl (v := ((i 6274) + 1)) ⟨(op20 fi_6274.1 s12 kop1), (op58 c7 fi_6273.2 s12 z3.1 z3.2.2 kopm1 kop1)⟩
      refine ft_go mi_k47 7 32 [(2, .int vg2), (0, .ref 98), (1, .ref (mi_RO + 10))] [.int vg2] (ku i 6274 ((i 6274) + 1)) a q r (by rfl) ?_
      exact ft_ret mi_k47 (by rfl) (hP vg2 _ _ _ _ hJ13 ⟨(op59 c11 fi_6275.1 s12 s8 z10.2.2.2.2.2.2.2.2.2.2.2.2.2.2 z3.2.2 kop0 kop1), (ofP_y (o := oNam) (decide_eq_true (op60 c11 hv5 s8 z10.2.2.2.2.2.2.2.2.2.2.2.2.2.2 kop0)) og2)⟩)
    ·
      have c14 : vg9.toInt < (0 : Int32).toInt := kd_leF c; clear c
      refine ft_go mi_k47 1 20 [(2, .int vg2), (0, .ref 98), (1, .ref (mi_RO + 10))] [.int (-1)] i a q r (by rfl) ?_
      exact ft_ret mi_k47 (by rfl) (hP (-1) _ _ _ _ hG ⟨(op37 kopm1), (ofP_n (o := oNam) (decide_eq_false (op61 c14 hv5 s8 z10.2.2.1 z10.2.2.2.1 z10.2.2.2.2.1 z10.2.2.2.2.2.1 z10.2.2.2.2.2.2.1 z10.2.2.2.2.2.2.2.1 kop0)))⟩)
