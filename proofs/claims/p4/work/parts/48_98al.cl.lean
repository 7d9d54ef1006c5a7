theorem ktou0 : (0 : Int32).toInt = 0 := by decide
theorem ktou1 : (1 : Int32).toInt = 1 := by decide
theorem ktou2 : (2 : Int32).toInt = 2 := by decide
theorem ktou10 : (10 : Int32).toInt = 10 := by decide
theorem ktoum1 : ((-1) : Int32).toInt = (-1) := by decide
theorem ktou20 : (20 : Int32).toInt = 20 := by decide
theorem tou0 {a0 a1 : Int} (h0 : a0 ≤ a1) (h1 : a1 ≤ a0) : a1 = a0 := by omega
theorem tou1 {a0 a1 : Int} (h0 : (0 : Int) ≤ a0) (h1 : a1 = 1) : (-2147483648 : Int) ≤ a0 + a1 := by omega
theorem tou2 {a0 a1 a2 : Int} (h0 : a0 ≤ a1) (h1 : a1 = 0) (h2 : a2 = 1) : a0 + a2 ≤ 2147483647 := by omega
theorem tou3 {a0 a1 a2 : Int} (h0 : (0 : Int) ≤ a0) (h1 : a1 = a0 + a2) (h2 : a2 = 1) : (0 : Int) ≤ a1 := by omega
theorem tou4 {a0 a1 a2 a3 : Int} (h0 : a0 < a1) (h1 : a2 = a0 + a3) (h2 : a3 = 1) : a2 ≤ a1 := by omega
theorem tou5 {a0 a1 a2 : Int} (h0 : a0 = a1 + a2) (h1 : a2 = 1) : a0 = a1 + 1 := by omega
theorem tou6 {a0 a1 : Int} (h0 : a0 ≤ a1) (h1 : (0 : Int) ≤ a0) (h2 : a1 = 0) : a0 = 0 := by omega
theorem tou7 {a0 a1 a2 a3 : Int} (h0 : a0 = a1 + a2) (h1 : a2 = 1) : (a3 - a0) < (a3 - a1) := by omega
theorem tou8 {a0 a1 : Int} (h0 : a0 < a1) : (1 : Int) ≤ (a1 - a0) := by omega
theorem tou9 {a0 a1 a2 : Int} (h0 : a0 < a1) (h1 : a0 = 0) (h2 : a2 = 1) : (-2147483648 : Int) ≤ a1 + a2 := by omega
theorem tou10 {a0 a1 a2 : Int} (h0 : a0 < a1) (h1 : a1 ≤ 20) (h2 : a2 = 1) : a0 + a2 ≤ 2147483647 := by omega
theorem tou11 {a0 a1 a2 a3 : Int} (h0 : a0 < a1) (h1 : a2 = a1 + a3) (h2 : a0 = 0) (h3 : a3 = 1) : (0 : Int) ≤ a2 := by omega
theorem tou12 {a0 a1 : Int} (h0 : a0 < a1) (h1 : a0 = 0) : (1 : Int) ≤ a1 := by omega
theorem tou13 {a0 : Int} (h0 : a0 = 0) : (0 : Int) ≤ a0 := by omega
theorem tou14 {a0 a1 : Int} (h0 : (0 : Int) ≤ a0) (h1 : a1 = 0) : a1 ≤ a0 := by omega
theorem tou15 {a0 a1 : Int} (h0 : a0 ≤ a1) (h1 : a1 = 20) : a0 ≤ 20 := by omega
theorem tou16 {a0 a1 : Int} (h0 : a0 ≤ a1) (h1 : a0 = 0) : (0 : Int) ≤ a1 := by omega
theorem tou17 {a0 a1 : Int} (h0 : a0 ≤ a1) (h1 : a0 = 0) : ¬ (a1 < 0) := by omega
theorem tou18 {a0 : Int} (h0 : (0 : Int) ≤ a0) : (0 : Int) ≤ a0 := by omega
theorem tou19 {a0 a1 : Int} (h0 : a0 ≤ 8) (h1 : a1 < a0) : a1 < 8 := by omega
theorem tou20 {a0 a1 : Int} (h0 : (0 : Int) ≤ a0) (h1 : a0 < a1) : ((0 : Int) ≤ a0) ∧ (a0 < a1) := by omega
theorem tou21 {a0 : Int} (h0 : a0 = 2) : (0 : Int) ≤ a0 := by omega
theorem tou22 {a0 : Int} (h0 : a0 = 2) : a0 < 5 := by omega
theorem tou23 {a0 a1 : Int} (h0 : ¬ (((0 : Int) ≤ a0) ∧ (a0 < a1))) : ¬ (((0 : Int) ≤ a0) ∧ (a0 < a1)) := by omega
theorem tou24 {a0 a1 a2 : Int} (h0 : a0 = a1) (h1 : a1 = (-1)) : ¬ (((0 : Int) ≤ a0) ∧ (a0 < a2)) := by omega
theorem tou25 {a0 a1 a2 a3 a4 a5 : Int} (h0 : a0 = a1) (h1 : a2 ≤ a3) (h2 : a3 ≤ a4) (h3 : a1 = (-1)) (h4 : a2 = 0) (h5 : a4 = 20) : ((0 : Int) ≤ a3) ∧ (a3 ≤ 20) ∧ ((a0 = (-1)) ∨ (((0 : Int) ≤ a0) ∧ (a0 < a5))) := by omega
theorem tou27 {a0 a1 : Int} (h0 : a0 = a1) (h1 : a1 = (-1)) : ¬ (a0 ≠ (-1)) := by omega
theorem tou28 {a0 a1 : Int} (h0 : a0 < a1) (h1 : a1 = 0) : a0 < 0 := by omega
theorem tou29 {a0 a1 a2 : Int} (h0 : a0 = a1) (h1 : (0 : Int) ≤ a2) (h2 : a2 < a1) : ((0 : Int) ≤ a2) ∧ (a2 < a0) := by omega
theorem tou30 {a0 a1 a2 a3 a4 : Int} (h0 : (0 : Int) ≤ a0) (h1 : a0 < a1) (h2 : a2 ≤ a3) (h3 : a3 ≤ a4) (h4 : a2 = 0) (h5 : a4 = 20) : ((0 : Int) ≤ a3) ∧ (a3 ≤ 20) ∧ ((a0 = (-1)) ∨ (((0 : Int) ≤ a0) ∧ (a0 < a1))) := by omega
theorem tou31 {a0 : Int} (h0 : (0 : Int) ≤ a0) : ¬ (a0 = (-1)) := by omega
theorem tou33 {a0 a1 a2 : Int} (h0 : a0 ≤ 8) (h1 : a0 = a1) (h2 : a2 < a1) : a2 < 8 := by omega
theorem tou34 {a0 a1 a2 a3 : Int} (h0 : a0 ≠ a1) (h1 : ¬ (((0 : Int) ≤ a0) ∧ (a0 < a2))) (h2 : a1 = (-1)) : ¬ (((0 : Int) ≤ a3) ∧ (a3 ≤ 20) ∧ ((a0 = (-1)) ∨ (((0 : Int) ≤ a0) ∧ (a0 < a2)))) := by omega
theorem tou35 {a0 a1 a2 a3 a4 : Int} (h0 : ¬ ((a0 ≤ a1) ∧ (a1 ≤ a2))) (h1 : a0 = 0) (h2 : a2 = 20) : ¬ (((0 : Int) ≤ a1) ∧ (a1 ≤ 20) ∧ ((a3 = (-1)) ∨ (((0 : Int) ≤ a3) ∧ (a3 < a4)))) := by omega
theorem tou42 {a0 a1 : Int} (h0 : a0 = (a1 % 10)) : (0 : Int) ≤ a0 := by omega
theorem tou43 {a0 a1 a2 : Int} (h0 : a0 ≤ 8) (h1 : a1 = (a2 % 10)) (h2 : (a2 % 10) < a0) : a1 < 8 := by omega
theorem tou44 {a0 a1 a2 : Int} (h0 : a0 = (a1 / 10)) (h1 : a0 = 0) (h2 : (0 : Int) ≤ a1) (h3 : (a1 / 10) < a2) (h4 : (a1 % 10) < a2) (h5 : (a1 / 10) ≠ (a1 % 10)) : ((0 : Int) ≤ a1) ∧ ((a1 / 10) < a2) ∧ ((a1 % 10) < a2) ∧ ((a1 / 10) ≠ (a1 % 10)) := by omega
theorem tou45 {a0 a1 : Int} (h0 : a0 = (a1 / 10)) (h1 : a0 = 0) (h2 : (0 : Int) ≤ a1) : a0 = ((0 : Nat) : Int) := by omega
theorem tou46 {a0 a1 : Int} (h0 : (0 : Int) ≤ a0) (h1 : (a0 / 10) < a1) (h2 : (a0 % 10) < a1) (h3 : (a0 / 10) ≠ (a0 % 10)) : ((0 : Int) ≤ a0) ∧ ((a0 / 10) < a1) ∧ ((a0 % 10) < a1) ∧ ((a0 / 10) ≠ (a0 % 10)) := by omega
theorem tou47 {a0 : Int} (h0 : a0 = 1) : a0 = ((1 : Nat) : Int) := by omega
theorem tou48 {a0 : Int} (h0 : a0 = 2) : a0 = ((2 : Nat) : Int) := by omega
theorem tou49 {a0 : Int} (h0 : a0 = 3) : a0 = ((3 : Nat) : Int) := by omega
theorem tou50 {a0 : Int} (h0 : a0 = 4) : a0 = ((4 : Nat) : Int) := by omega
theorem tou51 {a0 : Int} (h0 : a0 = 5) : a0 = ((5 : Nat) : Int) := by omega
theorem tou52 {a0 : Int} (h0 : a0 = 6) : a0 = ((6 : Nat) : Int) := by omega
theorem tou53 {a0 a1 a2 : Int} (h0 : a0 ≤ 8) (h1 : a1 = (a2 / 10)) (h2 : a1 = 7) (h3 : (0 : Int) ≤ a2) (h4 : (a2 / 10) < a0) (h5 : (a2 % 10) < a0) (h6 : (a2 / 10) ≠ (a2 % 10)) : ((0 : Int) ≤ a2) ∧ ((a2 / 10) < a0) ∧ ((a2 % 10) < a0) ∧ ((a2 / 10) ≠ (a2 % 10)) := by omega
theorem tou54 {a0 a1 a2 : Int} (h0 : a0 ≤ 8) (h1 : a1 = (a2 / 10)) (h2 : a1 = 7) (h3 : (a2 / 10) < a0) (h4 : (a2 % 10) < a0) (h5 : (a2 / 10) ≠ (a2 % 10)) : a1 = ((7 : Nat) : Int) := by omega
theorem tou55 {a0 a1 a2 : Int} (h0 : a0 ≤ 8) (h1 : a1 = (a2 / 10)) (h2 : ¬ (a1 = 0)) (h3 : ¬ (a1 = 1)) (h4 : ¬ (a1 = 2)) (h5 : ¬ (a1 = 3)) (h6 : ¬ (a1 = 4)) (h7 : ¬ (a1 = 5)) (h8 : ¬ (a1 = 6)) (h9 : ¬ (a1 = 7)) (h10 : (0 : Int) ≤ a2) (h11 : (a2 / 10) < a0) (h12 : (a2 % 10) < a0) : False := by omega
theorem tou56 {a0 a1 : Int} (h0 : ¬ (((0 : Int) ≤ a0) ∧ (((a0 / 10) < a1) ∧ ((a0 % 10) < a1)) ∧ ((a0 / 10) ≠ (a0 % 10)))) : ¬ (((0 : Int) ≤ a0) ∧ ((a0 / 10) < a1) ∧ ((a0 % 10) < a1) ∧ ((a0 / 10) ≠ (a0 % 10))) := by omega
def yw61_49_1 : kW := ([645, 3200, 3206, 3207, 3208, 3209, 3214, 3215, 3216, 3586, 3781, 6405], [13, 51, 52, 53, 54, 55, 57, 58, 62, 63, 65, 66, 67, 68, 69, 70, 71, 72, 73, 75, 76, 77, 103], [], [1])
def yw61_49_1_L10 : kW := ([645, 3208, 3209, 3214, 3215, 3216, 3586, 3781, 6405], [13, 51, 55, 57, 58, 62, 63, 65, 66, 67, 68, 69, 70, 71, 72, 73, 75, 76, 77, 103], [], [])
set_option maxRecDepth 100000 in
theorem ke61_49_1 {i : Nat → Int32} {a : Nat → List Int32} {q : Nat → List Int64} {r : Nat → Nat} (hI : kI i a q) (hr : kr r) (x2 : Int32) (hp0 : x2.toInt ≤ 20) (hp1 : (0 : Int) ≤ x2.toInt) (hN : kNoW i a r) (hR : kRow i a) : km 11 61 [.ref 49, .ref 1, .int x2] (ks i a q r) (kVN yw61_49_1 i a q r (fun i1 a1 q1 r1 => (True) ∧ kThm i1 a1 r1 (gDay (gKn i a) (a 74) (i 3138).toInt.toNat (gB i a) x2.toInt.toNat))) := by
  have hG := kG_self yw61_49_1 hI hr
  refine km_ofN (q := (mi_h61, mi_c61)) rfl (by decide) (Nat.le_of_ble_eq_true rfl) ?_
  intro P hP
  refine ft_go mi_k61 3 5 [(0, .ref 49), (1, .ref 1), (2, .int x2)] [.ref 1, .ref 50] i a q r (by rfl) ?_
  refine ko_callN mi_k61.1 (pc := 5) (ls := [(0, .ref 49), (1, .ref 1), (2, .int x2)]) (st := [.ref 1, .ref 50]) (h := ks i a q r) (i := (.invokevirtual 56, 3, 34, 0, 9, 0, 212)) (mi_k61.2 _ _ (by rfl)) (ft_invS mi_pq34 (by rfl)) (cy := mi_c34) mi_pq34 rfl (kg34_50_1 hG.I hG.R hN) (by decide) ?_
  intro ig1 ag1 qg1 rg1 kg1 hg1
  have hGg1 := kG_call hG kg1 (by decide +kernel)
  obtain ⟨hg1, og1⟩ := hg1
  have tT2 : kThm ig1 ag1 rg1 (gB i a) := og1
  refine ft_go mi_k61 2 10 [(3, .int 0), (0, .ref 49), (1, .ref 1), (2, .int x2)] [] ig1 ag1 qg1 rg1 (by rfl) ?_
  have lp3 : ∀ (nz : Nat) (i3 : Nat → Int32) (a3 : Nat → List Int32) (q3 : Nat → List Int64) (r3 : Nat → Nat) (l3_3 : Int32), kG yw61_49_1_L10 ig1 ag1 qg1 rg1 i3 a3 q3 r3 → (0 : Int) ≤ l3_3.toInt → l3_3.toInt ≤ x2.toInt → kThm i3 a3 r3 (gDay (gKn i a) (a 74) (i 3138).toInt.toNat (gB i a) l3_3.toInt.toNat) → ((x2.toInt - l3_3.toInt)).toNat < nz → ko 11 (mi_h61, mi_c61) P (10, [(3, .int l3_3), (0, .ref 49), (1, .ref 1), (2, .int x2)], [], (0, 0), ks i3 a3 q3 r3) := by
    intro nz
    induction nz with
    | zero =>
      intro _ _ _ _ _ _ _ _ _ hm
      exact absurd hm (Nat.not_lt_zero _)
    | succ nz ih3 =>
      intro i3 a3 q3 r3 l3_3 hL3 p3_0 p3_1 O3_0 hm3
      refine ft_go mi_k61 2 12 [(3, .int l3_3), (0, .ref 49), (1, .ref 1), (2, .int x2)] [.int x2, .int l3_3] i3 a3 q3 r3 (by rfl) ?_
      refine ft_if mi_k61 (decide (x2 ≤ l3_3)) 36 15 [(3, .int l3_3), (0, .ref 49), (1, .ref 1), (2, .int x2)] [] (by rfl) (fun c => ?_) (fun c => ?_)
      ·
        have c4 : x2.toInt ≤ l3_3.toInt := kd_le c; clear c
        have hG5 := kG_call hGg1 hL3 (by decide +kernel)
        exact ft_ret mi_k61 (by rfl) (hP  _ _ _ _ hG5 ⟨trivial, (kThm_c O3_0 (gDay_len (tou0 c4 p3_1)))⟩)
      ·
        have c6 : l3_3.toInt < x2.toInt := kd_leF c; clear c
        refine ft_go mi_k61 1 16 [(3, .int l3_3), (0, .ref 49), (1, .ref 1), (2, .int x2)] [.int l3_3] i3 a3 q3 r3 (by rfl) ?_
        refine ft_if mi_k61 (decide (l3_3 ≤ 0)) 26 19 [(3, .int l3_3), (0, .ref 49), (1, .ref 1), (2, .int x2)] [] (by rfl) (fun c => ?_) (fun c => ?_)
        ·
          have c7 : l3_3.toInt ≤ (0 : Int32).toInt := kd_le c; clear c
          refine ft_go mi_k61 1 27 [(3, .int l3_3), (0, .ref 49), (1, .ref 1), (2, .int x2)] [.ref 49] i3 a3 q3 r3 (by rfl) ?_
          have hG8 := kG_call hGg1 hL3 (by decide +kernel)
          refine ko_callN mi_k61.1 (pc := 27) (ls := [(3, .int l3_3), (0, .ref 49), (1, .ref 1), (2, .int x2)]) (st := [.ref 49]) (h := ks i3 a3 q3 r3) (i := (.invokevirtual 60, 3, 60, 0, 9, 0, 219)) (mi_k61.2 _ _ (by rfl)) (ft_invS mi_pq60 (by rfl)) (cy := mi_c60) mi_pq60 rfl (ke60_49 hL3.I hL3.R (kNoW_fr hG8 (by decide +kernel) hr hN) _ O3_0 (kRow_to hR ((hL3.fa 74 rfl).trans (kg1.fa 74 rfl)) ((hL3.fi 3138 rfl).trans (kg1.fi 3138 rfl)) (hG8.fi 64 rfl))) (by decide) ?_
          intro ig9 ag9 qg9 rg9 kg9 hg9
          have hGg9 := kG_call hL3 kg9 (by decide +kernel)
          obtain ⟨hg9, og9⟩ := hg9
          have hG11 := kG_call hGg1 hL3 (by decide +kernel)
          have kn10 := (gKn_fr hG11 (by decide +kernel) : gKn i3 a3 = gKn i a)
          have oT12 := og9
          rw [kn10, (((hL3.fa 74 rfl).trans (kg1.fa 74 rfl)) : a3 74 = a 74), (((hL3.fi 3138 rfl).trans (kg1.fi 3138 rfl)) : i3 3138 = i 3138)] at oT12
          have tT13 : kThm ig9 ag9 rg9 (gAt (gKn i a) (a 74) (gDay (gKn i a) (a 74) (i 3138).toInt.toNat (gB i a) l3_3.toInt.toNat) (i 3138).toInt.toNat) := oT12.1
          have s14 : (l3_3 + 1).toInt = l3_3.toInt + (1 : Int32).toInt := kd_add (tou1 p3_0 ktou1) (tou2 c7 ktou0 ktou1)
          refine ft_go mi_k61 2 10 [(3, .int (l3_3 + 1)), (0, .ref 49), (1, .ref 1), (2, .int x2)] [] ig9 ag9 qg9 rg9 (by rfl) ?_
          exact ih3 _ _ _ _ _ hGg9 (tou3 p3_0 s14 ktou1) (tou4 c6 s14 ktou1) (kThm_c tT13 (gDay_one rfl (tou6 c7 p3_0 ktou0) (tou5 s14 ktou1)).symm) (kj_meas (tou7 s14 ktou1) (tou8 c6) hm3)
        ·
          have c15 : (0 : Int32).toInt < l3_3.toInt := kd_leF c; clear c
          refine ft_go mi_k61 2 23 [(3, .int l3_3), (0, .ref 49), (1, .ref 1), (2, .int x2)] [.ref 50] i3 a3 q3 r3 (by rfl) ?_
          refine ko_callN mi_k61.1 (pc := 23) (ls := [(3, .int l3_3), (0, .ref 49), (1, .ref 1), (2, .int x2)]) (st := [.ref 50]) (h := ks i3 a3 q3 r3) (i := (.invokevirtual 72, 3, 32, 0, 9, 0, 232)) (mi_k61.2 _ _ (by rfl)) (ft_invS mi_pq32 (by rfl)) (cy := mi_c32) mi_pq32 rfl (kg32_50 hL3.I hL3.R O3_0) (by decide) ?_
          intro ig16 ag16 qg16 rg16 kg16 hg16
          have hGg16 := kG_call hL3 kg16 (by decide +kernel)
          obtain ⟨hg16, og16⟩ := hg16
          have tT17 : kThm ig16 ag16 rg16 (gEve (gDay (gKn i a) (a 74) (i 3138).toInt.toNat (gB i a) l3_3.toInt.toNat)) := og16
          refine ft_go mi_k61 1 27 [(3, .int l3_3), (0, .ref 49), (1, .ref 1), (2, .int x2)] [.ref 49] ig16 ag16 qg16 rg16 (by rfl) ?_
          have hG18 := kG_call hGg1 hGg16 (by decide +kernel)
          refine ko_callN mi_k61.1 (pc := 27) (ls := [(3, .int l3_3), (0, .ref 49), (1, .ref 1), (2, .int x2)]) (st := [.ref 49]) (h := ks ig16 ag16 qg16 rg16) (i := (.invokevirtual 60, 3, 60, 0, 9, 0, 219)) (mi_k61.2 _ _ (by rfl)) (ft_invS mi_pq60 (by rfl)) (cy := mi_c60) mi_pq60 rfl (ke60_49 hGg16.I hGg16.R (kNoW_fr hG18 (by decide +kernel) hr hN) _ tT17 (kRow_to hR (((kg16.fa 74 rfl).trans (hL3.fa 74 rfl)).trans (kg1.fa 74 rfl)) (((kg16.fi 3138 rfl).trans (hL3.fi 3138 rfl)).trans (kg1.fi 3138 rfl)) (hG18.fi 64 rfl))) (by decide) ?_
          intro ig19 ag19 qg19 rg19 kg19 hg19
          have hGg19 := kG_call hGg16 kg19 (by decide +kernel)
          obtain ⟨hg19, og19⟩ := hg19
          have hG21 := kG_call hGg1 hGg16 (by decide +kernel)
          have kn20 := (gKn_fr hG21 (by decide +kernel) : gKn ig16 ag16 = gKn i a)
          have oT22 := og19
          rw [kn20, ((((kg16.fa 74 rfl).trans (hL3.fa 74 rfl)).trans (kg1.fa 74 rfl)) : ag16 74 = a 74), ((((kg16.fi 3138 rfl).trans (hL3.fi 3138 rfl)).trans (kg1.fi 3138 rfl)) : ig16 3138 = i 3138)] at oT22
          have tT23 : kThm ig19 ag19 rg19 (gAt (gKn i a) (a 74) (gEve (gDay (gKn i a) (a 74) (i 3138).toInt.toNat (gB i a) l3_3.toInt.toNat)) (i 3138).toInt.toNat) := oT22.1
          have s24 : (l3_3 + 1).toInt = l3_3.toInt + (1 : Int32).toInt := kd_add (tou9 c15 ktou0 ktou1) (tou10 c6 hp0 ktou1)
          refine ft_go mi_k61 2 10 [(3, .int (l3_3 + 1)), (0, .ref 49), (1, .ref 1), (2, .int x2)] [] ig19 ag19 qg19 rg19 (by rfl) ?_
          exact ih3 _ _ _ _ _ hGg19 (tou11 c15 s24 ktou0 ktou1) (tou4 c6 s24 ktou1) (kThm_c tT23 (gDay_more rfl (tou12 c15 ktou0) (tou5 s24 ktou1)).symm) (kj_meas (tou7 s24 ktou1) (tou8 c6) hm3)
  exact lp3 _ _ _ _ _ _ (kG_self _ hGg1.I hGg1.R) (tou13 ktou0) (tou14 hp1 ktou0) (kThm_c tT2 (gDay_0 ktou0)) (Nat.lt_succ_self _)
set_option maxRecDepth 100000 in
theorem ke62_49 {i : Nat → Int32} {a : Nat → List Int32} {q : Nat → List Int64} {r : Nat → Nat} (hI : kI i a q) (hr : kr r) (x1 : Int32) : km 3 62 [.ref 49, .int x1] (ks i a q r) (kPI (ks i a q r) (fun v => (True) ∧ ((((0 : Int) ≤ x1.toInt) ∧ (x1.toInt < (i 3200).toInt) → v = (a 51).getD x1.toNatClampNeg 0) ∧ (¬ (((0 : Int) ≤ x1.toInt) ∧ (x1.toInt < (i 3200).toInt)) → v = (a 63).getD (2 : Int32).toNatClampNeg 0)))) := by
  have hG := kG_self kW0 hI hr
  refine km_ofPI (q := (mi_h62, mi_c62)) rfl (by decide) (Nat.le_of_ble_eq_true rfl) ?_
  intro P hP
  refine ft_go mi_k62 3 5 [(0, .ref 49), (1, .int x1)] [.int x1, .ref 50] i a q r (by rfl) ?_
  refine ko_callPI mi_k62.1 (pc := 5) (ls := [(0, .ref 49), (1, .int x1)]) (st := [.int x1, .ref 50]) (h := ks i a q r) (i := (.invokevirtual 75, 3, 24, 0, 9, 0, 234)) (mi_k62.2 _ _ (by rfl)) (ft_invS mi_pq24 (by rfl)) (cy := mi_c24) mi_pq24 rfl (kc24_50 hG.I hG.R x1) (by decide) ?_
  intro vg1 hg1
  rcases hg1 with ⟨eg1, hg1⟩ | ⟨eg1, hg1⟩
  ·
    subst eg1
    have fi_3200 : ((0 : Int) ≤ (i 3200).toInt) ∧ ((i 3200).toInt ≤ 8) := hG.I.1 3200
    have z2 : ((0 : Int) ≤ x1.toInt) ∧ (x1.toInt < (i 3200).toInt) := hg1
    refine ft_go mi_k62 5 19 [(0, .ref 49), (1, .int x1)] [.int x1, .ref 51] i a q r (by rfl) ?_
    refine ko_iald3 mi_k62.1 (n := 8) (c := 8) (ax := (0, 0, 0, 0, 0)) (mi_k62.2 _ _ (by rfl)) (by rfl) (ksG51 _ _ _ _) (hG.I.2.1 51) rfl (tou18 z2.1) (tou19 fi_3200.2 z2.2) ?_
    refine ft_go mi_k62 1 32 [(0, .ref 49), (1, .int x1)] [.int ((a 51).getD x1.toNatClampNeg 0)] i a q r (by rfl) ?_
    exact ft_ret mi_k62 (by rfl) (hP ((a 51).getD x1.toNatClampNeg 0) ⟨trivial, ⟨(fun _ => (show ((a 51).getD x1.toNatClampNeg 0) = (a 51).getD x1.toNatClampNeg 0 from (by first | rfl | (simp only [sMn, sMx]; done) | (simp only [sMn, sMx]; rfl)))), (fun h => absurd (tou20 z2.1 z2.2) h)⟩⟩)
  ·
    subst eg1
    have fi_3200 : ((0 : Int) ≤ (i 3200).toInt) ∧ ((i 3200).toInt ≤ 8) := hG.I.1 3200
    have z3 : ¬ (((0 : Int) ≤ x1.toInt) ∧ (x1.toInt < (i 3200).toInt)) := hg1
    refine ft_go mi_k62 5 31 [(0, .ref 49), (1, .int x1)] [.int 2, .ref 63] i a q r (by rfl) ?_
    refine ko_iald3 mi_k62.1 (n := 5) (c := 5) (ax := (0, 0, 0, 0, 0)) (mi_k62.2 _ _ (by rfl)) (by rfl) (ksG63 _ _ _ _) (hG.I.2.1 63) rfl (tou21 ktou2) (tou22 ktou2) ?_
    exact ft_ret mi_k62 (by rfl) (hP ((a 63).getD (2 : Int32).toNatClampNeg 0) ⟨trivial, ⟨(fun h => absurd h (tou23 z3)), (fun _ => (show ((a 63).getD (2 : Int32).toNatClampNeg 0) = (a 63).getD (2 : Int32).toNatClampNeg 0 from (by first | rfl | (simp only [sMn, sMx]; done) | (simp only [sMn, sMx]; rfl))))⟩⟩)
def yw90_0 : kW := ([645, 3138, 3200, 3206, 3207, 3208, 3209, 3214, 3215, 3216, 3586, 3781, 6405], [13, 51, 52, 53, 54, 55, 57, 58, 62, 63, 65, 66, 67, 68, 69, 70, 71, 72, 73, 74, 75, 76, 77, 103], [], [1])
set_option maxRecDepth 100000 in
theorem ke90_0 {i : Nat → Int32} {a : Nat → List Int32} {q : Nat → List Int64} {r : Nat → Nat} (hI : kI i a q) (hr : kr r) (x1 : Int32) (x2 : Int32) (x3 : Int32) (hN : kNoW i a r) : km 13 90 [.ref 0, .int x1, .int x2, .int x3] (ks i a q r) (kVI yw90_0 i a q r (fun v i1 a1 q1 r1 => (True) ∧ cTop (((0 : Int) ≤ x2.toInt) ∧ (x2.toInt ≤ 20) ∧ ((x3.toInt = (-1)) ∨ (((0 : Int) ≤ x3.toInt) ∧ (x3.toInt < (i 64).toInt)))) i q x1 v (fun n L => fLa (gKn i a) (gB i a) x2 x3 v n L))) := by
  have hG := kG_self yw90_0 hI hr
  refine km_ofI (q := (mi_h90, mi_c90)) rfl (by decide) (Nat.le_of_ble_eq_true rfl) ?_
  intro P hP
  refine ft_go mi_k90 3 4 [(0, .ref 0), (1, .int x1), (2, .int x2), (3, .int x3)] [.int 20, .int 0, .int x2] i a q r (by rfl) ?_
  refine ko_callPI mi_k90.1 (pc := 4) (ls := [(0, .ref 0), (1, .int x1), (2, .int x2), (3, .int x3)]) (st := [.int 20, .int 0, .int x2]) (h := ks i a q r) (i := (.invokestatic 74, 3, 120, 0, 9, 0, 152)) (mi_k90.2 _ _ (by rfl)) (ft_invS mi_pq120 (by rfl)) (cy := mi_c120) mi_pq120 rfl (kc120 hG.I hG.R x2 0 20) (by decide) ?_
  intro vg1 hg1
  rcases hg1 with ⟨eg1, hg1⟩ | ⟨eg1, hg1⟩
  ·
    subst eg1
    have z2 : ((0 : Int32).toInt ≤ x2.toInt) ∧ (x2.toInt ≤ (20 : Int32).toInt) := hg1
    refine ft_go mi_k90 3 12 [(0, .ref 0), (1, .int x1), (2, .int x2), (3, .int x3)] [.int (-1), .int x3] i a q r (by rfl) ?_
    refine ft_if mi_k90 (x3 == (-1)) 25 15 [(0, .ref 0), (1, .int x1), (2, .int x2), (3, .int x3)] [] (by rfl) (fun c => ?_) (fun c => ?_)
    ·
      have c3 : x3.toInt = ((-1) : Int32).toInt := kd_eq c; clear c
      refine ft_go mi_k90 2 27 [(0, .ref 0), (1, .int x1), (2, .int x2), (3, .int x3)] [.int x1, .ref 0] i a q r (by rfl) ?_
      refine ko_callI mi_k90.1 (pc := 27) (ls := [(0, .ref 0), (1, .int x1), (2, .int x2), (3, .int x3)]) (st := [.int x1, .ref 0]) (h := ks i a q r) (i := (.invokevirtual 144, 3, 129, 0, 9, 0, 208)) (mi_k90.2 _ _ (by rfl)) (ft_invS mi_pq129 (by rfl)) (cy := mi_c129) mi_pq129 rfl (kg129_0 hG.I hG.R x1) (by decide) ?_
      intro vg4 ig4 ag4 qg4 rg4 kg4 hg4
      have hGg4 := kG_call hG kg4 (by decide +kernel)
      obtain ⟨hg4, og4⟩ := hg4
      have z5 : vg4.toInt ≤ 0 := hg4
      refine ft_go mi_k90 2 34 [(4, .int vg4), (0, .ref 0), (1, .int x1), (2, .int x2), (3, .int x3)] [.int vg4] ig4 ag4 qg4 rg4 (by rfl) ?_
      refine ft_if mi_k90 (decide (0 ≤ vg4)) 40 37 [(4, .int vg4), (0, .ref 0), (1, .int x1), (2, .int x2), (3, .int x3)] [] (by rfl) (fun c => ?_) (fun c => ?_)
      ·
        have c6 : (0 : Int32).toInt ≤ vg4.toInt := kd_le c; clear c
        refine ft_go mi_k90 5 49 [(4, .int vg4), (0, .ref 0), (1, .int x1), (2, .int x2), (3, .int x3)] [.int x2, .ref 1, .ref 49] ig4 ag4 qg4 rg4 (by rfl) ?_
        refine ko_callN mi_k90.1 (pc := 49) (ls := [(4, .int vg4), (0, .ref 0), (1, .int x1), (2, .int x2), (3, .int x3)]) (st := [.int x2, .ref 1, .ref 49]) (h := ks ig4 ag4 qg4 rg4) (i := (.invokevirtual 167, 3, 61, 0, 9, 0, 231)) (mi_k90.2 _ _ (by rfl)) (ft_invS mi_pq61 (by rfl)) (cy := mi_c61) mi_pq61 rfl (ke61_49_1 hGg4.I hGg4.R x2 (tou15 z2.2 ktou20) (tou16 z2.1 ktou0) (kNoW_fr hGg4 (by decide +kernel) hr hN) (cRow1_row (cPl_row og4 (tou17 c6 ktou0)) (hGg4.fi 64 rfl))) (by decide) ?_
        intro ig7 ag7 qg7 rg7 kg7 hg7
        have hGg7 := kG_call hGg4 kg7 (by decide +kernel)
        obtain ⟨hg7, og7⟩ := hg7
        have oT8 := og7
        rw [(gKn_fr hGg4 (by decide +kernel) : gKn ig4 ag4 = gKn i a), (gB_eq (kg4.fa 118 rfl) (kg4.fi 3214 rfl) (kg4.fi 3215 rfl) (kg4.fi 3216 rfl) : gB ig4 ag4 = gB i a)] at oT8
        have tT9 : kThm ig7 ag7 rg7 (gDay (gKn i a) (ag4 74) (ig4 3138).toInt.toNat (gB i a) x2.toInt.toNat) := oT8
        have hc10 : (ig7 3200).toInt = (i 64).toInt := congrArg Int32.toInt (tT9.1.1.trans (hGg7.fi 64 rfl))
        refine ft_go mi_k90 3 57 [(4, .int vg4), (0, .ref 0), (1, .int x1), (2, .int x2), (3, .int x3)] [.int x3, .ref 49] ig7 ag7 qg7 rg7 (by rfl) ?_
        refine ko_callPI mi_k90.1 (pc := 57) (ls := [(4, .int vg4), (0, .ref 0), (1, .int x1), (2, .int x2), (3, .int x3)]) (st := [.int x3, .ref 49]) (h := ks ig7 ag7 qg7 rg7) (i := (.invokevirtual 171, 3, 62, 0, 9, 0, 233)) (mi_k90.2 _ _ (by rfl)) (ft_invS mi_pq62 (by rfl)) (cy := mi_c62) mi_pq62 rfl (ke62_49 hGg7.I hGg7.R x3) (by decide) ?_
        intro vg11 hg11
        obtain ⟨hg11, og11⟩ := hg11
        have fig7_3200 : ((0 : Int) ≤ (ig7 3200).toInt) ∧ ((ig7 3200).toInt ≤ 8) := hGg7.I.1 3200
        have q12 : vg11 = (ag7 63).getD (2 : Int32).toNatClampNeg 0 := og11.2 (tou24 c3 ktoum1)
        have fi_64 : ((0 : Int) ≤ (i 64).toInt) ∧ ((i 64).toInt ≤ 8) := hG.I.1 64
        exact ft_ret mi_k90 (by rfl) (hP vg11 _ _ _ _ hGg7 ⟨trivial, (Or.inr ⟨(tou25 c3 z2.1 z2.2 ktoum1 ktou0 ktou20), cShf_go (cPl_row og4 (tou17 c6 ktou0)) ⟨fun _ => (q12.trans ((congrArg (fun z : Nat => (ag7 63).getD z 0) (by decide : (2 : Int32).toNatClampNeg = 2)).trans (kThm_la tT9))), fun h => absurd h (tou27 c3 ktoum1)⟩⟩)⟩)
      ·
        have c13 : vg4.toInt < (0 : Int32).toInt := kd_leF c; clear c
        refine ft_go mi_k90 1 39 [(4, .int vg4), (0, .ref 0), (1, .int x1), (2, .int x2), (3, .int x3)] [.int vg4] ig4 ag4 qg4 rg4 (by rfl) ?_
        have fi_64 : ((0 : Int) ≤ (i 64).toInt) ∧ ((i 64).toInt ≤ 8) := hG.I.1 64
        exact ft_ret mi_k90 (by rfl) (hP vg4 _ _ _ _ hGg4 ⟨trivial, (Or.inr ⟨(tou25 c3 z2.1 z2.2 ktoum1 ktou0 ktou20), cShf_bar og4 (tou28 c13 ktou0)⟩)⟩)
    ·
      have c14 : x3.toInt ≠ ((-1) : Int32).toInt := kd_eqF c; clear c
      refine ft_go mi_k90 2 17 [(0, .ref 0), (1, .int x1), (2, .int x2), (3, .int x3)] [.int x3, .ref 0] i a q r (by rfl) ?_
      refine ko_callPI mi_k90.1 (pc := 17) (ls := [(0, .ref 0), (1, .int x1), (2, .int x2), (3, .int x3)]) (st := [.int x3, .ref 0]) (h := ks i a q r) (i := (.invokevirtual 141, 3, 123, 0, 9, 0, 162)) (mi_k90.2 _ _ (by rfl)) (ft_invS mi_pq123 (by rfl)) (cy := mi_c123) mi_pq123 rfl (kc123_0 hG.I hG.R x3) (by decide) ?_
      intro vg15 hg15
      rcases hg15 with ⟨eg15, hg15⟩ | ⟨eg15, hg15⟩
      ·
        subst eg15
        have fi_64 : ((0 : Int) ≤ (i 64).toInt) ∧ ((i 64).toInt ≤ 8) := hG.I.1 64
        have z16 : ((0 : Int) ≤ x3.toInt) ∧ (x3.toInt < (i 64).toInt) := hg15
        refine ft_go mi_k90 3 27 [(0, .ref 0), (1, .int x1), (2, .int x2), (3, .int x3)] [.int x1, .ref 0] i a q r (by rfl) ?_
        refine ko_callI mi_k90.1 (pc := 27) (ls := [(0, .ref 0), (1, .int x1), (2, .int x2), (3, .int x3)]) (st := [.int x1, .ref 0]) (h := ks i a q r) (i := (.invokevirtual 144, 3, 129, 0, 9, 0, 208)) (mi_k90.2 _ _ (by rfl)) (ft_invS mi_pq129 (by rfl)) (cy := mi_c129) mi_pq129 rfl (kg129_0 hG.I hG.R x1) (by decide) ?_
        intro vg17 ig17 ag17 qg17 rg17 kg17 hg17
        have hGg17 := kG_call hG kg17 (by decide +kernel)
        obtain ⟨hg17, og17⟩ := hg17
        have z18 : vg17.toInt ≤ 0 := hg17
        refine ft_go mi_k90 2 34 [(4, .int vg17), (0, .ref 0), (1, .int x1), (2, .int x2), (3, .int x3)] [.int vg17] ig17 ag17 qg17 rg17 (by rfl) ?_
        refine ft_if mi_k90 (decide (0 ≤ vg17)) 40 37 [(4, .int vg17), (0, .ref 0), (1, .int x1), (2, .int x2), (3, .int x3)] [] (by rfl) (fun c => ?_) (fun c => ?_)
        ·
          have c19 : (0 : Int32).toInt ≤ vg17.toInt := kd_le c; clear c
          refine ft_go mi_k90 5 49 [(4, .int vg17), (0, .ref 0), (1, .int x1), (2, .int x2), (3, .int x3)] [.int x2, .ref 1, .ref 49] ig17 ag17 qg17 rg17 (by rfl) ?_
          refine ko_callN mi_k90.1 (pc := 49) (ls := [(4, .int vg17), (0, .ref 0), (1, .int x1), (2, .int x2), (3, .int x3)]) (st := [.int x2, .ref 1, .ref 49]) (h := ks ig17 ag17 qg17 rg17) (i := (.invokevirtual 167, 3, 61, 0, 9, 0, 231)) (mi_k90.2 _ _ (by rfl)) (ft_invS mi_pq61 (by rfl)) (cy := mi_c61) mi_pq61 rfl (ke61_49_1 hGg17.I hGg17.R x2 (tou15 z2.2 ktou20) (tou16 z2.1 ktou0) (kNoW_fr hGg17 (by decide +kernel) hr hN) (cRow1_row (cPl_row og17 (tou17 c19 ktou0)) (hGg17.fi 64 rfl))) (by decide) ?_
          intro ig20 ag20 qg20 rg20 kg20 hg20
          have hGg20 := kG_call hGg17 kg20 (by decide +kernel)
          obtain ⟨hg20, og20⟩ := hg20
          have oT21 := og20
          rw [(gKn_fr hGg17 (by decide +kernel) : gKn ig17 ag17 = gKn i a), (gB_eq (kg17.fa 118 rfl) (kg17.fi 3214 rfl) (kg17.fi 3215 rfl) (kg17.fi 3216 rfl) : gB ig17 ag17 = gB i a)] at oT21
          have tT22 : kThm ig20 ag20 rg20 (gDay (gKn i a) (ag17 74) (ig17 3138).toInt.toNat (gB i a) x2.toInt.toNat) := oT21
          have hc23 : (ig20 3200).toInt = (i 64).toInt := congrArg Int32.toInt (tT22.1.1.trans (hGg20.fi 64 rfl))
          refine ft_go mi_k90 3 57 [(4, .int vg17), (0, .ref 0), (1, .int x1), (2, .int x2), (3, .int x3)] [.int x3, .ref 49] ig20 ag20 qg20 rg20 (by rfl) ?_
          refine ko_callPI mi_k90.1 (pc := 57) (ls := [(4, .int vg17), (0, .ref 0), (1, .int x1), (2, .int x2), (3, .int x3)]) (st := [.int x3, .ref 49]) (h := ks ig20 ag20 qg20 rg20) (i := (.invokevirtual 171, 3, 62, 0, 9, 0, 233)) (mi_k90.2 _ _ (by rfl)) (ft_invS mi_pq62 (by rfl)) (cy := mi_c62) mi_pq62 rfl (ke62_49 hGg20.I hGg20.R x3) (by decide) ?_
          intro vg24 hg24
          obtain ⟨hg24, og24⟩ := hg24
          have fig20_3200 : ((0 : Int) ≤ (ig20 3200).toInt) ∧ ((ig20 3200).toInt ≤ 8) := hGg20.I.1 3200
          have q25 : vg24 = (ag20 51).getD x3.toNatClampNeg 0 := og24.1 (tou29 hc23 z16.1 z16.2)
          exact ft_ret mi_k90 (by rfl) (hP vg24 _ _ _ _ hGg20 ⟨trivial, (Or.inr ⟨(tou30 z16.1 z16.2 z2.1 z2.2 ktou0 ktou20), cShf_go (cPl_row og17 (tou17 c19 ktou0)) ⟨fun h => absurd h (tou31 z16.1), fun _ => (q25.trans (kThm_pu tT22 (kj_ix8 (tou18 z16.1) (tou33 fig20_3200.2 hc23 z16.2))))⟩⟩)⟩)
        ·
          have c26 : vg17.toInt < (0 : Int32).toInt := kd_leF c; clear c
          refine ft_go mi_k90 1 39 [(4, .int vg17), (0, .ref 0), (1, .int x1), (2, .int x2), (3, .int x3)] [.int vg17] ig17 ag17 qg17 rg17 (by rfl) ?_
          exact ft_ret mi_k90 (by rfl) (hP vg17 _ _ _ _ hGg17 ⟨trivial, (Or.inr ⟨(tou30 z16.1 z16.2 z2.1 z2.2 ktou0 ktou20), cShf_bar og17 (tou28 c26 ktou0)⟩)⟩)
      ·
        subst eg15
        have fi_64 : ((0 : Int) ≤ (i 64).toInt) ∧ ((i 64).toInt ≤ 8) := hG.I.1 64
        have z27 : ¬ (((0 : Int) ≤ x3.toInt) ∧ (x3.toInt < (i 64).toInt)) := hg15
        refine ft_go mi_k90 2 24 [(0, .ref 0), (1, .int x1), (2, .int x2), (3, .int x3)] [.int (-1)] i a q r (by rfl) ?_
        exact ft_ret mi_k90 (by rfl) (hP (-1) _ _ _ _ hG ⟨trivial, (Or.inl ⟨(tou34 c14 z27 ktoum1), rfl⟩)⟩)
  ·
    subst eg1
    have z28 : ¬ (((0 : Int32).toInt ≤ x2.toInt) ∧ (x2.toInt ≤ (20 : Int32).toInt)) := hg1
    refine ft_go mi_k90 2 24 [(0, .ref 0), (1, .int x1), (2, .int x2), (3, .int x3)] [.int (-1)] i a q r (by rfl) ?_
    have fi_64 : ((0 : Int) ≤ (i 64).toInt) ∧ ((i 64).toInt ≤ 8) := hG.I.1 64
    exact ft_ret mi_k90 (by rfl) (hP (-1) _ _ _ _ hG ⟨trivial, (Or.inl ⟨(tou35 z28 ktou0 ktou20), rfl⟩)⟩)
def yw95_0 : kW := ([645, 3138, 3200, 3206, 3207, 3208, 3209, 3214, 3215, 3216, 3586, 3781, 6405], [13, 51, 52, 53, 54, 55, 57, 58, 62, 63, 65, 66, 67, 68, 69, 70, 71, 72, 73, 74, 75, 76, 77, 103], [], [1])
set_option maxRecDepth 100000 in
theorem ke95_0 {i : Nat → Int32} {a : Nat → List Int32} {q : Nat → List Int64} {r : Nat → Nat} (hI : kI i a q) (hr : kr r) (x1 : Int32) (x2 : Int32) (hN : kNoW i a r) : km 13 95 [.ref 0, .int x1, .int x2] (ks i a q r) (kVI yw95_0 i a q r (fun v i1 a1 q1 r1 => (True) ∧ cTop (((0 : Int) ≤ x2.toInt) ∧ ((x2.toInt / 10) < (i 64).toInt) ∧ ((x2.toInt % 10) < (i 64).toInt) ∧ ((x2.toInt / 10) ≠ (x2.toInt % 10))) i q x1 v (fun n L => fFl (gKn i a) (gB i a) x2 v n L))) := by
  have hG := kG_self yw95_0 hI hr
  refine km_ofI (q := (mi_h95, mi_c95)) rfl (by decide) (Nat.le_of_ble_eq_true rfl) ?_
  intro P hP
  first | refine ft_go mi_k95 2 2 [(0, .ref 0), (1, .int x1), (2, .int x2)] [.int x2, .ref 0] i a q r (by rfl) ?_ | refine ko_steps mi_in95 2 _ (2, [(0, .ref 0), (1, .int x1), (2, .int x2)], [.int x2, .ref 0], (0, 0), ks i a q r) (by rfl) ?_
  refine ko_callPI mi_k95.1 (pc := 2) (ls := [(0, .ref 0), (1, .int x1), (2, .int x2)]) (st := [.int x2, .ref 0]) (h := ks i a q r) (i := (.invokevirtual 200, 3, 124, 0, 9, 0, 254)) (mi_k95.2 _ _ (by rfl)) (ft_invS mi_pq124 (by rfl)) (cy := mi_c124) mi_pq124 rfl (kc124_0 hG.I hG.R x2) (by decide) ?_
  intro vg1 hg1
  rcases hg1 with ⟨eg1, hg1⟩ | ⟨eg1, hg1⟩
  ·
    subst eg1
    have fi_64 : ((0 : Int) ≤ (i 64).toInt) ∧ ((i 64).toInt ≤ 8) := hG.I.1 64
    have z2 : ((0 : Int) ≤ x2.toInt) ∧ (((x2.toInt / 10) < (i 64).toInt) ∧ ((x2.toInt % 10) < (i 64).toInt)) ∧ ((x2.toInt / 10) ≠ (x2.toInt % 10)) := hg1
    first | refine ft_go mi_k95 3 12 [(0, .ref 0), (1, .int x1), (2, .int x2)] [.int x1, .ref 0] i a q r (by rfl) ?_ | refine ko_steps mi_in95 3 _ (12, [(0, .ref 0), (1, .int x1), (2, .int x2)], [.int x1, .ref 0], (0, 0), ks i a q r) (by rfl) ?_
    refine ko_callI mi_k95.1 (pc := 12) (ls := [(0, .ref 0), (1, .int x1), (2, .int x2)]) (st := [.int x1, .ref 0]) (h := ks i a q r) (i := (.invokevirtual 144, 3, 129, 0, 9, 0, 208)) (mi_k95.2 _ _ (by rfl)) (ft_invS mi_pq129 (by rfl)) (cy := mi_c129) mi_pq129 rfl (kg129_0 hG.I hG.R x1) (by decide) ?_
    intro vg3 ig3 ag3 qg3 rg3 kg3 hg3
    have hGg3 := kG_call hG kg3 (by decide +kernel)
    obtain ⟨hg3, og3⟩ := hg3
    have z4 : vg3.toInt ≤ 0 := hg3
    first | refine ft_go mi_k95 2 17 [(3, .int vg3), (0, .ref 0), (1, .int x1), (2, .int x2)] [.int vg3] ig3 ag3 qg3 rg3 (by rfl) ?_ | refine ko_steps mi_in95 2 _ (17, [(3, .int vg3), (0, .ref 0), (1, .int x1), (2, .int x2)], [.int vg3], (0, 0), ks ig3 ag3 qg3 rg3) (by rfl) ?_
    refine ft_if mi_k95 (decide (0 ≤ vg3)) 22 20 [(3, .int vg3), (0, .ref 0), (1, .int x1), (2, .int x2)] [] (by rfl) (fun c => ?_) (fun c => ?_)
    ·
      have c5 : (0 : Int32).toInt ≤ vg3.toInt := kd_le c; clear c
      first | refine ft_go mi_k95 4 30 [(3, .int vg3), (0, .ref 0), (1, .int x1), (2, .int x2)] [.ref 1, .ref 49] ig3 ag3 qg3 rg3 (by rfl) ?_ | refine ko_steps mi_in95 4 _ (30, [(3, .int vg3), (0, .ref 0), (1, .int x1), (2, .int x2)], [.ref 1, .ref 49], (0, 0), ks ig3 ag3 qg3 rg3) (by rfl) ?_
      refine ko_callN mi_k95.1 (pc := 30) (ls := [(3, .int vg3), (0, .ref 0), (1, .int x1), (2, .int x2)]) (st := [.ref 1, .ref 49]) (h := ks ig3 ag3 qg3 rg3) (i := (.invokevirtual 147, 3, 59, 0, 9, 0, 211)) (mi_k95.2 _ _ (by rfl)) (ft_invS mi_pq59 (by rfl)) (cy := mi_c59) mi_pq59 rfl (ke59_49_1 hGg3.I hGg3.R (kNoW_fr hGg3 (by decide +kernel) hr hN) (cRow1_row (cPl_row og3 (tou17 c5 ktou0)) (hGg3.fi 64 rfl))) (by decide) ?_
      intro ig6 ag6 qg6 rg6 kg6 hg6
      have hGg6 := kG_call hGg3 kg6 (by decide +kernel)
      obtain ⟨hg6, og6⟩ := hg6
      have oT7 := og6
      rw [(gKn_fr hGg3 (by decide +kernel) : gKn ig3 ag3 = gKn i a), (gB_eq (kg3.fa 118 rfl) (kg3.fi 3214 rfl) (kg3.fi 3215 rfl) (kg3.fi 3216 rfl) : gB ig3 ag3 = gB i a)] at oT7
      have tT8 : kThm ig6 ag6 rg6 (gAt (gKn i a) (ag3 74) (gB i a) (ig3 3138).toInt.toNat) := oT7.1
      have s9 : (x2 / 10).toInt = (x2.toInt / 10) := kd_div 10 ktou10 (by decide) (tou18 z2.1)
      first | refine ft_go mi_k95 7 47 [(3, .int vg3), (0, .ref 0), (1, .int x1), (2, .int x2)] [.int (x2 / 10), .ref 64] ig6 ag6 qg6 rg6 (by rfl) ?_ | refine ko_steps mi_in95 7 _ (47, [(3, .int vg3), (0, .ref 0), (1, .int x1), (2, .int x2)], [.int (x2 / 10), .ref 64], (0, 0), ks ig6 ag6 qg6 rg6) (by rfl) ?_
      by_cases w10 : (x2 / 10).toInt = 0
      ·
        refine ko_eq (x1 := (47, [(3, .int vg3), (0, .ref 0), (1, .int x1), (2, .int x2)], [.int 0, .ref 64], (0, 0), ks ig6 ag6 qg6 rg6)) (by rw [(kj_eq w10 (by decide) : (x2 / 10) = 0)]) ?_
        have s11 : (x2 - x2 / 10 * 10).toInt = (x2.toInt % 10) := kd_rem 10 ktou10 (by decide) (tou18 z2.1)
        first | refine ft_go mi_k95 4 52 [(3, .int vg3), (0, .ref 0), (1, .int x1), (2, .int x2)] [.int (x2 - x2 / 10 * 10), .ref 65] ig6 ag6 qg6 rg6 (by rfl) ?_ | refine ko_steps mi_in95 4 _ (52, [(3, .int vg3), (0, .ref 0), (1, .int x1), (2, .int x2)], [.int (x2 - x2 / 10 * 10), .ref 65], (0, 0), ks ig6 ag6 qg6 rg6) (by rfl) ?_
        refine ko_iald3 mi_k95.1 (n := 8) (c := 8) (ax := (0, 0, 0, 0, 0)) (mi_k95.2 _ _ (by rfl)) (by rfl) (ksG65 _ _ _ _) (hGg6.I.2.1 65) rfl (tou42 s11) (tou43 fi_64.2 s11 z2.2.1.2) ?_
        exact ft_ret mi_k95 (by rfl) (hP ((ag6 65).getD (x2 - x2 / 10 * 10).toNatClampNeg 0) _ _ _ _ hGg6 ⟨trivial, (Or.inr ⟨(tou44 s9 w10 z2.1 z2.2.1.1 z2.2.1.2 z2.2.2), cShf_go (cPl_row og3 (tou17 c5 ktou0)) (th_fl (m := 0) (u := (x2 / 10)) (c := (x2 - x2 / 10 * 10)) tT8 (by decide) (tou45 s9 w10 z2.1) (tou42 s11) (tou43 fi_64.2 s11 z2.2.1.2))⟩)⟩)
      by_cases w12 : (x2 / 10).toInt = 1
      ·
        refine ko_eq (x1 := (47, [(3, .int vg3), (0, .ref 0), (1, .int x1), (2, .int x2)], [.int 1, .ref 64], (0, 0), ks ig6 ag6 qg6 rg6)) (by rw [(kj_eq w12 (by decide) : (x2 / 10) = 1)]) ?_
        have s13 : (x2 - x2 / 10 * 10).toInt = (x2.toInt % 10) := kd_rem 10 ktou10 (by decide) (tou18 z2.1)
        first | refine ft_go mi_k95 4 52 [(3, .int vg3), (0, .ref 0), (1, .int x1), (2, .int x2)] [.int (x2 - x2 / 10 * 10), .ref 66] ig6 ag6 qg6 rg6 (by rfl) ?_ | refine ko_steps mi_in95 4 _ (52, [(3, .int vg3), (0, .ref 0), (1, .int x1), (2, .int x2)], [.int (x2 - x2 / 10 * 10), .ref 66], (0, 0), ks ig6 ag6 qg6 rg6) (by rfl) ?_
        refine ko_iald3 mi_k95.1 (n := 8) (c := 8) (ax := (0, 0, 0, 0, 0)) (mi_k95.2 _ _ (by rfl)) (by rfl) (ksG66 _ _ _ _) (hGg6.I.2.1 66) rfl (tou42 s13) (tou43 fi_64.2 s13 z2.2.1.2) ?_
        exact ft_ret mi_k95 (by rfl) (hP ((ag6 66).getD (x2 - x2 / 10 * 10).toNatClampNeg 0) _ _ _ _ hGg6 ⟨trivial, (Or.inr ⟨(tou46 z2.1 z2.2.1.1 z2.2.1.2 z2.2.2), cShf_go (cPl_row og3 (tou17 c5 ktou0)) (th_fl (m := 1) (u := (x2 / 10)) (c := (x2 - x2 / 10 * 10)) tT8 (by decide) (tou47 w12) (tou42 s13) (tou43 fi_64.2 s13 z2.2.1.2))⟩)⟩)
      by_cases w14 : (x2 / 10).toInt = 2
      ·
        refine ko_eq (x1 := (47, [(3, .int vg3), (0, .ref 0), (1, .int x1), (2, .int x2)], [.int 2, .ref 64], (0, 0), ks ig6 ag6 qg6 rg6)) (by rw [(kj_eq w14 (by decide) : (x2 / 10) = 2)]) ?_
        have s15 : (x2 - x2 / 10 * 10).toInt = (x2.toInt % 10) := kd_rem 10 ktou10 (by decide) (tou18 z2.1)
        first | refine ft_go mi_k95 4 52 [(3, .int vg3), (0, .ref 0), (1, .int x1), (2, .int x2)] [.int (x2 - x2 / 10 * 10), .ref 67] ig6 ag6 qg6 rg6 (by rfl) ?_ | refine ko_steps mi_in95 4 _ (52, [(3, .int vg3), (0, .ref 0), (1, .int x1), (2, .int x2)], [.int (x2 - x2 / 10 * 10), .ref 67], (0, 0), ks ig6 ag6 qg6 rg6) (by rfl) ?_
        refine ko_iald3 mi_k95.1 (n := 8) (c := 8) (ax := (0, 0, 0, 0, 0)) (mi_k95.2 _ _ (by rfl)) (by rfl) (ksG67 _ _ _ _) (hGg6.I.2.1 67) rfl (tou42 s15) (tou43 fi_64.2 s15 z2.2.1.2) ?_
        exact ft_ret mi_k95 (by rfl) (hP ((ag6 67).getD (x2 - x2 / 10 * 10).toNatClampNeg 0) _ _ _ _ hGg6 ⟨trivial, (Or.inr ⟨(tou46 z2.1 z2.2.1.1 z2.2.1.2 z2.2.2), cShf_go (cPl_row og3 (tou17 c5 ktou0)) (th_fl (m := 2) (u := (x2 / 10)) (c := (x2 - x2 / 10 * 10)) tT8 (by decide) (tou48 w14) (tou42 s15) (tou43 fi_64.2 s15 z2.2.1.2))⟩)⟩)
      by_cases w16 : (x2 / 10).toInt = 3
      ·
        refine ko_eq (x1 := (47, [(3, .int vg3), (0, .ref 0), (1, .int x1), (2, .int x2)], [.int 3, .ref 64], (0, 0), ks ig6 ag6 qg6 rg6)) (by rw [(kj_eq w16 (by decide) : (x2 / 10) = 3)]) ?_
        have s17 : (x2 - x2 / 10 * 10).toInt = (x2.toInt % 10) := kd_rem 10 ktou10 (by decide) (tou18 z2.1)
        first | refine ft_go mi_k95 4 52 [(3, .int vg3), (0, .ref 0), (1, .int x1), (2, .int x2)] [.int (x2 - x2 / 10 * 10), .ref 68] ig6 ag6 qg6 rg6 (by rfl) ?_ | refine ko_steps mi_in95 4 _ (52, [(3, .int vg3), (0, .ref 0), (1, .int x1), (2, .int x2)], [.int (x2 - x2 / 10 * 10), .ref 68], (0, 0), ks ig6 ag6 qg6 rg6) (by rfl) ?_
        refine ko_iald3 mi_k95.1 (n := 8) (c := 8) (ax := (0, 0, 0, 0, 0)) (mi_k95.2 _ _ (by rfl)) (by rfl) (ksG68 _ _ _ _) (hGg6.I.2.1 68) rfl (tou42 s17) (tou43 fi_64.2 s17 z2.2.1.2) ?_
        exact ft_ret mi_k95 (by rfl) (hP ((ag6 68).getD (x2 - x2 / 10 * 10).toNatClampNeg 0) _ _ _ _ hGg6 ⟨trivial, (Or.inr ⟨(tou46 z2.1 z2.2.1.1 z2.2.1.2 z2.2.2), cShf_go (cPl_row og3 (tou17 c5 ktou0)) (th_fl (m := 3) (u := (x2 / 10)) (c := (x2 - x2 / 10 * 10)) tT8 (by decide) (tou49 w16) (tou42 s17) (tou43 fi_64.2 s17 z2.2.1.2))⟩)⟩)
      by_cases w18 : (x2 / 10).toInt = 4
      ·
        refine ko_eq (x1 := (47, [(3, .int vg3), (0, .ref 0), (1, .int x1), (2, .int x2)], [.int 4, .ref 64], (0, 0), ks ig6 ag6 qg6 rg6)) (by rw [(kj_eq w18 (by decide) : (x2 / 10) = 4)]) ?_
        have s19 : (x2 - x2 / 10 * 10).toInt = (x2.toInt % 10) := kd_rem 10 ktou10 (by decide) (tou18 z2.1)
        first | refine ft_go mi_k95 4 52 [(3, .int vg3), (0, .ref 0), (1, .int x1), (2, .int x2)] [.int (x2 - x2 / 10 * 10), .ref 69] ig6 ag6 qg6 rg6 (by rfl) ?_ | refine ko_steps mi_in95 4 _ (52, [(3, .int vg3), (0, .ref 0), (1, .int x1), (2, .int x2)], [.int (x2 - x2 / 10 * 10), .ref 69], (0, 0), ks ig6 ag6 qg6 rg6) (by rfl) ?_
        refine ko_iald3 mi_k95.1 (n := 8) (c := 8) (ax := (0, 0, 0, 0, 0)) (mi_k95.2 _ _ (by rfl)) (by rfl) (ksG69 _ _ _ _) (hGg6.I.2.1 69) rfl (tou42 s19) (tou43 fi_64.2 s19 z2.2.1.2) ?_
        exact ft_ret mi_k95 (by rfl) (hP ((ag6 69).getD (x2 - x2 / 10 * 10).toNatClampNeg 0) _ _ _ _ hGg6 ⟨trivial, (Or.inr ⟨(tou46 z2.1 z2.2.1.1 z2.2.1.2 z2.2.2), cShf_go (cPl_row og3 (tou17 c5 ktou0)) (th_fl (m := 4) (u := (x2 / 10)) (c := (x2 - x2 / 10 * 10)) tT8 (by decide) (tou50 w18) (tou42 s19) (tou43 fi_64.2 s19 z2.2.1.2))⟩)⟩)
      by_cases w20 : (x2 / 10).toInt = 5
      ·
        refine ko_eq (x1 := (47, [(3, .int vg3), (0, .ref 0), (1, .int x1), (2, .int x2)], [.int 5, .ref 64], (0, 0), ks ig6 ag6 qg6 rg6)) (by rw [(kj_eq w20 (by decide) : (x2 / 10) = 5)]) ?_
        have s21 : (x2 - x2 / 10 * 10).toInt = (x2.toInt % 10) := kd_rem 10 ktou10 (by decide) (tou18 z2.1)
        first | refine ft_go mi_k95 4 52 [(3, .int vg3), (0, .ref 0), (1, .int x1), (2, .int x2)] [.int (x2 - x2 / 10 * 10), .ref 70] ig6 ag6 qg6 rg6 (by rfl) ?_ | refine ko_steps mi_in95 4 _ (52, [(3, .int vg3), (0, .ref 0), (1, .int x1), (2, .int x2)], [.int (x2 - x2 / 10 * 10), .ref 70], (0, 0), ks ig6 ag6 qg6 rg6) (by rfl) ?_
        refine ko_iald3 mi_k95.1 (n := 8) (c := 8) (ax := (0, 0, 0, 0, 0)) (mi_k95.2 _ _ (by rfl)) (by rfl) (ksG70 _ _ _ _) (hGg6.I.2.1 70) rfl (tou42 s21) (tou43 fi_64.2 s21 z2.2.1.2) ?_
        exact ft_ret mi_k95 (by rfl) (hP ((ag6 70).getD (x2 - x2 / 10 * 10).toNatClampNeg 0) _ _ _ _ hGg6 ⟨trivial, (Or.inr ⟨(tou46 z2.1 z2.2.1.1 z2.2.1.2 z2.2.2), cShf_go (cPl_row og3 (tou17 c5 ktou0)) (th_fl (m := 5) (u := (x2 / 10)) (c := (x2 - x2 / 10 * 10)) tT8 (by decide) (tou51 w20) (tou42 s21) (tou43 fi_64.2 s21 z2.2.1.2))⟩)⟩)
      by_cases w22 : (x2 / 10).toInt = 6
      ·
        refine ko_eq (x1 := (47, [(3, .int vg3), (0, .ref 0), (1, .int x1), (2, .int x2)], [.int 6, .ref 64], (0, 0), ks ig6 ag6 qg6 rg6)) (by rw [(kj_eq w22 (by decide) : (x2 / 10) = 6)]) ?_
        have s23 : (x2 - x2 / 10 * 10).toInt = (x2.toInt % 10) := kd_rem 10 ktou10 (by decide) (tou18 z2.1)
        first | refine ft_go mi_k95 4 52 [(3, .int vg3), (0, .ref 0), (1, .int x1), (2, .int x2)] [.int (x2 - x2 / 10 * 10), .ref 71] ig6 ag6 qg6 rg6 (by rfl) ?_ | refine ko_steps mi_in95 4 _ (52, [(3, .int vg3), (0, .ref 0), (1, .int x1), (2, .int x2)], [.int (x2 - x2 / 10 * 10), .ref 71], (0, 0), ks ig6 ag6 qg6 rg6) (by rfl) ?_
        refine ko_iald3 mi_k95.1 (n := 8) (c := 8) (ax := (0, 0, 0, 0, 0)) (mi_k95.2 _ _ (by rfl)) (by rfl) (ksG71 _ _ _ _) (hGg6.I.2.1 71) rfl (tou42 s23) (tou43 fi_64.2 s23 z2.2.1.2) ?_
        exact ft_ret mi_k95 (by rfl) (hP ((ag6 71).getD (x2 - x2 / 10 * 10).toNatClampNeg 0) _ _ _ _ hGg6 ⟨trivial, (Or.inr ⟨(tou46 z2.1 z2.2.1.1 z2.2.1.2 z2.2.2), cShf_go (cPl_row og3 (tou17 c5 ktou0)) (th_fl (m := 6) (u := (x2 / 10)) (c := (x2 - x2 / 10 * 10)) tT8 (by decide) (tou52 w22) (tou42 s23) (tou43 fi_64.2 s23 z2.2.1.2))⟩)⟩)
      by_cases w24 : (x2 / 10).toInt = 7
      ·
        refine ko_eq (x1 := (47, [(3, .int vg3), (0, .ref 0), (1, .int x1), (2, .int x2)], [.int 7, .ref 64], (0, 0), ks ig6 ag6 qg6 rg6)) (by rw [(kj_eq w24 (by decide) : (x2 / 10) = 7)]) ?_
        have s25 : (x2 - x2 / 10 * 10).toInt = (x2.toInt % 10) := kd_rem 10 ktou10 (by decide) (tou18 z2.1)
        first | refine ft_go mi_k95 4 52 [(3, .int vg3), (0, .ref 0), (1, .int x1), (2, .int x2)] [.int (x2 - x2 / 10 * 10), .ref 72] ig6 ag6 qg6 rg6 (by rfl) ?_ | refine ko_steps mi_in95 4 _ (52, [(3, .int vg3), (0, .ref 0), (1, .int x1), (2, .int x2)], [.int (x2 - x2 / 10 * 10), .ref 72], (0, 0), ks ig6 ag6 qg6 rg6) (by rfl) ?_
        refine ko_iald3 mi_k95.1 (n := 8) (c := 8) (ax := (0, 0, 0, 0, 0)) (mi_k95.2 _ _ (by rfl)) (by rfl) (ksG72 _ _ _ _) (hGg6.I.2.1 72) rfl (tou42 s25) (tou43 fi_64.2 s25 z2.2.1.2) ?_
        exact ft_ret mi_k95 (by rfl) (hP ((ag6 72).getD (x2 - x2 / 10 * 10).toNatClampNeg 0) _ _ _ _ hGg6 ⟨trivial, (Or.inr ⟨(tou53 fi_64.2 s9 w24 z2.1 z2.2.1.1 z2.2.1.2 z2.2.2), cShf_go (cPl_row og3 (tou17 c5 ktou0)) (th_fl (m := 7) (u := (x2 / 10)) (c := (x2 - x2 / 10 * 10)) tT8 (by decide) (tou54 fi_64.2 s9 w24 z2.2.1.1 z2.2.1.2 z2.2.2) (tou42 s25) (tou43 fi_64.2 s25 z2.2.1.2))⟩)⟩)
      exact (tou55 fi_64.2 s9 w10 w12 w14 w16 w18 w20 w22 w24 z2.1 z2.2.1.1 z2.2.1.2).elim
    ·
      have c26 : vg3.toInt < (0 : Int32).toInt := kd_leF c; clear c
      first | refine ft_go mi_k95 1 21 [(3, .int vg3), (0, .ref 0), (1, .int x1), (2, .int x2)] [.int vg3] ig3 ag3 qg3 rg3 (by rfl) ?_ | refine ko_steps mi_in95 1 _ (21, [(3, .int vg3), (0, .ref 0), (1, .int x1), (2, .int x2)], [.int vg3], (0, 0), ks ig3 ag3 qg3 rg3) (by rfl) ?_
      exact ft_ret mi_k95 (by rfl) (hP vg3 _ _ _ _ hGg3 ⟨trivial, (Or.inr ⟨(tou46 z2.1 z2.2.1.1 z2.2.1.2 z2.2.2), cShf_bar og3 (tou28 c26 ktou0)⟩)⟩)
  ·
    subst eg1
    have fi_64 : ((0 : Int) ≤ (i 64).toInt) ∧ ((i 64).toInt ≤ 8) := hG.I.1 64
    have z27 : ¬ (((0 : Int) ≤ x2.toInt) ∧ (((x2.toInt / 10) < (i 64).toInt) ∧ ((x2.toInt % 10) < (i 64).toInt)) ∧ ((x2.toInt / 10) ≠ (x2.toInt % 10))) := hg1
    first | refine ft_go mi_k95 2 9 [(0, .ref 0), (1, .int x1), (2, .int x2)] [.int (-1)] i a q r (by rfl) ?_ | refine ko_steps mi_in95 2 _ (9, [(0, .ref 0), (1, .int x1), (2, .int x2)], [.int (-1)], (0, 0), ks i a q r) (by rfl) ?_
    exact ft_ret mi_k95 (by rfl) (hP (-1) _ _ _ _ hG ⟨trivial, (Or.inl ⟨(tou56 z27), rfl⟩)⟩)
