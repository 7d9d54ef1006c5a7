theorem ktoj0 : (0 : Int32).toInt = 0 := by decide
theorem ktoj1 : (1 : Int32).toInt = 1 := by decide
theorem ktoj60 : (60 : Int32).toInt = 60 := by decide
theorem ktojm1 : ((-1) : Int32).toInt = (-1) := by decide
theorem ktoj12 : (12 : Int32).toInt = 12 := by decide
theorem ktoj10000 : (10000 : Int32).toInt = 10000 := by decide
theorem ktoj100 : (100 : Int32).toInt = 100 := by decide
theorem ktoj30 : (30 : Int32).toInt = 30 := by decide
theorem toj0 {a0 a1 a2 a3 a4 : Int} (h0 : a0 ≤ a1) (h1 : a2 = a3) (h2 : a3 = a4) (h3 : (0 : Int) ≤ a1) (h4 : a1 ≤ a0) (h5 : (a1 = 0) ∨ ((1 : Int) ≤ a2)) : (0 < a4 → a1 = a0) ∧ (a4 ≤ 0 → a1 = 0) := by omega
theorem toj1 {a0 a1 a2 a3 a4 a5 : Int} (h0 : a0 ≤ a1) (h1 : a0 = a2) (h2 : a2 = a3) (h3 : (0 : Int) ≤ a4) (h4 : (a4 = 0) ∨ ((1 : Int) ≤ a0)) (h5 : a1 = 0) : (0 < a3 → a4 = a5) ∧ (a3 ≤ 0 → a4 = 0) := by omega
theorem toj2 {a0 : Int} (h0 : (0 : Int) ≤ a0) : (0 : Int) ≤ a0 := by omega
theorem toj3 {a0 a1 : Int} (h0 : a0 < a1) (h1 : a0 = 0) : a1 ≠ 0 := by omega
theorem toj4 {a0 a1 : Int} (h0 : a0 < a1) (h1 : a0 = 0) : (1 : Int) ≤ a1 := by omega
theorem toj5 {a0 a1 a2 a3 a4 : Int} (h0 : a0 = a1) (h1 : a1 = a2) (h2 : a3 = a2) (h3 : (0 : Int) ≤ a4) (h4 : a4 < a0) : ((0 : Int) ≤ a4) ∧ (a4 < a3) := by omega
theorem toj6 {a0 a1 : Int} (h0 : (0 : Int) ≤ a0) (h1 : a1 = 1) : (-2147483648 : Int) ≤ a0 + a1 := by omega
theorem toj7 {a0 a1 a2 : Int} (h0 : a0 < a1) (h1 : a1 ≤ 99) (h2 : a2 = 1) : a0 + a2 ≤ 2147483647 := by omega
theorem toj8 {a0 a1 a2 : Int} (h0 : (0 : Int) ≤ a0) (h1 : a1 = a0 + a2) (h2 : a2 = 1) : (0 : Int) ≤ a1 := by omega
theorem toj9 {a0 a1 a2 a3 : Int} (h0 : a0 < a1) (h1 : a2 = a0 + a3) (h2 : a3 = 1) : a2 ≤ a1 := by omega
theorem toj10 {a0 a1 a2 a3 : Int} (h0 : a0 < a1) (h1 : a2 = a1) (h2 : a0 = 0) : (a3 = 0) ∨ ((1 : Int) ≤ a2) := by omega
theorem toj11 {a0 a1 a2 a3 : Int} (h0 : a0 = a1) (h1 : a2 = a0) (h2 : a1 = a3) : a2 = a3 := by omega
theorem toj12 {a0 a1 a2 : Int} (h0 : a0 = a1 + a2) (h1 : a2 = 1) : a0 = a1 + 1 := by omega
theorem toj13 {a0 a1 : Int} (h0 : a0 ≤ a1) : ¬ (a1 < a0) := by omega
theorem toj14 {a0 a1 a2 a3 : Int} (h0 : a0 = a1 + a2) (h1 : a2 = 1) : (a3 - a0) < (a3 - a1) := by omega
theorem toj15 {a0 a1 : Int} (h0 : a0 < a1) : (1 : Int) ≤ (a1 - a0) := by omega
theorem toj16 {a0 a1 a2 : Int} (h0 : a0 < a1) (h1 : a2 = a1) (h2 : a0 = 0) : a2 ≠ 0 := by omega
theorem toj17 {a0 a1 a2 : Int} (h0 : a0 < a1) (h1 : a2 = a1) (h2 : a0 = 0) : (1 : Int) ≤ a2 := by omega
theorem toj18 {a0 a1 a2 a3 a4 a5 : Int} (h0 : a0 = a1) (h1 : a1 = a2) (h2 : a3 = a0) (h3 : a4 = a2) (h4 : (0 : Int) ≤ a5) (h5 : a5 < a3) : ((0 : Int) ≤ a5) ∧ (a5 < a4) := by omega
theorem toj19 {a0 a1 a2 a3 a4 : Int} (h0 : a0 < a1) (h1 : a2 = a1) (h2 : a3 = a2) (h3 : a0 = 0) : (a4 = 0) ∨ ((1 : Int) ≤ a3) := by omega
theorem toj20 {a0 a1 a2 a3 a4 : Int} (h0 : a0 = a1) (h1 : a1 = a2) (h2 : a3 = a0) (h3 : a4 = a3) : a4 = a2 := by omega
theorem toj21 {a0 a1 : Int} (h0 : a0 < a1) : a0 < a1 := by omega
theorem toj22 {a0 : Int} (h0 : a0 = 0) : (0 : Int) ≤ a0 := by omega
theorem toj23 {a0 a1 : Int} (h0 : (0 : Int) ≤ a0) (h1 : a1 = 0) : a1 ≤ a0 := by omega
theorem toj24 {a0 a1 : Int} (h0 : a0 = 0) : (a0 = 0) ∨ ((1 : Int) ≤ a1) := by omega
theorem toj25 {a0 a1 : Int} (h0 : a0 = a1) : a0 = a1 := by omega
theorem toj26 {a0 a1 a2 a3 a4 a5 a6 : Int} (h0 : a0 < a1) (h1 : a1 = 0) : ¬ ((0 : Int) ≤ a0 ∧ ((1 : Int) ≤ a2 ∧ a2 ≤ 30) ∧ ((1 : Int) ≤ a3 ∧ a3 ≤ 60) ∧ a4 ≤ 12 ∧ (a5 = -1 ∨ ((0 : Int) ≤ a5 ∧ a5 < a6))) := by omega
theorem toj30 {a0 a1 a2 a3 a4 a5 a6 a7 a8 a9 a10 a11 : Int} (h0 : a0 = a1) (h1 : a2 ≤ a3) (h2 : a4 ≤ a5) (h3 : a5 ≤ a6) (h4 : a7 ≤ a8) (h5 : a4 ≤ a9) (h6 : a9 ≤ a10) (h7 : a1 = (-1)) (h8 : a2 = 0) (h9 : a4 = 1) (h10 : a6 = 60) (h11 : a8 = 12) (h12 : a10 = 30) : (0 : Int) ≤ a3 ∧ ((1 : Int) ≤ a9 ∧ a9 ≤ 30) ∧ ((1 : Int) ≤ a5 ∧ a5 ≤ 60) ∧ a7 ≤ 12 ∧ (a0 = -1 ∨ ((0 : Int) ≤ a0 ∧ a0 < a11)) := by omega
theorem toj31 {a0 a1 : Int} (h0 : a0 ≤ a1) (h1 : a1 ≤ a0) : a1 = a0 := by omega
theorem toj32 {a0 a1 a2 : Int} (h0 : a0 ≤ a1) (h1 : a1 ≤ a2) (h2 : a0 = 1) (h3 : a2 = 60) : ((0 : Int) ≤ a1) ∧ (a1 ≤ 99) := by omega
theorem toj38 {a0 a1 a2 : Int} (h0 : a0 = a1) (h1 : a1 = (-1)) : ¬ (((0 : Int) ≤ a0) ∧ (a0 < a2)) := by omega
theorem toj39 {a0 a1 a2 a3 : Int} (h0 : a0 < a1) (h1 : a1 ≤ a2) (h2 : a2 = 30) (h3 : a3 = 1) : a0 + a3 ≤ 2147483647 := by omega
theorem toj40 {a0 a1 a2 : Int} (h0 : a0 = a1) (h1 : a2 = a0) : a2 = a1 := by omega
theorem toj41 {a0 a1 : Int} (h0 : a0 = a1) (h1 : a1 = (-1)) : a0 = -1 := by omega
theorem toj42 {a0 a1 a2 : Int} (h0 : a0 ≤ a1) (h1 : a0 = 1) (h2 : a2 = 0) : a2 ≤ a1 := by omega
theorem toj43 {a0 : Int}  : a0 = a0 := by omega
theorem toj48 {a0 a1 a2 a3 a4 a5 a6 a7 a8 a9 a10 : Int} (h0 : a0 ≤ a1) (h1 : a2 ≤ a3) (h2 : a3 ≤ a4) (h3 : a5 ≤ a6) (h4 : (0 : Int) ≤ a7) (h5 : a7 < a8) (h6 : a2 ≤ a9) (h7 : a9 ≤ a10) (h8 : a0 = 0) (h9 : a2 = 1) (h10 : a4 = 60) (h11 : a6 = 12) (h12 : a10 = 30) : (0 : Int) ≤ a1 ∧ ((1 : Int) ≤ a9 ∧ a9 ≤ 30) ∧ ((1 : Int) ≤ a3 ∧ a3 ≤ 60) ∧ a5 ≤ 12 ∧ (a7 = -1 ∨ ((0 : Int) ≤ a7 ∧ a7 < a8)) := by omega
theorem toj49 {a0 a1 a2 : Int} (h0 : a0 = a1) (h1 : (0 : Int) ≤ a2) (h2 : a2 < a1) : ((0 : Int) ≤ a2) ∧ (a2 < a0) := by omega
theorem toj50 {a0 : Int} (h0 : (0 : Int) ≤ a0) : ¬ (a0 = -1) := by omega
theorem toj51 {a0 a1 a2 : Int} (h0 : a0 ≤ 8) (h1 : a0 = a1) (h2 : a2 < a1) : a2 < 8 := by omega
theorem toj52 {a0 a1 a2 a3 a4 a5 a6 : Int} (h0 : a0 ≠ a1) (h1 : ¬ (((0 : Int) ≤ a0) ∧ (a0 < a2))) (h2 : a1 = (-1)) : ¬ ((0 : Int) ≤ a3 ∧ ((1 : Int) ≤ a4 ∧ a4 ≤ 30) ∧ ((1 : Int) ≤ a5 ∧ a5 ≤ 60) ∧ a6 ≤ 12 ∧ (a0 = -1 ∨ ((0 : Int) ≤ a0 ∧ a0 < a2))) := by omega
theorem toj53 {a0 a1 a2 a3 a4 a5 a6 a7 : Int} (h0 : a0 ≤ a1) (h1 : 0 ≤ a1 → a2 = (a1 % 100)) (h2 : ¬ ((a0 ≤ a2) ∧ (a2 ≤ a3))) (h3 : a0 = 0) (h4 : a3 = 12) : ¬ ((0 : Int) ≤ a1 ∧ ((1 : Int) ≤ a4 ∧ a4 ≤ 30) ∧ ((1 : Int) ≤ a5 ∧ a5 ≤ 60) ∧ a2 ≤ 12 ∧ (a6 = -1 ∨ ((0 : Int) ≤ a6 ∧ a6 < a7))) := by omega
theorem toj54 {a0 a1 a2 a3 a4 a5 a6 a7 : Int} (h0 : ¬ ((a0 ≤ a1) ∧ (a1 ≤ a2))) (h1 : a0 = 1) (h2 : a2 = 60) : ¬ ((0 : Int) ≤ a3 ∧ ((1 : Int) ≤ a4 ∧ a4 ≤ 30) ∧ ((1 : Int) ≤ a1 ∧ a1 ≤ 60) ∧ a5 ≤ 12 ∧ (a6 = -1 ∨ ((0 : Int) ≤ a6 ∧ a6 < a7))) := by omega
theorem toj55 {a0 a1 a2 a3 a4 a5 a6 a7 : Int} (h0 : ¬ ((a0 ≤ a1) ∧ (a1 ≤ a2))) (h1 : a0 = 1) (h2 : a2 = 30) : ¬ ((0 : Int) ≤ a3 ∧ ((1 : Int) ≤ a1 ∧ a1 ≤ 30) ∧ ((1 : Int) ≤ a4 ∧ a4 ≤ 60) ∧ a5 ≤ 12 ∧ (a6 = -1 ∨ ((0 : Int) ≤ a6 ∧ a6 < a7))) := by omega
def yw78_49_1 : kW := ([645, 3200, 3206, 3207, 3208, 3209, 3214, 3215, 3216, 3586, 3781, 6405], [13, 51, 52, 53, 54, 55, 57, 58, 62, 63, 65, 66, 67, 68, 69, 70, 71, 72, 73, 103], [], [1])
def yw78_49_1_L14 : kW := ([645, 3208, 3209, 3214, 3215, 3216, 3586, 3781, 6405], [13, 51, 55, 57, 58, 62, 63, 65, 66, 67, 68, 69, 70, 71, 72, 73, 103], [], [])
set_option maxRecDepth 100000 in
theorem ke78_49_1 {i : Nat → Int32} {a : Nat → List Int32} {q : Nat → List Int64} {r : Nat → Nat} (hI : kI i a q) (hr : kr r) (x2 : Int32) (x3 : Int32) (x4 : Int32) (hp0 : ((0 : Int) ≤ x3.toInt) ∧ (x3.toInt ≤ 99)) (hN : kNoW i a r) : km 9 78 [.ref 49, .ref 1, .int x2, .int x3, .int x4] (ks i a q r) (kVI yw78_49_1 i a q r (fun v i1 a1 q1 r1 => (True) ∧ (v = (gDm (gKn i a) (i 64) x4 (x2, gB i a) (gM (i 64) x3)).1 ∧ kThm i1 a1 r1 (gDm (gKn i a) (i 64) x4 (x2, gB i a) (gM (i 64) x3)).2))) := by
  have hG := kG_self yw78_49_1 hI hr
  refine km_ofI (q := (mi_h78, mi_c78)) rfl (by decide) (Nat.le_of_ble_eq_true rfl) ?_
  intro P hP
  refine ft_go mi_k78 3 5 [(0, .ref 49), (1, .ref 1), (2, .int x2), (3, .int x3), (4, .int x4)] [.ref 1, .ref 50] i a q r (by rfl) ?_
  refine ko_callN mi_k78.1 (pc := 5) (ls := [(0, .ref 49), (1, .ref 1), (2, .int x2), (3, .int x3), (4, .int x4)]) (st := [.ref 1, .ref 50]) (h := ks i a q r) (i := (.invokevirtual 56, 3, 34, 0, 9, 0, 212)) (mi_k78.2 _ _ (by rfl)) (ft_invS mi_pq34 (by rfl)) (cy := mi_c34) mi_pq34 rfl (kg34_50_1 hG.I hG.R hN) (by decide) ?_
  intro ig1 ag1 qg1 rg1 kg1 hg1
  have hGg1 := kG_call hG kg1 (by decide +kernel)
  obtain ⟨hg1, og1⟩ := hg1
  have tT2 : kThm ig1 ag1 rg1 (gB i a) := og1
  refine ft_go mi_k78 4 14 [(6, .int 0), (5, .int x2), (0, .ref 49), (1, .ref 1), (2, .int x2), (3, .int x3), (4, .int x4)] [] ig1 ag1 qg1 rg1 (by rfl) ?_
  have lp3 : ∀ (nz : Nat) (i3 : Nat → Int32) (a3 : Nat → List Int32) (q3 : Nat → List Int64) (r3 : Nat → Nat) (l6_3 : Int32) (l5_3 : Int32), kG yw78_49_1_L14 ig1 ag1 qg1 rg1 i3 a3 q3 r3 → (0 : Int) ≤ l6_3.toInt → l6_3.toInt ≤ x3.toInt → (l6_3.toInt = 0) ∨ ((1 : Int) ≤ (i3 64).toInt) → (i3 64).toInt = (i 64).toInt → l5_3 = (gDm (gKn i a) (i 64) x4 (x2, gB i a) l6_3.toInt.toNat).1 → kThm i3 a3 r3 (gDm (gKn i a) (i 64) x4 (x2, gB i a) l6_3.toInt.toNat).2 → ((x3.toInt - l6_3.toInt)).toNat < nz → ko 9 (mi_h78, mi_c78) P (14, [(6, .int l6_3), (5, .int l5_3), (0, .ref 49), (1, .ref 1), (2, .int x2), (3, .int x3), (4, .int x4)], [], (0, 0), ks i3 a3 q3 r3) := by
    intro nz
    induction nz with
    | zero =>
      intro _ _ _ _ _ _ _ _ _ _ _ _ _ hm
      exact absurd hm (Nat.not_lt_zero _)
    | succ nz ih3 =>
      intro i3 a3 q3 r3 l6_3 l5_3 hL3 p3_0 p3_1 p3_2 p3_3 O3_0 O3_1 hm3
      have fi3_64 : ((0 : Int) ≤ (i3 64).toInt) ∧ ((i3 64).toInt ≤ 8) := hL3.I.1 64
      have fig1_64 : ((0 : Int) ≤ (ig1 64).toInt) ∧ ((ig1 64).toInt ≤ 8) := hGg1.I.1 64
      have fi_64 : ((0 : Int) ≤ (i 64).toInt) ∧ ((i 64).toInt ≤ 8) := hG.I.1 64
      have efig1_64 : (ig1 64).toInt = (i 64).toInt := kg1.ti 64 rfl
      have efi3_64 : (i3 64).toInt = (ig1 64).toInt := hL3.ti 64 rfl
      refine ft_go mi_k78 2 17 [(6, .int l6_3), (5, .int l5_3), (0, .ref 49), (1, .ref 1), (2, .int x2), (3, .int x3), (4, .int x4)] [.int x3, .int l6_3] i3 a3 q3 r3 (by rfl) ?_
      refine ft_if mi_k78 (decide (x3 ≤ l6_3)) 82 20 [(6, .int l6_3), (5, .int l5_3), (0, .ref 49), (1, .ref 1), (2, .int x2), (3, .int x3), (4, .int x4)] [] (by rfl) (fun c => ?_) (fun c => ?_)
      ·
        have c4 : x3.toInt ≤ l6_3.toInt := kd_le c; clear c
        have hG5 := kG_call hGg1 hL3 (by decide +kernel)
        refine ft_go mi_k78 1 84 [(6, .int l6_3), (5, .int l5_3), (0, .ref 49), (1, .ref 1), (2, .int x2), (3, .int x3), (4, .int x4)] [.int l5_3] i3 a3 q3 r3 (by rfl) ?_
        exact ft_ret mi_k78 (by rfl) (hP l5_3 _ _ _ _ hG5 ⟨trivial, (gM_to (toj0 c4 efi3_64 efig1_64 p3_0 p3_1 p3_2) O3_0 O3_1)⟩)
      ·
        have c6 : l6_3.toInt < x3.toInt := kd_leF c; clear c
        refine ft_go mi_k78 2 24 [(6, .int l6_3), (5, .int l5_3), (0, .ref 49), (1, .ref 1), (2, .int x2), (3, .int x3), (4, .int x4)] [.int (i3 64)] i3 a3 q3 r3 (by rfl) ?_
        refine ft_if mi_k78 (decide ((i3 64) ≤ 0)) 82 27 [(6, .int l6_3), (5, .int l5_3), (0, .ref 49), (1, .ref 1), (2, .int x2), (3, .int x3), (4, .int x4)] [] (by rfl) (fun c => ?_) (fun c => ?_)
        ·
          have c7 : (i3 64).toInt ≤ (0 : Int32).toInt := kd_le c; clear c
          have hG8 := kG_call hGg1 hL3 (by decide +kernel)
          refine ft_go mi_k78 1 84 [(6, .int l6_3), (5, .int l5_3), (0, .ref 49), (1, .ref 1), (2, .int x2), (3, .int x3), (4, .int x4)] [.int l5_3] i3 a3 q3 r3 (by rfl) ?_
          exact ft_ret mi_k78 (by rfl) (hP l5_3 _ _ _ _ hG8 ⟨trivial, (gM_to (toj1 c7 efi3_64 efig1_64 p3_0 p3_2 ktoj0) O3_0 O3_1)⟩)
        ·
          have c9 : (0 : Int32).toInt < (i3 64).toInt := kd_leF c; clear c
          have b10 : ((-2147483648 : Int) ≤ l5_3.toInt) ∧ (l5_3.toInt ≤ 2147483647) := kd_bd l5_3
          have b11 : ((-2147483648 : Int) ≤ (l5_3 * 1103515245).toInt) ∧ ((l5_3 * 1103515245).toInt ≤ 2147483647) := kd_bd (l5_3 * 1103515245)
          have s12 : (0 : Int) ≤ ((((l5_3 * 1103515245) + 12345).toUInt32 >>> ((16 : Int32).toUInt32 &&& Int32.toUInt32 31)).toInt32).toInt := kd_ushr 16 (by decide) (by decide) (by decide)
          have s13 : (((((l5_3 * 1103515245) + 12345).toUInt32 >>> ((16 : Int32).toUInt32 &&& Int32.toUInt32 31)).toInt32) - ((((l5_3 * 1103515245) + 12345).toUInt32 >>> ((16 : Int32).toUInt32 &&& Int32.toUInt32 31)).toInt32) / 12 * 12).toInt = (((((l5_3 * 1103515245) + 12345).toUInt32 >>> ((16 : Int32).toUInt32 &&& Int32.toUInt32 31)).toInt32).toInt % 12) := kd_rem 12 ktoj12 (by decide) (toj2 s12)
          refine ft_go mi_k78 12 48 [(5, .int ((l5_3 * 1103515245) + 12345)), (6, .int l6_3), (0, .ref 49), (1, .ref 1), (2, .int x2), (3, .int x3), (4, .int x4)] [.int x4, .int (((((l5_3 * 1103515245) + 12345).toUInt32 >>> ((16 : Int32).toUInt32 &&& Int32.toUInt32 31)).toInt32) - ((((l5_3 * 1103515245) + 12345).toUInt32 >>> ((16 : Int32).toUInt32 &&& Int32.toUInt32 31)).toInt32) / 12 * 12)] i3 a3 q3 r3 (by rfl) ?_
          refine ft_if mi_k78 (decide (x4 ≤ (((((l5_3 * 1103515245) + 12345).toUInt32 >>> ((16 : Int32).toUInt32 &&& Int32.toUInt32 31)).toInt32) - ((((l5_3 * 1103515245) + 12345).toUInt32 >>> ((16 : Int32).toUInt32 &&& Int32.toUInt32 31)).toInt32) / 12 * 12))) 58 51 [(5, .int ((l5_3 * 1103515245) + 12345)), (6, .int l6_3), (0, .ref 49), (1, .ref 1), (2, .int x2), (3, .int x3), (4, .int x4)] [] (by rfl) (fun c => ?_) (fun c => ?_)
          ·
            have c14 : x4.toInt ≤ (((((l5_3 * 1103515245) + 12345).toUInt32 >>> ((16 : Int32).toUInt32 &&& Int32.toUInt32 31)).toInt32) - ((((l5_3 * 1103515245) + 12345).toUInt32 >>> ((16 : Int32).toUInt32 &&& Int32.toUInt32 31)).toInt32) / 12 * 12).toInt := kd_le c; clear c
            have s15 : (0 : Int) ≤ ((((l5_3 * 1103515245) + 12345).toUInt32 >>> ((8 : Int32).toUInt32 &&& Int32.toUInt32 31)).toInt32).toInt := kd_ushr 8 (by decide) (by decide) (by decide)
            refine ft_go mi_k78 7 71 [(5, .int ((l5_3 * 1103515245) + 12345)), (6, .int l6_3), (0, .ref 49), (1, .ref 1), (2, .int x2), (3, .int x3), (4, .int x4)] [.int (i3 64), .int ((((l5_3 * 1103515245) + 12345).toUInt32 >>> ((8 : Int32).toUInt32 &&& Int32.toUInt32 31)).toInt32), .ref 50] i3 a3 q3 r3 (by rfl) ?_
            have s16 : ((0 : Int) ≤ (((((l5_3 * 1103515245) + 12345).toUInt32 >>> ((8 : Int32).toUInt32 &&& Int32.toUInt32 31)).toInt32) - ((((l5_3 * 1103515245) + 12345).toUInt32 >>> ((8 : Int32).toUInt32 &&& Int32.toUInt32 31)).toInt32) / (i3 64) * (i3 64)).toInt) ∧ ((((((l5_3 * 1103515245) + 12345).toUInt32 >>> ((8 : Int32).toUInt32 &&& Int32.toUInt32 31)).toInt32) - ((((l5_3 * 1103515245) + 12345).toUInt32 >>> ((8 : Int32).toUInt32 &&& Int32.toUInt32 31)).toInt32) / (i3 64) * (i3 64)).toInt < (i3 64).toInt) := kd_remv (toj4 c9 ktoj0) (toj2 s15)
            refine ko_irem mi_k78.1 (ax := (0, 0, 0, 0, 0)) (mi_k78.2 _ _ (by rfl)) (toj3 c9 ktoj0) ?_
            have hG17 := kG_call hGg1 hL3 (by decide +kernel)
            have hc18 : (i3 3200).toInt = (i 64).toInt := congrArg Int32.toInt (O3_1.1.1.trans (hG17.fi 64 rfl))
            have fi3_3200 : ((0 : Int) ≤ (i3 3200).toInt) ∧ ((i3 3200).toInt ≤ 8) := hL3.I.1 3200
            have fig1_3200 : ((0 : Int) ≤ (ig1 3200).toInt) ∧ ((ig1 3200).toInt ≤ 8) := hGg1.I.1 3200
            have efi3_3200 : (i3 3200).toInt = (ig1 3200).toInt := hL3.ti 3200 rfl
            refine ko_callI mi_k78.1 (pc := 72) (ls := [(5, .int ((l5_3 * 1103515245) + 12345)), (6, .int l6_3), (0, .ref 49), (1, .ref 1), (2, .int x2), (3, .int x3), (4, .int x4)]) (st := [.int (((((l5_3 * 1103515245) + 12345).toUInt32 >>> ((8 : Int32).toUInt32 &&& Int32.toUInt32 31)).toInt32) - ((((l5_3 * 1103515245) + 12345).toUInt32 >>> ((8 : Int32).toUInt32 &&& Int32.toUInt32 31)).toInt32) / (i3 64) * (i3 64)), .ref 50]) (h := ks i3 a3 q3 r3) (i := (.invokevirtual 63, 3, 29, 0, 9, 0, 220)) (mi_k78.2 _ _ (by rfl)) (ft_invS mi_pq29 (by rfl)) (cy := mi_c29) mi_pq29 rfl (kg29_50 hL3.I hL3.R (((((l5_3 * 1103515245) + 12345).toUInt32 >>> ((8 : Int32).toUInt32 &&& Int32.toUInt32 31)).toInt32) - ((((l5_3 * 1103515245) + 12345).toUInt32 >>> ((8 : Int32).toUInt32 &&& Int32.toUInt32 31)).toInt32) / (i3 64) * (i3 64)) (toj5 efi3_64 efig1_64 hc18 s16.1 s16.2) (kNoW_fr hG17 (by decide +kernel) hr hN) O3_1) (by decide) ?_
            intro vg19 ig19 ag19 qg19 rg19 kg19 hg19
            have hGg19 := kG_call hL3 kg19 (by decide +kernel)
            obtain ⟨hg19, og19⟩ := hg19
            have hG21 := kG_call hGg1 hL3 (by decide +kernel)
            have kn20 := (gKn_fr hG21 (by decide +kernel) : gKn i3 a3 = gKn i a)
            have oT22 := og19
            rw [kn20] at oT22
            have tT23 : kThm ig19 ag19 rg19 (gIn (gKn i a) (((((l5_3 * 1103515245) + 12345).toUInt32 >>> ((8 : Int32).toUInt32 &&& Int32.toUInt32 31)).toInt32) - ((((l5_3 * 1103515245) + 12345).toUInt32 >>> ((8 : Int32).toUInt32 &&& Int32.toUInt32 31)).toInt32) / (i3 64) * (i3 64)) ((gDm (gKn i a) (i 64) x4 (x2, gB i a) l6_3.toInt.toNat).2)) := oT22.1
            have s24 : (l6_3 + 1).toInt = l6_3.toInt + (1 : Int32).toInt := kd_add (toj6 p3_0 ktoj1) (toj7 c6 hp0.2 ktoj1)
            refine ft_go mi_k78 3 14 [(6, .int (l6_3 + 1)), (5, .int ((l5_3 * 1103515245) + 12345)), (0, .ref 49), (1, .ref 1), (2, .int x2), (3, .int x3), (4, .int x4)] [] ig19 ag19 qg19 rg19 (by rfl) ?_
            have fig19_64 : ((0 : Int) ≤ (ig19 64).toInt) ∧ ((ig19 64).toInt ≤ 8) := hGg19.I.1 64
            have efig19_64 : (ig19 64).toInt = (i3 64).toInt := kg19.ti 64 rfl
            exact ih3 _ _ _ _ _ _ hGg19 (toj8 p3_0 s24 ktoj1) (toj9 c6 s24 ktoj1) (toj10 c9 efig19_64 ktoj0) (toj11 efi3_64 efig19_64 efig1_64) (congrArg Prod.fst (gD_no (n1 := (i3 64)) (((hL3.fi 64 rfl).trans (kg1.fi 64 rfl)) : (i3 64) = i 64) O3_0 (toj2 p3_0) (toj12 s24 ktoj1) (toj13 c14))).symm (kThm_c tT23 (congrArg Prod.snd (gD_no (n1 := (i3 64)) (((hL3.fi 64 rfl).trans (kg1.fi 64 rfl)) : (i3 64) = i 64) O3_0 (toj2 p3_0) (toj12 s24 ktoj1) (toj13 c14)))) (kj_meas (toj14 s24 ktoj1) (toj15 c6) hm3)
          ·
            have c25 : (((((l5_3 * 1103515245) + 12345).toUInt32 >>> ((16 : Int32).toUInt32 &&& Int32.toUInt32 31)).toInt32) - ((((l5_3 * 1103515245) + 12345).toUInt32 >>> ((16 : Int32).toUInt32 &&& Int32.toUInt32 31)).toInt32) / 12 * 12).toInt < x4.toInt := kd_leF c; clear c
            refine ft_go mi_k78 2 55 [(5, .int ((l5_3 * 1103515245) + 12345)), (6, .int l6_3), (0, .ref 49), (1, .ref 1), (2, .int x2), (3, .int x3), (4, .int x4)] [.ref 50] i3 a3 q3 r3 (by rfl) ?_
            refine ko_callN mi_k78.1 (pc := 55) (ls := [(5, .int ((l5_3 * 1103515245) + 12345)), (6, .int l6_3), (0, .ref 49), (1, .ref 1), (2, .int x2), (3, .int x3), (4, .int x4)]) (st := [.ref 50]) (h := ks i3 a3 q3 r3) (i := (.invokevirtual 72, 3, 32, 0, 9, 0, 232)) (mi_k78.2 _ _ (by rfl)) (ft_invS mi_pq32 (by rfl)) (cy := mi_c32) mi_pq32 rfl (kg32_50 hL3.I hL3.R O3_1) (by decide) ?_
            intro ig26 ag26 qg26 rg26 kg26 hg26
            have hGg26 := kG_call hL3 kg26 (by decide +kernel)
            obtain ⟨hg26, og26⟩ := hg26
            have tT27 : kThm ig26 ag26 rg26 (gEve ((gDm (gKn i a) (i 64) x4 (x2, gB i a) l6_3.toInt.toNat).2)) := og26
            have s28 : (0 : Int) ≤ ((((l5_3 * 1103515245) + 12345).toUInt32 >>> ((8 : Int32).toUInt32 &&& Int32.toUInt32 31)).toInt32).toInt := kd_ushr 8 (by decide) (by decide) (by decide)
            have fig26_64 : ((0 : Int) ≤ (ig26 64).toInt) ∧ ((ig26 64).toInt ≤ 8) := hGg26.I.1 64
            have efig26_64 : (ig26 64).toInt = (i3 64).toInt := kg26.ti 64 rfl
            refine ft_go mi_k78 7 71 [(5, .int ((l5_3 * 1103515245) + 12345)), (6, .int l6_3), (0, .ref 49), (1, .ref 1), (2, .int x2), (3, .int x3), (4, .int x4)] [.int (ig26 64), .int ((((l5_3 * 1103515245) + 12345).toUInt32 >>> ((8 : Int32).toUInt32 &&& Int32.toUInt32 31)).toInt32), .ref 50] ig26 ag26 qg26 rg26 (by rfl) ?_
            have s29 : ((0 : Int) ≤ (((((l5_3 * 1103515245) + 12345).toUInt32 >>> ((8 : Int32).toUInt32 &&& Int32.toUInt32 31)).toInt32) - ((((l5_3 * 1103515245) + 12345).toUInt32 >>> ((8 : Int32).toUInt32 &&& Int32.toUInt32 31)).toInt32) / (ig26 64) * (ig26 64)).toInt) ∧ ((((((l5_3 * 1103515245) + 12345).toUInt32 >>> ((8 : Int32).toUInt32 &&& Int32.toUInt32 31)).toInt32) - ((((l5_3 * 1103515245) + 12345).toUInt32 >>> ((8 : Int32).toUInt32 &&& Int32.toUInt32 31)).toInt32) / (ig26 64) * (ig26 64)).toInt < (ig26 64).toInt) := kd_remv (toj17 c9 efig26_64 ktoj0) (toj2 s28)
            refine ko_irem mi_k78.1 (ax := (0, 0, 0, 0, 0)) (mi_k78.2 _ _ (by rfl)) (toj16 c9 efig26_64 ktoj0) ?_
            have hG30 := kG_call hGg1 hGg26 (by decide +kernel)
            have hc31 : (ig26 3200).toInt = (i 64).toInt := congrArg Int32.toInt (tT27.1.1.trans (hG30.fi 64 rfl))
            have fig26_3200 : ((0 : Int) ≤ (ig26 3200).toInt) ∧ ((ig26 3200).toInt ≤ 8) := hGg26.I.1 3200
            have fi3_3200 : ((0 : Int) ≤ (i3 3200).toInt) ∧ ((i3 3200).toInt ≤ 8) := hL3.I.1 3200
            have fig1_3200 : ((0 : Int) ≤ (ig1 3200).toInt) ∧ ((ig1 3200).toInt ≤ 8) := hGg1.I.1 3200
            have efi3_3200 : (i3 3200).toInt = (ig1 3200).toInt := hL3.ti 3200 rfl
            have efig26_3200 : (ig26 3200).toInt = (i3 3200).toInt := kg26.ti 3200 rfl
            refine ko_callI mi_k78.1 (pc := 72) (ls := [(5, .int ((l5_3 * 1103515245) + 12345)), (6, .int l6_3), (0, .ref 49), (1, .ref 1), (2, .int x2), (3, .int x3), (4, .int x4)]) (st := [.int (((((l5_3 * 1103515245) + 12345).toUInt32 >>> ((8 : Int32).toUInt32 &&& Int32.toUInt32 31)).toInt32) - ((((l5_3 * 1103515245) + 12345).toUInt32 >>> ((8 : Int32).toUInt32 &&& Int32.toUInt32 31)).toInt32) / (ig26 64) * (ig26 64)), .ref 50]) (h := ks ig26 ag26 qg26 rg26) (i := (.invokevirtual 63, 3, 29, 0, 9, 0, 220)) (mi_k78.2 _ _ (by rfl)) (ft_invS mi_pq29 (by rfl)) (cy := mi_c29) mi_pq29 rfl (kg29_50 hGg26.I hGg26.R (((((l5_3 * 1103515245) + 12345).toUInt32 >>> ((8 : Int32).toUInt32 &&& Int32.toUInt32 31)).toInt32) - ((((l5_3 * 1103515245) + 12345).toUInt32 >>> ((8 : Int32).toUInt32 &&& Int32.toUInt32 31)).toInt32) / (ig26 64) * (ig26 64)) (toj18 efi3_64 efig1_64 efig26_64 hc31 s29.1 s29.2) (kNoW_fr hG30 (by decide +kernel) hr hN) tT27) (by decide) ?_
            intro vg32 ig32 ag32 qg32 rg32 kg32 hg32
            have hGg32 := kG_call hGg26 kg32 (by decide +kernel)
            obtain ⟨hg32, og32⟩ := hg32
            have hG34 := kG_call hGg1 hGg26 (by decide +kernel)
            have kn33 := (gKn_fr hG34 (by decide +kernel) : gKn ig26 ag26 = gKn i a)
            have oT35 := og32
            rw [kn33] at oT35
            have tT36 : kThm ig32 ag32 rg32 (gIn (gKn i a) (((((l5_3 * 1103515245) + 12345).toUInt32 >>> ((8 : Int32).toUInt32 &&& Int32.toUInt32 31)).toInt32) - ((((l5_3 * 1103515245) + 12345).toUInt32 >>> ((8 : Int32).toUInt32 &&& Int32.toUInt32 31)).toInt32) / (ig26 64) * (ig26 64)) (gEve ((gDm (gKn i a) (i 64) x4 (x2, gB i a) l6_3.toInt.toNat).2))) := oT35.1
            have s37 : (l6_3 + 1).toInt = l6_3.toInt + (1 : Int32).toInt := kd_add (toj6 p3_0 ktoj1) (toj7 c6 hp0.2 ktoj1)
            refine ft_go mi_k78 3 14 [(6, .int (l6_3 + 1)), (5, .int ((l5_3 * 1103515245) + 12345)), (0, .ref 49), (1, .ref 1), (2, .int x2), (3, .int x3), (4, .int x4)] [] ig32 ag32 qg32 rg32 (by rfl) ?_
            have fig32_64 : ((0 : Int) ≤ (ig32 64).toInt) ∧ ((ig32 64).toInt ≤ 8) := hGg32.I.1 64
            have efig32_64 : (ig32 64).toInt = (ig26 64).toInt := kg32.ti 64 rfl
            exact ih3 _ _ _ _ _ _ hGg32 (toj8 p3_0 s37 ktoj1) (toj9 c6 s37 ktoj1) (toj19 c9 efig26_64 efig32_64 ktoj0) (toj20 efi3_64 efig1_64 efig26_64 efig32_64) (congrArg Prod.fst (gD_yes (n1 := (ig26 64)) ((((kg26.fi 64 rfl).trans (hL3.fi 64 rfl)).trans (kg1.fi 64 rfl)) : (ig26 64) = i 64) O3_0 (toj2 p3_0) (toj12 s37 ktoj1) (toj21 c25))).symm (kThm_c tT36 (congrArg Prod.snd (gD_yes (n1 := (ig26 64)) ((((kg26.fi 64 rfl).trans (hL3.fi 64 rfl)).trans (kg1.fi 64 rfl)) : (ig26 64) = i 64) O3_0 (toj2 p3_0) (toj12 s37 ktoj1) (toj21 c25)))) (kj_meas (toj14 s37 ktoj1) (toj15 c6) hm3)
  have fig1_64 : ((0 : Int) ≤ (ig1 64).toInt) ∧ ((ig1 64).toInt ≤ 8) := hGg1.I.1 64
  have fi_64 : ((0 : Int) ≤ (i 64).toInt) ∧ ((i 64).toInt ≤ 8) := hG.I.1 64
  have efig1_64 : (ig1 64).toInt = (i 64).toInt := kg1.ti 64 rfl
  exact lp3 _ _ _ _ _ _ _ (kG_self _ hGg1.I hGg1.R) (toj22 ktoj0) (toj23 hp0.1 ktoj0) (toj24 ktoj0) (toj25 efig1_64) (congrArg Prod.fst (gDm_0 (P := (x2, gB i a)) ktoj0)).symm (kThm_c tT2 (congrArg Prod.snd (gDm_0 (P := (x2, gB i a)) ktoj0))) (Nat.lt_succ_self _)
def yw101_0 : kW := ([645, 3200, 3206, 3207, 3208, 3209, 3214, 3215, 3216, 3586, 3781, 6405], [13, 51, 52, 53, 54, 55, 57, 58, 62, 63, 65, 66, 67, 68, 69, 70, 71, 72, 73, 103], [], [1])
def yw101_0_L85 : kW := ([645, 3200, 3206, 3207, 3208, 3209, 3214, 3215, 3216, 3586, 3781, 6405], [13, 51, 52, 53, 54, 55, 57, 58, 62, 63, 65, 66, 67, 68, 69, 70, 71, 72, 73, 103], [], [1])
set_option maxRecDepth 100000 in
theorem ke101_0 {i : Nat → Int32} {a : Nat → List Int32} {q : Nat → List Int64} {r : Nat → Nat} (hI : kI i a q) (hr : kr r) (x1 : Int32) (x2 : Int32) (x3 : Int32) (hN : kNoW i a r) : km 11 101 [.ref 0, .int x1, .int x2, .int x3] (ks i a q r) (kVI yw101_0 i a q r (fun v i1 a1 q1 r1 => (True) ∧ cDw ((0 : Int) ≤ x2.toInt ∧ ((1 : Int) ≤ (x2 / 10000).toInt ∧ (x2 / 10000).toInt ≤ 30) ∧ ((1 : Int) ≤ (x2 / 100 - x2 / 100 / 100 * 100).toInt ∧ (x2 / 100 - x2 / 100 / 100 * 100).toInt ≤ 60) ∧ (x2 - x2 / 100 * 100).toInt ≤ 12 ∧ (x3.toInt = -1 ∨ ((0 : Int) ≤ x3.toInt ∧ x3.toInt < (i 64).toInt))) v (v = (gDc (gKn i a) (i 64) (dRm x2 100) (gM (i 64) (dRm (x2 / 100) 100)) x3 (gB i a) x1 (x2 / 10000).toInt.toNat).1))) := by
  have hG := kG_self yw101_0 hI hr
  refine km_ofI (q := (mi_h101, mi_c101)) rfl (by decide) (Nat.le_of_ble_eq_true rfl) ?_
  intro P hP
  have s1 : 0 ≤ x2.toInt → (x2 / 10000).toInt = (x2.toInt / 10000) := kd_div 10000 ktoj10000 (by decide)
  have s2 : 0 ≤ x2.toInt → (x2 / 100).toInt = (x2.toInt / 100) := kd_div 100 ktoj100 (by decide)
  have s3 : 0 ≤ (x2 / 100).toInt → ((x2 / 100) - (x2 / 100) / 100 * 100).toInt = ((x2 / 100).toInt % 100) := kd_rem 100 ktoj100 (by decide)
  have s4 : 0 ≤ x2.toInt → (x2 - x2 / 100 * 100).toInt = (x2.toInt % 100) := kd_rem 100 ktoj100 (by decide)
  refine ft_go mi_k101 15 23 [(6, .int (x2 - x2 / 100 * 100)), (5, .int ((x2 / 100) - (x2 / 100) / 100 * 100)), (4, .int (x2 / 10000)), (0, .ref 0), (1, .int x1), (2, .int x2), (3, .int x3)] [.int x2] i a q r (by rfl) ?_
  refine ft_if mi_k101 (decide (x2 < 0)) 59 26 [(6, .int (x2 - x2 / 100 * 100)), (5, .int ((x2 / 100) - (x2 / 100) / 100 * 100)), (4, .int (x2 / 10000)), (0, .ref 0), (1, .int x1), (2, .int x2), (3, .int x3)] [] (by rfl) (fun c => ?_) (fun c => ?_)
  ·
    have c5 : x2.toInt < (0 : Int32).toInt := kd_lt c; clear c
    refine ft_go mi_k101 1 60 [(6, .int (x2 - x2 / 100 * 100)), (5, .int ((x2 / 100) - (x2 / 100) / 100 * 100)), (4, .int (x2 / 10000)), (0, .ref 0), (1, .int x1), (2, .int x2), (3, .int x3)] [.int (-1)] i a q r (by rfl) ?_
    have fi_64 : ((0 : Int) ≤ (i 64).toInt) ∧ ((i 64).toInt ≤ 8) := hG.I.1 64
    exact ft_ret mi_k101 (by rfl) (hP (-1) _ _ _ _ hG ⟨trivial, (Or.inl ⟨(toj26 c5 ktoj0), rfl⟩)⟩)
  ·
    have c6 : (0 : Int32).toInt ≤ x2.toInt := kd_ltF c; clear c
    refine ft_go mi_k101 3 31 [(6, .int (x2 - x2 / 100 * 100)), (5, .int ((x2 / 100) - (x2 / 100) / 100 * 100)), (4, .int (x2 / 10000)), (0, .ref 0), (1, .int x1), (2, .int x2), (3, .int x3)] [.int 30, .int 1, .int (x2 / 10000)] i a q r (by rfl) ?_
    refine ko_callPI mi_k101.1 (pc := 31) (ls := [(6, .int (x2 - x2 / 100 * 100)), (5, .int ((x2 / 100) - (x2 / 100) / 100 * 100)), (4, .int (x2 / 10000)), (0, .ref 0), (1, .int x1), (2, .int x2), (3, .int x3)]) (st := [.int 30, .int 1, .int (x2 / 10000)]) (h := ks i a q r) (i := (.invokestatic 74, 3, 120, 0, 9, 0, 152)) (mi_k101.2 _ _ (by rfl)) (ft_invS mi_pq120 (by rfl)) (cy := mi_c120) mi_pq120 rfl (kc120 hG.I hG.R (x2 / 10000) 1 30) (by decide) ?_
    intro vg7 hg7
    rcases hg7 with ⟨eg7, hg7⟩ | ⟨eg7, hg7⟩
    ·
      subst eg7
      have z8 : ((1 : Int32).toInt ≤ (x2 / 10000).toInt) ∧ ((x2 / 10000).toInt ≤ (30 : Int32).toInt) := hg7
      refine ft_go mi_k101 4 42 [(6, .int (x2 - x2 / 100 * 100)), (5, .int ((x2 / 100) - (x2 / 100) / 100 * 100)), (4, .int (x2 / 10000)), (0, .ref 0), (1, .int x1), (2, .int x2), (3, .int x3)] [.int 60, .int 1, .int ((x2 / 100) - (x2 / 100) / 100 * 100)] i a q r (by rfl) ?_
      refine ko_callPI mi_k101.1 (pc := 42) (ls := [(6, .int (x2 - x2 / 100 * 100)), (5, .int ((x2 / 100) - (x2 / 100) / 100 * 100)), (4, .int (x2 / 10000)), (0, .ref 0), (1, .int x1), (2, .int x2), (3, .int x3)]) (st := [.int 60, .int 1, .int ((x2 / 100) - (x2 / 100) / 100 * 100)]) (h := ks i a q r) (i := (.invokestatic 74, 3, 120, 0, 9, 0, 152)) (mi_k101.2 _ _ (by rfl)) (ft_invS mi_pq120 (by rfl)) (cy := mi_c120) mi_pq120 rfl (kc120 hG.I hG.R ((x2 / 100) - (x2 / 100) / 100 * 100) 1 60) (by decide) ?_
      intro vg9 hg9
      rcases hg9 with ⟨eg9, hg9⟩ | ⟨eg9, hg9⟩
      ·
        subst eg9
        have z10 : ((1 : Int32).toInt ≤ ((x2 / 100) - (x2 / 100) / 100 * 100).toInt) ∧ (((x2 / 100) - (x2 / 100) / 100 * 100).toInt ≤ (60 : Int32).toInt) := hg9
        refine ft_go mi_k101 4 53 [(6, .int (x2 - x2 / 100 * 100)), (5, .int ((x2 / 100) - (x2 / 100) / 100 * 100)), (4, .int (x2 / 10000)), (0, .ref 0), (1, .int x1), (2, .int x2), (3, .int x3)] [.int 12, .int 0, .int (x2 - x2 / 100 * 100)] i a q r (by rfl) ?_
        refine ko_callPI mi_k101.1 (pc := 53) (ls := [(6, .int (x2 - x2 / 100 * 100)), (5, .int ((x2 / 100) - (x2 / 100) / 100 * 100)), (4, .int (x2 / 10000)), (0, .ref 0), (1, .int x1), (2, .int x2), (3, .int x3)]) (st := [.int 12, .int 0, .int (x2 - x2 / 100 * 100)]) (h := ks i a q r) (i := (.invokestatic 74, 3, 120, 0, 9, 0, 152)) (mi_k101.2 _ _ (by rfl)) (ft_invS mi_pq120 (by rfl)) (cy := mi_c120) mi_pq120 rfl (kc120 hG.I hG.R (x2 - x2 / 100 * 100) 0 12) (by decide) ?_
        intro vg11 hg11
        rcases hg11 with ⟨eg11, hg11⟩ | ⟨eg11, hg11⟩
        ·
          subst eg11
          have z12 : ((0 : Int32).toInt ≤ (x2 - x2 / 100 * 100).toInt) ∧ ((x2 - x2 / 100 * 100).toInt ≤ (12 : Int32).toInt) := hg11
          refine ft_go mi_k101 3 63 [(6, .int (x2 - x2 / 100 * 100)), (5, .int ((x2 / 100) - (x2 / 100) / 100 * 100)), (4, .int (x2 / 10000)), (0, .ref 0), (1, .int x1), (2, .int x2), (3, .int x3)] [.int (-1), .int x3] i a q r (by rfl) ?_
          refine ft_if mi_k101 (x3 == (-1)) 76 66 [(6, .int (x2 - x2 / 100 * 100)), (5, .int ((x2 / 100) - (x2 / 100) / 100 * 100)), (4, .int (x2 / 10000)), (0, .ref 0), (1, .int x1), (2, .int x2), (3, .int x3)] [] (by rfl) (fun c => ?_) (fun c => ?_)
          ·
            have c13 : x3.toInt = ((-1) : Int32).toInt := kd_eq c; clear c
            refine ft_go mi_k101 6 85 [(9, .int 0), (8, .int x1), (7, .int 0), (6, .int (x2 - x2 / 100 * 100)), (5, .int ((x2 / 100) - (x2 / 100) / 100 * 100)), (4, .int (x2 / 10000)), (0, .ref 0), (1, .int x1), (2, .int x2), (3, .int x3)] [] i a q r (by rfl) ?_
            have lp14 : ∀ (nz : Nat) (i14 : Nat → Int32) (a14 : Nat → List Int32) (q14 : Nat → List Int64) (r14 : Nat → Nat) (l9_14 : Int32) (l8_14 : Int32) (l7_14 : Int32), kG yw101_0_L85 i a q r i14 a14 q14 r14 → (0 : Int) ≤ l9_14.toInt → l9_14.toInt ≤ (x2 / 10000).toInt → (i14 64).toInt = (i 64).toInt → l7_14 = (gDc (gKn i a) (i 64) (dRm x2 100) (gM (i 64) (dRm (x2 / 100) 100)) x3 (gB i a) x1 l9_14.toInt.toNat).1 → l8_14 = (gDc (gKn i a) (i 64) (dRm x2 100) (gM (i 64) (dRm (x2 / 100) 100)) x3 (gB i a) x1 l9_14.toInt.toNat).2 → (((x2 / 10000).toInt - l9_14.toInt)).toNat < nz → ko 11 (mi_h101, mi_c101) P (85, [(9, .int l9_14), (8, .int l8_14), (7, .int l7_14), (6, .int (x2 - x2 / 100 * 100)), (5, .int ((x2 / 100) - (x2 / 100) / 100 * 100)), (4, .int (x2 / 10000)), (0, .ref 0), (1, .int x1), (2, .int x2), (3, .int x3)], [], (0, 0), ks i14 a14 q14 r14) := by
              intro nz
              induction nz with
              | zero =>
                intro _ _ _ _ _ _ _ _ _ _ _ _ _ hm
                exact absurd hm (Nat.not_lt_zero _)
              | succ nz ih14 =>
                intro i14 a14 q14 r14 l9_14 l8_14 l7_14 hL14 p14_0 p14_1 p14_2 O14_0 O14_1 hm14
                have fi14_64 : ((0 : Int) ≤ (i14 64).toInt) ∧ ((i14 64).toInt ≤ 8) := hL14.I.1 64
                have fi_64 : ((0 : Int) ≤ (i 64).toInt) ∧ ((i 64).toInt ≤ 8) := hG.I.1 64
                have efi14_64 : (i14 64).toInt = (i 64).toInt := hL14.ti 64 rfl
                refine ft_go mi_k101 2 89 [(9, .int l9_14), (8, .int l8_14), (7, .int l7_14), (6, .int (x2 - x2 / 100 * 100)), (5, .int ((x2 / 100) - (x2 / 100) / 100 * 100)), (4, .int (x2 / 10000)), (0, .ref 0), (1, .int x1), (2, .int x2), (3, .int x3)] [.int (x2 / 10000), .int l9_14] i14 a14 q14 r14 (by rfl) ?_
                refine ft_if mi_k101 (decide ((x2 / 10000) ≤ l9_14)) 130 92 [(9, .int l9_14), (8, .int l8_14), (7, .int l7_14), (6, .int (x2 - x2 / 100 * 100)), (5, .int ((x2 / 100) - (x2 / 100) / 100 * 100)), (4, .int (x2 / 10000)), (0, .ref 0), (1, .int x1), (2, .int x2), (3, .int x3)] [] (by rfl) (fun c => ?_) (fun c => ?_)
                ·
                  have c15 : (x2 / 10000).toInt ≤ l9_14.toInt := kd_le c; clear c
                  have hG16 := kG_call hG hL14 (by decide +kernel)
                  refine ft_go mi_k101 1 132 [(9, .int l9_14), (8, .int l8_14), (7, .int l7_14), (6, .int (x2 - x2 / 100 * 100)), (5, .int ((x2 / 100) - (x2 / 100) / 100 * 100)), (4, .int (x2 / 10000)), (0, .ref 0), (1, .int x1), (2, .int x2), (3, .int x3)] [.int l7_14] i14 a14 q14 r14 (by rfl) ?_
                  exact ft_ret mi_k101 (by rfl) (hP l7_14 _ _ _ _ hG16 ⟨trivial, (Or.inr ⟨(toj30 c13 c6 z10.1 z10.2 z12.2 z8.1 z8.2 ktojm1 ktoj0 ktoj1 ktoj60 ktoj12 ktoj30), O14_0.trans (congrArg (fun j : Nat => (gDc (gKn i a) (i 64) (dRm x2 100) (gM (i 64) (dRm (x2 / 100) 100)) x3 (gB i a) x1 j).1) (congrArg Int.toNat (toj31 c15 p14_1)))⟩)⟩)
                ·
                  have c17 : l9_14.toInt < (x2 / 10000).toInt := kd_leF c; clear c
                  refine ft_go mi_k101 7 106 [(9, .int l9_14), (8, .int l8_14), (7, .int l7_14), (6, .int (x2 - x2 / 100 * 100)), (5, .int ((x2 / 100) - (x2 / 100) / 100 * 100)), (4, .int (x2 / 10000)), (0, .ref 0), (1, .int x1), (2, .int x2), (3, .int x3)] [.int (x2 - x2 / 100 * 100), .int ((x2 / 100) - (x2 / 100) / 100 * 100), .int l8_14, .ref 1, .ref 49] i14 a14 q14 r14 (by rfl) ?_
                  have hG18 := kG_call hG hL14 (by decide +kernel)
                  refine ko_callI mi_k101.1 (pc := 106) (ls := [(9, .int l9_14), (8, .int l8_14), (7, .int l7_14), (6, .int (x2 - x2 / 100 * 100)), (5, .int ((x2 / 100) - (x2 / 100) / 100 * 100)), (4, .int (x2 / 10000)), (0, .ref 0), (1, .int x1), (2, .int x2), (3, .int x3)]) (st := [.int (x2 - x2 / 100 * 100), .int ((x2 / 100) - (x2 / 100) / 100 * 100), .int l8_14, .ref 1, .ref 49]) (h := ks i14 a14 q14 r14) (i := (.invokevirtual 251, 3, 78, 0, 9, 0, 278)) (mi_k101.2 _ _ (by rfl)) (ft_invS mi_pq78 (by rfl)) (cy := mi_c78) mi_pq78 rfl (ke78_49_1 hL14.I hL14.R l8_14 ((x2 / 100) - (x2 / 100) / 100 * 100) (x2 - x2 / 100 * 100) (toj32 z10.1 z10.2 ktoj1 ktoj60) (kNoW_fr hG18 (by decide +kernel) hr hN)) (by decide) ?_
                  intro vg19 ig19 ag19 qg19 rg19 kg19 hg19
                  have hGg19 := kG_call hL14 kg19 (by decide +kernel)
                  obtain ⟨hg19, og19⟩ := hg19
                  have oD20 := og19
                  have hG21 := kG_call hG hL14 (by decide +kernel)
                  rw [(gKn_fr hG21 (by decide +kernel) : gKn i14 a14 = gKn i a), ((hL14.fi 64 rfl) : i14 64 = i 64)] at oD20
                  have tT22 : kThm ig19 ag19 rg19 ((gDm (gKn i a) (i 64) (x2 - x2 / 100 * 100) (l8_14, gB i14 a14) (gM (i 64) ((x2 / 100) - (x2 / 100) / 100 * 100))).2) := oD20.2
                  have hG23 := kG_call hG hGg19 (by decide +kernel)
                  have hc24 : (ig19 3200).toInt = (i 64).toInt := congrArg Int32.toInt (tT22.1.1.trans (hG23.fi 64 rfl))
                  refine ft_go mi_k101 5 118 [(8, .int vg19), (9, .int l9_14), (7, .int l7_14), (6, .int (x2 - x2 / 100 * 100)), (5, .int ((x2 / 100) - (x2 / 100) / 100 * 100)), (4, .int (x2 / 10000)), (0, .ref 0), (1, .int x1), (2, .int x2), (3, .int x3)] [.int x3, .ref 49, .int l7_14] ig19 ag19 qg19 rg19 (by rfl) ?_
                  refine ko_callPI mi_k101.1 (pc := 118) (ls := [(8, .int vg19), (9, .int l9_14), (7, .int l7_14), (6, .int (x2 - x2 / 100 * 100)), (5, .int ((x2 / 100) - (x2 / 100) / 100 * 100)), (4, .int (x2 / 10000)), (0, .ref 0), (1, .int x1), (2, .int x2), (3, .int x3)]) (st := [.int x3, .ref 49, .int l7_14]) (h := ks ig19 ag19 qg19 rg19) (i := (.invokevirtual 171, 3, 62, 0, 9, 0, 233)) (mi_k101.2 _ _ (by rfl)) (ft_invS mi_pq62 (by rfl)) (cy := mi_c62) mi_pq62 rfl (ke62_49 hGg19.I hGg19.R x3) (by decide) ?_
                  intro vg25 hg25
                  obtain ⟨hg25, og25⟩ := hg25
                  have fig19_3200 : ((0 : Int) ≤ (ig19 3200).toInt) ∧ ((ig19 3200).toInt ≤ 8) := hGg19.I.1 3200
                  have q26 : vg25 = (ag19 63).getD (2 : Int32).toNatClampNeg 0 := og25.2 (toj38 c13 ktojm1)
                  have b27 : ((-2147483648 : Int) ≤ l7_14.toInt) ∧ (l7_14.toInt ≤ 2147483647) := kd_bd l7_14
                  have b28 : ((-2147483648 : Int) ≤ vg25.toInt) ∧ (vg25.toInt ≤ 2147483647) := kd_bd vg25
                  have s29 : (l9_14 + 1).toInt = l9_14.toInt + (1 : Int32).toInt := kd_add (toj6 p14_0 ktoj1) (toj39 c17 z8.2 ktoj30 ktoj1)
                  refine ft_go mi_k101 4 85 [(9, .int (l9_14 + 1)), (7, .int (l7_14 + vg25)), (8, .int vg19), (6, .int (x2 - x2 / 100 * 100)), (5, .int ((x2 / 100) - (x2 / 100) / 100 * 100)), (4, .int (x2 / 10000)), (0, .ref 0), (1, .int x1), (2, .int x2), (3, .int x3)] [] ig19 ag19 qg19 rg19 (by rfl) ?_
                  refine ko_perm [(9, .int (l9_14 + 1)), (8, .int vg19), (7, .int (l7_14 + vg25)), (6, .int (x2 - x2 / 100 * 100)), (5, .int ((x2 / 100) - (x2 / 100) / 100 * 100)), (4, .int (x2 / 10000)), (0, .ref 0), (1, .int x1), (2, .int x2), (3, .int x3)] (List.forall_mem_cons.mpr ⟨(List.Mem.head _), (List.forall_mem_cons.mpr ⟨(List.Mem.tail _ (List.Mem.tail _ (List.Mem.head _))), (List.forall_mem_cons.mpr ⟨(List.Mem.tail _ (List.Mem.head _)), (List.forall_mem_cons.mpr ⟨(List.Mem.tail _ (List.Mem.tail _ (List.Mem.tail _ (List.Mem.head _)))), (List.forall_mem_cons.mpr ⟨(List.Mem.tail _ (List.Mem.tail _ (List.Mem.tail _ (List.Mem.tail _ (List.Mem.head _))))), (List.forall_mem_cons.mpr ⟨(List.Mem.tail _ (List.Mem.tail _ (List.Mem.tail _ (List.Mem.tail _ (List.Mem.tail _ (List.Mem.head _)))))), (List.forall_mem_cons.mpr ⟨(List.Mem.tail _ (List.Mem.tail _ (List.Mem.tail _ (List.Mem.tail _ (List.Mem.tail _ (List.Mem.tail _ (List.Mem.head _))))))), (List.forall_mem_cons.mpr ⟨(List.Mem.tail _ (List.Mem.tail _ (List.Mem.tail _ (List.Mem.tail _ (List.Mem.tail _ (List.Mem.tail _ (List.Mem.tail _ (List.Mem.head _)))))))), (List.forall_mem_cons.mpr ⟨(List.Mem.tail _ (List.Mem.tail _ (List.Mem.tail _ (List.Mem.tail _ (List.Mem.tail _ (List.Mem.tail _ (List.Mem.tail _ (List.Mem.tail _ (List.Mem.head _))))))))), (List.forall_mem_cons.mpr ⟨(List.Mem.tail _ (List.Mem.tail _ (List.Mem.tail _ (List.Mem.tail _ (List.Mem.tail _ (List.Mem.tail _ (List.Mem.tail _ (List.Mem.tail _ (List.Mem.tail _ (List.Mem.head _)))))))))), (fun _ h => absurd h List.not_mem_nil)⟩)⟩)⟩)⟩)⟩)⟩)⟩)⟩)⟩)⟩) ?_
                  have fig19_64 : ((0 : Int) ≤ (ig19 64).toInt) ∧ ((ig19 64).toInt ≤ 8) := hGg19.I.1 64
                  have efig19_64 : (ig19 64).toInt = (i14 64).toInt := kg19.ti 64 rfl
                  exact ih14 _ _ _ _ _ _ _ hGg19 (toj8 p14_0 s29 ktoj1) (toj9 c17 s29 ktoj1) (toj40 efi14_64 efig19_64) (gDc_step (m := gM (i 64) (dRm (x2 / 100) 100)) (dk := dRm x2 100) O14_0 O14_1 (toj2 p14_0) (toj12 s29 ktoj1) ((dF_la (toj41 c13 ktojm1) (q26.trans ((congrArg (fun z : Nat => (ag19 63).getD z 0) (by decide : (2 : Int32).toNatClampNeg = 2)).trans (kThm_la tT22)))).trans (gB_dmF ((hL14.fa 118 rfl) : a14 118 = a 118))) (oD20.1.trans (gB_dm1 ((hL14.fa 118 rfl) : a14 118 = a 118)))).1 (gDc_step (m := gM (i 64) (dRm (x2 / 100) 100)) (dk := dRm x2 100) O14_0 O14_1 (toj2 p14_0) (toj12 s29 ktoj1) ((dF_la (toj41 c13 ktojm1) (q26.trans ((congrArg (fun z : Nat => (ag19 63).getD z 0) (by decide : (2 : Int32).toNatClampNeg = 2)).trans (kThm_la tT22)))).trans (gB_dmF ((hL14.fa 118 rfl) : a14 118 = a 118))) (oD20.1.trans (gB_dm1 ((hL14.fa 118 rfl) : a14 118 = a 118)))).2 (kj_meas (toj14 s29 ktoj1) (toj15 c17) hm14)
            have fi_64 : ((0 : Int) ≤ (i 64).toInt) ∧ ((i 64).toInt ≤ 8) := hG.I.1 64
            exact lp14 _ _ _ _ _ _ _ _ (kG_self _ hG.I hG.R) (toj22 ktoj0) (toj42 z8.1 ktoj1 ktoj0) toj43 (congrArg Prod.fst (gDc_0 ktoj0)).symm (congrArg Prod.snd (gDc_0 ktoj0)).symm (Nat.lt_succ_self _)
          ·
            have c30 : x3.toInt ≠ ((-1) : Int32).toInt := kd_eqF c; clear c
            refine ft_go mi_k101 2 68 [(6, .int (x2 - x2 / 100 * 100)), (5, .int ((x2 / 100) - (x2 / 100) / 100 * 100)), (4, .int (x2 / 10000)), (0, .ref 0), (1, .int x1), (2, .int x2), (3, .int x3)] [.int x3, .ref 0] i a q r (by rfl) ?_
            refine ko_callPI mi_k101.1 (pc := 68) (ls := [(6, .int (x2 - x2 / 100 * 100)), (5, .int ((x2 / 100) - (x2 / 100) / 100 * 100)), (4, .int (x2 / 10000)), (0, .ref 0), (1, .int x1), (2, .int x2), (3, .int x3)]) (st := [.int x3, .ref 0]) (h := ks i a q r) (i := (.invokevirtual 141, 3, 123, 0, 9, 0, 162)) (mi_k101.2 _ _ (by rfl)) (ft_invS mi_pq123 (by rfl)) (cy := mi_c123) mi_pq123 rfl (kc123_0 hG.I hG.R x3) (by decide) ?_
            intro vg31 hg31
            rcases hg31 with ⟨eg31, hg31⟩ | ⟨eg31, hg31⟩
            ·
              subst eg31
              have fi_64 : ((0 : Int) ≤ (i 64).toInt) ∧ ((i 64).toInt ≤ 8) := hG.I.1 64
              have z32 : ((0 : Int) ≤ x3.toInt) ∧ (x3.toInt < (i 64).toInt) := hg31
              refine ft_go mi_k101 7 85 [(9, .int 0), (8, .int x1), (7, .int 0), (6, .int (x2 - x2 / 100 * 100)), (5, .int ((x2 / 100) - (x2 / 100) / 100 * 100)), (4, .int (x2 / 10000)), (0, .ref 0), (1, .int x1), (2, .int x2), (3, .int x3)] [] i a q r (by rfl) ?_
              have lp33 : ∀ (nz : Nat) (i33 : Nat → Int32) (a33 : Nat → List Int32) (q33 : Nat → List Int64) (r33 : Nat → Nat) (l9_33 : Int32) (l8_33 : Int32) (l7_33 : Int32), kG yw101_0_L85 i a q r i33 a33 q33 r33 → (0 : Int) ≤ l9_33.toInt → l9_33.toInt ≤ (x2 / 10000).toInt → (i33 64).toInt = (i 64).toInt → l7_33 = (gDc (gKn i a) (i 64) (dRm x2 100) (gM (i 64) (dRm (x2 / 100) 100)) x3 (gB i a) x1 l9_33.toInt.toNat).1 → l8_33 = (gDc (gKn i a) (i 64) (dRm x2 100) (gM (i 64) (dRm (x2 / 100) 100)) x3 (gB i a) x1 l9_33.toInt.toNat).2 → (((x2 / 10000).toInt - l9_33.toInt)).toNat < nz → ko 11 (mi_h101, mi_c101) P (85, [(9, .int l9_33), (8, .int l8_33), (7, .int l7_33), (6, .int (x2 - x2 / 100 * 100)), (5, .int ((x2 / 100) - (x2 / 100) / 100 * 100)), (4, .int (x2 / 10000)), (0, .ref 0), (1, .int x1), (2, .int x2), (3, .int x3)], [], (0, 0), ks i33 a33 q33 r33) := by
                intro nz
                induction nz with
                | zero =>
                  intro _ _ _ _ _ _ _ _ _ _ _ _ _ hm
                  exact absurd hm (Nat.not_lt_zero _)
                | succ nz ih33 =>
                  intro i33 a33 q33 r33 l9_33 l8_33 l7_33 hL33 p33_0 p33_1 p33_2 O33_0 O33_1 hm33
                  have fi33_64 : ((0 : Int) ≤ (i33 64).toInt) ∧ ((i33 64).toInt ≤ 8) := hL33.I.1 64
                  have efi33_64 : (i33 64).toInt = (i 64).toInt := hL33.ti 64 rfl
                  refine ft_go mi_k101 2 89 [(9, .int l9_33), (8, .int l8_33), (7, .int l7_33), (6, .int (x2 - x2 / 100 * 100)), (5, .int ((x2 / 100) - (x2 / 100) / 100 * 100)), (4, .int (x2 / 10000)), (0, .ref 0), (1, .int x1), (2, .int x2), (3, .int x3)] [.int (x2 / 10000), .int l9_33] i33 a33 q33 r33 (by rfl) ?_
                  refine ft_if mi_k101 (decide ((x2 / 10000) ≤ l9_33)) 130 92 [(9, .int l9_33), (8, .int l8_33), (7, .int l7_33), (6, .int (x2 - x2 / 100 * 100)), (5, .int ((x2 / 100) - (x2 / 100) / 100 * 100)), (4, .int (x2 / 10000)), (0, .ref 0), (1, .int x1), (2, .int x2), (3, .int x3)] [] (by rfl) (fun c => ?_) (fun c => ?_)
                  ·
                    have c34 : (x2 / 10000).toInt ≤ l9_33.toInt := kd_le c; clear c
                    have hG35 := kG_call hG hL33 (by decide +kernel)
                    refine ft_go mi_k101 1 132 [(9, .int l9_33), (8, .int l8_33), (7, .int l7_33), (6, .int (x2 - x2 / 100 * 100)), (5, .int ((x2 / 100) - (x2 / 100) / 100 * 100)), (4, .int (x2 / 10000)), (0, .ref 0), (1, .int x1), (2, .int x2), (3, .int x3)] [.int l7_33] i33 a33 q33 r33 (by rfl) ?_
                    exact ft_ret mi_k101 (by rfl) (hP l7_33 _ _ _ _ hG35 ⟨trivial, (Or.inr ⟨(toj48 c6 z10.1 z10.2 z12.2 z32.1 z32.2 z8.1 z8.2 ktoj0 ktoj1 ktoj60 ktoj12 ktoj30), O33_0.trans (congrArg (fun j : Nat => (gDc (gKn i a) (i 64) (dRm x2 100) (gM (i 64) (dRm (x2 / 100) 100)) x3 (gB i a) x1 j).1) (congrArg Int.toNat (toj31 c34 p33_1)))⟩)⟩)
                  ·
                    have c36 : l9_33.toInt < (x2 / 10000).toInt := kd_leF c; clear c
                    refine ft_go mi_k101 7 106 [(9, .int l9_33), (8, .int l8_33), (7, .int l7_33), (6, .int (x2 - x2 / 100 * 100)), (5, .int ((x2 / 100) - (x2 / 100) / 100 * 100)), (4, .int (x2 / 10000)), (0, .ref 0), (1, .int x1), (2, .int x2), (3, .int x3)] [.int (x2 - x2 / 100 * 100), .int ((x2 / 100) - (x2 / 100) / 100 * 100), .int l8_33, .ref 1, .ref 49] i33 a33 q33 r33 (by rfl) ?_
                    have hG37 := kG_call hG hL33 (by decide +kernel)
                    refine ko_callI mi_k101.1 (pc := 106) (ls := [(9, .int l9_33), (8, .int l8_33), (7, .int l7_33), (6, .int (x2 - x2 / 100 * 100)), (5, .int ((x2 / 100) - (x2 / 100) / 100 * 100)), (4, .int (x2 / 10000)), (0, .ref 0), (1, .int x1), (2, .int x2), (3, .int x3)]) (st := [.int (x2 - x2 / 100 * 100), .int ((x2 / 100) - (x2 / 100) / 100 * 100), .int l8_33, .ref 1, .ref 49]) (h := ks i33 a33 q33 r33) (i := (.invokevirtual 251, 3, 78, 0, 9, 0, 278)) (mi_k101.2 _ _ (by rfl)) (ft_invS mi_pq78 (by rfl)) (cy := mi_c78) mi_pq78 rfl (ke78_49_1 hL33.I hL33.R l8_33 ((x2 / 100) - (x2 / 100) / 100 * 100) (x2 - x2 / 100 * 100) (toj32 z10.1 z10.2 ktoj1 ktoj60) (kNoW_fr hG37 (by decide +kernel) hr hN)) (by decide) ?_
                    intro vg38 ig38 ag38 qg38 rg38 kg38 hg38
                    have hGg38 := kG_call hL33 kg38 (by decide +kernel)
                    obtain ⟨hg38, og38⟩ := hg38
                    have oD39 := og38
                    have hG40 := kG_call hG hL33 (by decide +kernel)
                    rw [(gKn_fr hG40 (by decide +kernel) : gKn i33 a33 = gKn i a), ((hL33.fi 64 rfl) : i33 64 = i 64)] at oD39
                    have tT41 : kThm ig38 ag38 rg38 ((gDm (gKn i a) (i 64) (x2 - x2 / 100 * 100) (l8_33, gB i33 a33) (gM (i 64) ((x2 / 100) - (x2 / 100) / 100 * 100))).2) := oD39.2
                    have hG42 := kG_call hG hGg38 (by decide +kernel)
                    have hc43 : (ig38 3200).toInt = (i 64).toInt := congrArg Int32.toInt (tT41.1.1.trans (hG42.fi 64 rfl))
                    refine ft_go mi_k101 5 118 [(8, .int vg38), (9, .int l9_33), (7, .int l7_33), (6, .int (x2 - x2 / 100 * 100)), (5, .int ((x2 / 100) - (x2 / 100) / 100 * 100)), (4, .int (x2 / 10000)), (0, .ref 0), (1, .int x1), (2, .int x2), (3, .int x3)] [.int x3, .ref 49, .int l7_33] ig38 ag38 qg38 rg38 (by rfl) ?_
                    refine ko_callPI mi_k101.1 (pc := 118) (ls := [(8, .int vg38), (9, .int l9_33), (7, .int l7_33), (6, .int (x2 - x2 / 100 * 100)), (5, .int ((x2 / 100) - (x2 / 100) / 100 * 100)), (4, .int (x2 / 10000)), (0, .ref 0), (1, .int x1), (2, .int x2), (3, .int x3)]) (st := [.int x3, .ref 49, .int l7_33]) (h := ks ig38 ag38 qg38 rg38) (i := (.invokevirtual 171, 3, 62, 0, 9, 0, 233)) (mi_k101.2 _ _ (by rfl)) (ft_invS mi_pq62 (by rfl)) (cy := mi_c62) mi_pq62 rfl (ke62_49 hGg38.I hGg38.R x3) (by decide) ?_
                    intro vg44 hg44
                    obtain ⟨hg44, og44⟩ := hg44
                    have fig38_3200 : ((0 : Int) ≤ (ig38 3200).toInt) ∧ ((ig38 3200).toInt ≤ 8) := hGg38.I.1 3200
                    have q45 : vg44 = (ag38 51).getD x3.toNatClampNeg 0 := og44.1 (toj49 hc43 z32.1 z32.2)
                    have b46 : ((-2147483648 : Int) ≤ l7_33.toInt) ∧ (l7_33.toInt ≤ 2147483647) := kd_bd l7_33
                    have b47 : ((-2147483648 : Int) ≤ vg44.toInt) ∧ (vg44.toInt ≤ 2147483647) := kd_bd vg44
                    have s48 : (l9_33 + 1).toInt = l9_33.toInt + (1 : Int32).toInt := kd_add (toj6 p33_0 ktoj1) (toj39 c36 z8.2 ktoj30 ktoj1)
                    refine ft_go mi_k101 4 85 [(9, .int (l9_33 + 1)), (7, .int (l7_33 + vg44)), (8, .int vg38), (6, .int (x2 - x2 / 100 * 100)), (5, .int ((x2 / 100) - (x2 / 100) / 100 * 100)), (4, .int (x2 / 10000)), (0, .ref 0), (1, .int x1), (2, .int x2), (3, .int x3)] [] ig38 ag38 qg38 rg38 (by rfl) ?_
                    refine ko_perm [(9, .int (l9_33 + 1)), (8, .int vg38), (7, .int (l7_33 + vg44)), (6, .int (x2 - x2 / 100 * 100)), (5, .int ((x2 / 100) - (x2 / 100) / 100 * 100)), (4, .int (x2 / 10000)), (0, .ref 0), (1, .int x1), (2, .int x2), (3, .int x3)] (List.forall_mem_cons.mpr ⟨(List.Mem.head _), (List.forall_mem_cons.mpr ⟨(List.Mem.tail _ (List.Mem.tail _ (List.Mem.head _))), (List.forall_mem_cons.mpr ⟨(List.Mem.tail _ (List.Mem.head _)), (List.forall_mem_cons.mpr ⟨(List.Mem.tail _ (List.Mem.tail _ (List.Mem.tail _ (List.Mem.head _)))), (List.forall_mem_cons.mpr ⟨(List.Mem.tail _ (List.Mem.tail _ (List.Mem.tail _ (List.Mem.tail _ (List.Mem.head _))))), (List.forall_mem_cons.mpr ⟨(List.Mem.tail _ (List.Mem.tail _ (List.Mem.tail _ (List.Mem.tail _ (List.Mem.tail _ (List.Mem.head _)))))), (List.forall_mem_cons.mpr ⟨(List.Mem.tail _ (List.Mem.tail _ (List.Mem.tail _ (List.Mem.tail _ (List.Mem.tail _ (List.Mem.tail _ (List.Mem.head _))))))), (List.forall_mem_cons.mpr ⟨(List.Mem.tail _ (List.Mem.tail _ (List.Mem.tail _ (List.Mem.tail _ (List.Mem.tail _ (List.Mem.tail _ (List.Mem.tail _ (List.Mem.head _)))))))), (List.forall_mem_cons.mpr ⟨(List.Mem.tail _ (List.Mem.tail _ (List.Mem.tail _ (List.Mem.tail _ (List.Mem.tail _ (List.Mem.tail _ (List.Mem.tail _ (List.Mem.tail _ (List.Mem.head _))))))))), (List.forall_mem_cons.mpr ⟨(List.Mem.tail _ (List.Mem.tail _ (List.Mem.tail _ (List.Mem.tail _ (List.Mem.tail _ (List.Mem.tail _ (List.Mem.tail _ (List.Mem.tail _ (List.Mem.tail _ (List.Mem.head _)))))))))), (fun _ h => absurd h List.not_mem_nil)⟩)⟩)⟩)⟩)⟩)⟩)⟩)⟩)⟩)⟩) ?_
                    have fig38_64 : ((0 : Int) ≤ (ig38 64).toInt) ∧ ((ig38 64).toInt ≤ 8) := hGg38.I.1 64
                    have efig38_64 : (ig38 64).toInt = (i33 64).toInt := kg38.ti 64 rfl
                    exact ih33 _ _ _ _ _ _ _ hGg38 (toj8 p33_0 s48 ktoj1) (toj9 c36 s48 ktoj1) (toj40 efi33_64 efig38_64) (gDc_step (m := gM (i 64) (dRm (x2 / 100) 100)) (dk := dRm x2 100) O33_0 O33_1 (toj2 p33_0) (toj12 s48 ktoj1) ((dF_pu (toj50 z32.1) (q45.trans (kThm_pu tT41 (kj_ix8 (toj2 z32.1) (toj51 fig38_3200.2 hc43 z32.2))))).trans (gB_dmF ((hL33.fa 118 rfl) : a33 118 = a 118))) (oD39.1.trans (gB_dm1 ((hL33.fa 118 rfl) : a33 118 = a 118)))).1 (gDc_step (m := gM (i 64) (dRm (x2 / 100) 100)) (dk := dRm x2 100) O33_0 O33_1 (toj2 p33_0) (toj12 s48 ktoj1) ((dF_pu (toj50 z32.1) (q45.trans (kThm_pu tT41 (kj_ix8 (toj2 z32.1) (toj51 fig38_3200.2 hc43 z32.2))))).trans (gB_dmF ((hL33.fa 118 rfl) : a33 118 = a 118))) (oD39.1.trans (gB_dm1 ((hL33.fa 118 rfl) : a33 118 = a 118)))).2 (kj_meas (toj14 s48 ktoj1) (toj15 c36) hm33)
              exact lp33 _ _ _ _ _ _ _ _ (kG_self _ hG.I hG.R) (toj22 ktoj0) (toj42 z8.1 ktoj1 ktoj0) toj43 (congrArg Prod.fst (gDc_0 ktoj0)).symm (congrArg Prod.snd (gDc_0 ktoj0)).symm (Nat.lt_succ_self _)
            ·
              subst eg31
              have fi_64 : ((0 : Int) ≤ (i 64).toInt) ∧ ((i 64).toInt ≤ 8) := hG.I.1 64
              have z49 : ¬ (((0 : Int) ≤ x3.toInt) ∧ (x3.toInt < (i 64).toInt)) := hg31
              refine ft_go mi_k101 2 75 [(6, .int (x2 - x2 / 100 * 100)), (5, .int ((x2 / 100) - (x2 / 100) / 100 * 100)), (4, .int (x2 / 10000)), (0, .ref 0), (1, .int x1), (2, .int x2), (3, .int x3)] [.int (-1)] i a q r (by rfl) ?_
              exact ft_ret mi_k101 (by rfl) (hP (-1) _ _ _ _ hG ⟨trivial, (Or.inl ⟨(toj52 c30 z49 ktojm1), rfl⟩)⟩)
        ·
          subst eg11
          have z50 : ¬ (((0 : Int32).toInt ≤ (x2 - x2 / 100 * 100).toInt) ∧ ((x2 - x2 / 100 * 100).toInt ≤ (12 : Int32).toInt)) := hg11
          refine ft_go mi_k101 2 60 [(6, .int (x2 - x2 / 100 * 100)), (5, .int ((x2 / 100) - (x2 / 100) / 100 * 100)), (4, .int (x2 / 10000)), (0, .ref 0), (1, .int x1), (2, .int x2), (3, .int x3)] [.int (-1)] i a q r (by rfl) ?_
          have fi_64 : ((0 : Int) ≤ (i 64).toInt) ∧ ((i 64).toInt ≤ 8) := hG.I.1 64
          exact ft_ret mi_k101 (by rfl) (hP (-1) _ _ _ _ hG ⟨trivial, (Or.inl ⟨(toj53 c6 s4 z50 ktoj0 ktoj12), rfl⟩)⟩)
      ·
        subst eg9
        have z51 : ¬ (((1 : Int32).toInt ≤ ((x2 / 100) - (x2 / 100) / 100 * 100).toInt) ∧ (((x2 / 100) - (x2 / 100) / 100 * 100).toInt ≤ (60 : Int32).toInt)) := hg9
        refine ft_go mi_k101 2 60 [(6, .int (x2 - x2 / 100 * 100)), (5, .int ((x2 / 100) - (x2 / 100) / 100 * 100)), (4, .int (x2 / 10000)), (0, .ref 0), (1, .int x1), (2, .int x2), (3, .int x3)] [.int (-1)] i a q r (by rfl) ?_
        have fi_64 : ((0 : Int) ≤ (i 64).toInt) ∧ ((i 64).toInt ≤ 8) := hG.I.1 64
        exact ft_ret mi_k101 (by rfl) (hP (-1) _ _ _ _ hG ⟨trivial, (Or.inl ⟨(toj54 z51 ktoj1 ktoj60), rfl⟩)⟩)
    ·
      subst eg7
      have z52 : ¬ (((1 : Int32).toInt ≤ (x2 / 10000).toInt) ∧ ((x2 / 10000).toInt ≤ (30 : Int32).toInt)) := hg7
      refine ft_go mi_k101 2 60 [(6, .int (x2 - x2 / 100 * 100)), (5, .int ((x2 / 100) - (x2 / 100) / 100 * 100)), (4, .int (x2 / 10000)), (0, .ref 0), (1, .int x1), (2, .int x2), (3, .int x3)] [.int (-1)] i a q r (by rfl) ?_
      have fi_64 : ((0 : Int) ≤ (i 64).toInt) ∧ ((i 64).toInt ≤ 8) := hG.I.1 64
      exact ft_ret mi_k101 (by rfl) (hP (-1) _ _ _ _ hG ⟨trivial, (Or.inl ⟨(toj55 z52 ktoj1 ktoj30), rfl⟩)⟩)
