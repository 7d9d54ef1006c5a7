set_option maxRecDepth 100000 in
theorem ke136_116 {i : Nat → Int32} {a : Nat → List Int32} {q : Nat → List Int64} {r : Nat → Nat} (hI : kI i a q) (hr : kr r) (x1 : Int32) (x2 : Int32) (x3 : Int32) : km 5 136 [.ref 116, .int x1, .int x2, .int x3] (ks i a q r) (kVI yw136_116 i a q r (fun v i1 a1 q1 r1 => ((((¬ (((0 : Int) ≤ x1.toInt) ∧ (x1.toInt ≤ 5) ∧ ((1 : Int) ≤ x3.toInt) ∧ (x3.toInt ≤ 8))) → (v.toInt = (-1)))) ∧ (((((0 : Int) ≤ x1.toInt) ∧ (x1.toInt ≤ 5) ∧ ((1 : Int) ≤ x3.toInt) ∧ (x3.toInt ≤ 8)) → (((((a 136).getD x1.toNatClampNeg 0).toInt = (-1)) ∧ (v.toInt = 0)) ∨ ((((a 136).getD x1.toNatClampNeg 0).toInt ≠ (-1)) ∧ (((a 136).getD x1.toNatClampNeg 0).toInt ≠ 1) ∧ (v.toInt = (-12))) ∨ ((((a 136).getD x1.toNatClampNeg 0).toInt = 1) ∧ (v.toInt = ((i1 7424).toInt - (i 7424).toInt))))))) ∧ ((((0 : Int) ≤ x1.toInt) ∧ (x1.toInt ≤ 5) ∧ ((1 : Int) ≤ x3.toInt) ∧ (x3.toInt ≤ 8) ∧ (((a 136).getD x1.toNatClampNeg 0).toInt = 1) ∧ ((0 : Int) ≤ x2.toInt) → (i1 7424, a1 118, a1 117) = rThr (vQ (q 138) (60 * x1.toInt).toNat) ((a 137).getD x1.toNatClampNeg 0).toInt x3.toInt.toNat x2.toInt.toNat (i 7424, a 118, a 117)) ∧ (¬ (((0 : Int) ≤ x1.toInt) ∧ (x1.toInt ≤ 5) ∧ ((1 : Int) ≤ x3.toInt) ∧ (x3.toInt ≤ 8) ∧ (((a 136).getD x1.toNatClampNeg 0).toInt = 1) ∧ ((0 : Int) ≤ x2.toInt)) → (i1 7424, a1 118, a1 117) = (i 7424, a 118, a 117))))) := by
  have hG := kG_self yw136_116 hI hr
  refine km_ofI (q := (mi_h136, mi_c136)) rfl (by decide) (Nat.le_of_ble_eq_true rfl) ?_
  intro P hP
  refine ft_go mi_k136 1 1 [(0, .ref 116), (1, .int x1), (2, .int x2), (3, .int x3)] [.int x1] i a q r (by rfl) ?_
  refine ko_callPI mi_k136.1 (pc := 1) (ls := [(0, .ref 116), (1, .int x1), (2, .int x2), (3, .int x3)]) (st := [.int x1]) (h := ks i a q r) (i := (.invokestatic 127, 3, 133, 0, 9, 0, 382)) (mi_k136.2 _ _ (by rfl)) (ft_invS mi_pq133 (by rfl)) (cy := mi_c133) mi_pq133 rfl (kc133 hG.I hG.R x1) (by decide) ?_
  intro vg1 hg1
  rcases hg1 with ⟨eg1, hg1⟩ | ⟨eg1, hg1⟩
  ·
    subst eg1
    have z2 : ((0 : Int) ≤ x1.toInt) ∧ (x1.toInt ≤ 5) := hg1
    refine ft_go mi_k136 4 11 [(0, .ref 116), (1, .int x1), (2, .int x2), (3, .int x3)] [.int 8, .int 1, .int x3] i a q r (by rfl) ?_
    refine ko_callPI mi_k136.1 (pc := 11) (ls := [(0, .ref 116), (1, .int x1), (2, .int x2), (3, .int x3)]) (st := [.int 8, .int 1, .int x3]) (h := ks i a q r) (i := (.invokestatic 119, 3, 131, 0, 9, 0, 379)) (mi_k136.2 _ _ (by rfl)) (ft_invS mi_pq131 (by rfl)) (cy := mi_c131) mi_pq131 rfl (kc131 hG.I hG.R x3 1 8) (by decide) ?_
    intro vg3 hg3
    rcases hg3 with ⟨eg3, hg3⟩ | ⟨eg3, hg3⟩
    ·
      subst eg3
      have z4 : ((1 : Int32).toInt ≤ x3.toInt) ∧ (x3.toInt ≤ (8 : Int32).toInt) := hg3
      refine ft_go mi_k136 4 24 [(0, .ref 116), (1, .int x1), (2, .int x2), (3, .int x3)] [.int x1, .ref 136] i a q r (by rfl) ?_
      refine ko_iald3 mi_k136.1 (n := 6) (c := 6) (ax := (0, 0, 0, 0, 0)) (mi_k136.2 _ _ (by rfl)) (by rfl) (ksG136 _ _ _ _) (hG.I.2.1 136) rfl (ov41 z2.1) (ov239 z2.2) ?_
      have r5 : ((-1 : Int) ≤ ((a 136).getD x1.toNatClampNeg 0).toInt) ∧ (((a 136).getD x1.toNatClampNeg 0).toInt ≤ 59) := hG.I.2.2.1 136 (x1.toNatClampNeg)
      refine ft_go mi_k136 1 26 [(0, .ref 116), (1, .int x1), (2, .int x2), (3, .int x3)] [.int (-1), .int ((a 136).getD x1.toNatClampNeg 0)] i a q r (by rfl) ?_
      refine ft_if mi_k136 (((a 136).getD x1.toNatClampNeg 0) != (-1)) 31 29 [(0, .ref 116), (1, .int x1), (2, .int x2), (3, .int x3)] [] (by rfl) (fun c => ?_) (fun c => ?_)
      ·
        have c6 : ((a 136).getD x1.toNatClampNeg 0).toInt ≠ ((-1) : Int32).toInt := kd_ne c; clear c
        refine ft_go mi_k136 3 36 [(0, .ref 116), (1, .int x1), (2, .int x2), (3, .int x3)] [.int x1, .ref 136] i a q r (by rfl) ?_
        refine ko_iald3 mi_k136.1 (n := 6) (c := 6) (ax := (0, 0, 0, 0, 0)) (mi_k136.2 _ _ (by rfl)) (by rfl) (ksG136 _ _ _ _) (hG.I.2.1 136) rfl (ov41 z2.1) (ov239 z2.2) ?_
        refine ft_go mi_k136 1 38 [(0, .ref 116), (1, .int x1), (2, .int x2), (3, .int x3)] [.int 1, .int ((a 136).getD x1.toNatClampNeg 0)] i a q r (by rfl) ?_
        refine ft_if mi_k136 (((a 136).getD x1.toNatClampNeg 0) == 1) 44 41 [(0, .ref 116), (1, .int x1), (2, .int x2), (3, .int x3)] [] (by rfl) (fun c => ?_) (fun c => ?_)
        ·
          have c7 : ((a 136).getD x1.toNatClampNeg 0).toInt = (1 : Int32).toInt := kd_eq c; clear c
          refine ft_go mi_k136 4 50 [(5, .int 0), (4, .int 0), (0, .ref 116), (1, .int x1), (2, .int x2), (3, .int x3)] [] i a q r (by rfl) ?_
          have lp8 : ∀ (nz : Nat) (i8 : Nat → Int32) (a8 : Nat → List Int32) (q8 : Nat → List Int64) (r8 : Nat → Nat) (l5_8 : Int32) (l4_8 : Int32), kG yw136_116_L50 i a q r i8 a8 q8 r8 → (0 : Int) ≤ l5_8.toInt → l4_8.toInt = l5_8.toInt → l4_8.toInt = ((i8 7424).toInt - (i 7424).toInt) → ((x2.toInt < 0) → (l5_8.toInt = 0)) → (0 ≤ x2.toInt → rThr (vQ (q 138) (60 * x1.toInt).toNat) ((a 137).getD x1.toNatClampNeg 0).toInt (x3.toInt - l5_8.toInt).toNat (x2.toInt + 3 * l5_8.toInt).toNat (i8 7424, a8 118, a8 117) = rThr (vQ (q 138) (60 * x1.toInt).toNat) ((a 137).getD x1.toNatClampNeg 0).toInt x3.toInt.toNat x2.toInt.toNat (i 7424, a 118, a 117)) → (x2.toInt < 0 → (i8 7424, a8 118, a8 117) = (i 7424, a 118, a 117)) → ((x3.toInt - l5_8.toInt)).toNat < nz → ko 5 (mi_h136, mi_c136) P (50, [(5, .int l5_8), (4, .int l4_8), (0, .ref 116), (1, .int x1), (2, .int x2), (3, .int x3)], [], (0, 0), ks i8 a8 q8 r8) := by
            intro nz
            induction nz with
            | zero =>
              intro _ _ _ _ _ _ _ _ _ _ _ _ _ hm
              exact absurd hm (Nat.not_lt_zero _)
            | succ nz ih8 =>
              intro i8 a8 q8 r8 l5_8 l4_8 hL8 p8_0 p8_1 p8_2 p8_3 O8_0 O8_1 hm8
              have fi8_7424 : ((0 : Int) ≤ (i8 7424).toInt) ∧ ((i8 7424).toInt ≤ 8) := hL8.I.1 7424
              have fi_7424 : ((0 : Int) ≤ (i 7424).toInt) ∧ ((i 7424).toInt ≤ 8) := hG.I.1 7424
              refine ft_go mi_k136 2 53 [(5, .int l5_8), (4, .int l4_8), (0, .ref 116), (1, .int x1), (2, .int x2), (3, .int x3)] [.int x3, .int l5_8] i8 a8 q8 r8 (by rfl) ?_
              refine ft_if mi_k136 (decide (x3 ≤ l5_8)) 204 56 [(5, .int l5_8), (4, .int l4_8), (0, .ref 116), (1, .int x1), (2, .int x2), (3, .int x3)] [] (by rfl) (fun c => ?_) (fun c => ?_)
              ·
                have c9 : x3.toInt ≤ l5_8.toInt := kd_le c; clear c
                have hG10 := kG_call hG hL8 (by decide +kernel)
                refine ft_go mi_k136 1 206 [(5, .int l5_8), (4, .int l4_8), (0, .ref 116), (1, .int x1), (2, .int x2), (3, .int x3)] [.int l4_8] i8 a8 q8 r8 (by rfl) ?_
                exact ft_ret mi_k136 (by rfl) (hP l4_8 _ _ _ _ hG10 ⟨(ov244 c7 p8_2 z2.1 z2.2 z4.1 z4.2 kov1 kov8), ⟨(fun _ => (show (i8 7424, a8 118, a8 117) = rThr (vQ (q 138) (60 * x1.toInt).toNat) ((a 137).getD x1.toNatClampNeg 0).toInt x3.toInt.toNat x2.toInt.toNat (i 7424, a 118, a 117) from (rThr_end (O8_0 (ov314 c9 p8_3 z4.1 kov1)) (by have := (ov112 c9); omega)))), (fun h => absurd h (ov316 c7 c9 p8_3 z2.1 z2.2 z4.1 z4.2 kov1 kov8))⟩⟩)
              ·
                have c11 : l5_8.toInt < x3.toInt := kd_leF c; clear c
                have b12 : ((-2147483648 : Int) ≤ x2.toInt) ∧ (x2.toInt ≤ 2147483647) := kd_bd x2
                have s13 : x2.toInt64.toInt = x2.toInt := kl_i2l
                have b14 : ((-2147483648 : Int) ≤ l5_8.toInt) ∧ (l5_8.toInt ≤ 2147483647) := kd_bd l5_8
                have s15 : l5_8.toInt64.toInt = l5_8.toInt := kl_i2l
                have s16 : (3 * l5_8.toInt64).toInt = 3 * l5_8.toInt64.toInt := kl_cmul 3 kovL3 (ov240 p8_0 s15) (ov241 b14.2 s15)
                have s17 : (x2.toInt64 + (3 * l5_8.toInt64)).toInt = x2.toInt64.toInt + (3 * l5_8.toInt64).toInt := kl_add (ov242 b12.1 b14.1 s13 s15 s16) (ov243 b12.2 b14.2 s13 s15 s16)
                have s18 : (((lg_cmp (x2.toInt64 + (3 * l5_8.toInt64)) 0).toInt < 0 ↔ (x2.toInt64 + (3 * l5_8.toInt64)).toInt < (0 : Int64).toInt)) ∧ ((0 < (lg_cmp (x2.toInt64 + (3 * l5_8.toInt64)) 0).toInt ↔ (0 : Int64).toInt < (x2.toInt64 + (3 * l5_8.toInt64)).toInt)) := kl_cmp
                refine ft_go mi_k136 11 72 [(6, .long (x2.toInt64 + (3 * l5_8.toInt64))), (5, .int l5_8), (4, .int l4_8), (0, .ref 116), (1, .int x1), (2, .int x2), (3, .int x3)] [.int (lg_cmp (x2.toInt64 + (3 * l5_8.toInt64)) 0)] i8 a8 q8 r8 (by rfl) ?_
                refine ft_if mi_k136 (decide ((lg_cmp (x2.toInt64 + (3 * l5_8.toInt64)) 0) < 0)) 101 75 [(6, .long (x2.toInt64 + (3 * l5_8.toInt64))), (5, .int l5_8), (4, .int l4_8), (0, .ref 116), (1, .int x1), (2, .int x2), (3, .int x3)] [] (by rfl) (fun c => ?_) (fun c => ?_)
                ·
                  have c19 : (lg_cmp (x2.toInt64 + (3 * l5_8.toInt64)) 0).toInt < (0 : Int32).toInt := kd_lt c; clear c
                  have hG20 := kG_call hG hL8 (by decide +kernel)
                  refine ft_go mi_k136 1 103 [(6, .long (x2.toInt64 + (3 * l5_8.toInt64))), (5, .int l5_8), (4, .int l4_8), (0, .ref 116), (1, .int x1), (2, .int x2), (3, .int x3)] [.int l4_8] i8 a8 q8 r8 (by rfl) ?_
                  exact ft_ret mi_k136 (by rfl) (hP l4_8 _ _ _ _ hG20 ⟨(ov244 c7 p8_2 z2.1 z2.2 z4.1 z4.2 kov1 kov8), ⟨(fun h => absurd h (ov245 c19 p8_0 s13 s15 s16 s17 s18.1 kov0 kovL0)), (fun _ => (show (i8 7424, a8 118, a8 117) = (i 7424, a 118, a 117) from (O8_1 (ov246 c19 p8_0 s13 s15 s16 s17 s18.1 kov0 kovL0))))⟩⟩)
                ·
                  have c21 : (0 : Int32).toInt ≤ (lg_cmp (x2.toInt64 + (3 * l5_8.toInt64)) 0).toInt := kd_ltF c; clear c
                  have s22 : ((x2.toInt64 + (3 * l5_8.toInt64)) + 3).toInt = (x2.toInt64 + (3 * l5_8.toInt64)).toInt + (3 : Int64).toInt := kl_add (ov247 b12.1 b14.1 s13 s15 s16 s17 kovL3) (ov248 b12.2 b14.2 s13 s15 s16 s17 kovL3)
                  refine ft_go mi_k136 6 86 [(6, .long (x2.toInt64 + (3 * l5_8.toInt64))), (5, .int l5_8), (4, .int l4_8), (0, .ref 116), (1, .int x1), (2, .int x2), (3, .int x3)] [.int x1, .ref 137, .long ((x2.toInt64 + (3 * l5_8.toInt64)) + 3)] i8 a8 q8 r8 (by rfl) ?_
                  refine ko_iald3 mi_k136.1 (n := 6) (c := 6) (ax := (0, 0, 0, 0, 0)) (mi_k136.2 _ _ (by rfl)) (by rfl) (ksG137 _ _ _ _) (hL8.I.2.1 137) rfl (ov41 z2.1) (ov239 z2.2) ?_
                  have r23 : ((0 : Int) ≤ ((a8 137).getD x1.toNatClampNeg 0).toInt) ∧ (((a8 137).getD x1.toNatClampNeg 0).toInt ≤ 60) := hL8.I.2.2.1 137 (x1.toNatClampNeg)
                  have u24 : ((a8 137).getD x1.toNatClampNeg 0).toInt = ((a 137).getD x1.toNatClampNeg 0).toInt := congrArg (fun z : List Int32 => (z.getD x1.toNatClampNeg 0).toInt) (hL8.fa 137 rfl)
                  have b25 : ((-2147483648 : Int) ≤ ((a8 137).getD x1.toNatClampNeg 0).toInt) ∧ (((a8 137).getD x1.toNatClampNeg 0).toInt ≤ 2147483647) := kd_bd ((a8 137).getD x1.toNatClampNeg 0)
                  have s26 : (((a8 137).getD x1.toNatClampNeg 0).toInt64).toInt = ((a8 137).getD x1.toNatClampNeg 0).toInt := kl_i2l
                  have s27 : (((lg_cmp ((x2.toInt64 + (3 * l5_8.toInt64)) + 3) (((a8 137).getD x1.toNatClampNeg 0).toInt64)).toInt < 0 ↔ ((x2.toInt64 + (3 * l5_8.toInt64)) + 3).toInt < (((a8 137).getD x1.toNatClampNeg 0).toInt64).toInt)) ∧ ((0 < (lg_cmp ((x2.toInt64 + (3 * l5_8.toInt64)) + 3) (((a8 137).getD x1.toNatClampNeg 0).toInt64)).toInt ↔ (((a8 137).getD x1.toNatClampNeg 0).toInt64).toInt < ((x2.toInt64 + (3 * l5_8.toInt64)) + 3).toInt)) := kl_cmp
                  refine ft_go mi_k136 2 89 [(6, .long (x2.toInt64 + (3 * l5_8.toInt64))), (5, .int l5_8), (4, .int l4_8), (0, .ref 116), (1, .int x1), (2, .int x2), (3, .int x3)] [.int (lg_cmp ((x2.toInt64 + (3 * l5_8.toInt64)) + 3) (((a8 137).getD x1.toNatClampNeg 0).toInt64))] i8 a8 q8 r8 (by rfl) ?_
                  refine ft_if mi_k136 (decide (0 < (lg_cmp ((x2.toInt64 + (3 * l5_8.toInt64)) + 3) (((a8 137).getD x1.toNatClampNeg 0).toInt64)))) 101 92 [(6, .long (x2.toInt64 + (3 * l5_8.toInt64))), (5, .int l5_8), (4, .int l4_8), (0, .ref 116), (1, .int x1), (2, .int x2), (3, .int x3)] [] (by rfl) (fun c => ?_) (fun c => ?_)
                  ·
                    have c28 : (0 : Int32).toInt < (lg_cmp ((x2.toInt64 + (3 * l5_8.toInt64)) + 3) (((a8 137).getD x1.toNatClampNeg 0).toInt64)).toInt := kd_lt c; clear c
                    have hG29 := kG_call hG hL8 (by decide +kernel)
                    refine ft_go mi_k136 1 103 [(6, .long (x2.toInt64 + (3 * l5_8.toInt64))), (5, .int l5_8), (4, .int l4_8), (0, .ref 116), (1, .int x1), (2, .int x2), (3, .int x3)] [.int l4_8] i8 a8 q8 r8 (by rfl) ?_
                    exact ft_ret mi_k136 (by rfl) (hP l4_8 _ _ _ _ hG29 ⟨(ov244 c7 p8_2 z2.1 z2.2 z4.1 z4.2 kov1 kov8), ⟨(fun _ => (show (i8 7424, a8 118, a8 117) = rThr (vQ (q 138) (60 * x1.toInt).toNat) ((a 137).getD x1.toNatClampNeg 0).toInt x3.toInt.toNat x2.toInt.toNat (i 7424, a 118, a 117) from (rt_stop (O8_0 (ov317 c21 p8_3 s13 s15 s16 s17 s18.1 kov0 kovL0)) (ov317 c21 p8_3 s13 s15 s16 s17 s18.1 kov0 kovL0) (ov41 p8_0) (ov250 c28 s13 s15 s16 s17 s22 s26 s27.2 u24 kov0 kovL3)))), (fun h => absurd h (ov318 c21 c7 p8_3 s13 s15 s16 s17 s18.1 z2.1 z2.2 z4.1 z4.2 kov0 kov1 kovL0 kov8))⟩⟩)
                  ·
                    have c30 : (lg_cmp ((x2.toInt64 + (3 * l5_8.toInt64)) + 3) (((a8 137).getD x1.toNatClampNeg 0).toInt64)).toInt ≤ (0 : Int32).toInt := kd_ltF c; clear c
                    refine ft_go mi_k136 3 98 [(6, .long (x2.toInt64 + (3 * l5_8.toInt64))), (5, .int l5_8), (4, .int l4_8), (0, .ref 116), (1, .int x1), (2, .int x2), (3, .int x3)] [.int 8, .int (i8 7424)] i8 a8 q8 r8 (by rfl) ?_
                    refine ft_if mi_k136 ((i8 7424) != 8) 104 101 [(6, .long (x2.toInt64 + (3 * l5_8.toInt64))), (5, .int l5_8), (4, .int l4_8), (0, .ref 116), (1, .int x1), (2, .int x2), (3, .int x3)] [] (by rfl) (fun c => ?_) (fun c => ?_)
                    ·
                      have c31 : (i8 7424).toInt ≠ (8 : Int32).toInt := kd_ne c; clear c
                      have s32 : ((x2.toInt64 + (3 * l5_8.toInt64)).toInt32).toInt = (x2.toInt64 + (3 * l5_8.toInt64)).toInt := kl_l2i (ov252 b12.1 p8_0 s13 s15 s16 s17) (ov319 c30 r23.2 s22 s26 s27.2 kov0 kovL3)
                      refine ft_go mi_k136 6 113 [(8, .int ((x2.toInt64 + (3 * l5_8.toInt64)).toInt32)), (6, .long (x2.toInt64 + (3 * l5_8.toInt64))), (5, .int l5_8), (4, .int l4_8), (0, .ref 116), (1, .int x1), (2, .int x2), (3, .int x3)] [.int ((x2.toInt64 + (3 * l5_8.toInt64)).toInt32), .int x1, .ref 116] i8 a8 q8 r8 (by rfl) ?_
                      refine ko_callPI mi_k136.1 (pc := 113) (ls := [(8, .int ((x2.toInt64 + (3 * l5_8.toInt64)).toInt32)), (6, .long (x2.toInt64 + (3 * l5_8.toInt64))), (5, .int l5_8), (4, .int l4_8), (0, .ref 116), (1, .int x1), (2, .int x2), (3, .int x3)]) (st := [.int ((x2.toInt64 + (3 * l5_8.toInt64)).toInt32), .int x1, .ref 116]) (h := ks i8 a8 q8 r8) (i := (.invokevirtual 133, 3, 137, 0, 9, 0, 384)) (mi_k136.2 _ _ (by rfl)) (ft_invS mi_pq137 (by rfl)) (cy := mi_c137) mi_pq137 rfl (kc137_116 hL8.I hL8.R x1 ((x2.toInt64 + (3 * l5_8.toInt64)).toInt32) (ov261 z2.1 z2.2) (ov262 c21 c30 r23.2 s18.1 s22 s26 s27.2 s32 kov0 kovL0 kovL3)) (by decide) ?_
                      intro vg33 hg33
                      have z34 : vg33.toInt = (((q8 138).getD ((60 * x1) + ((x2.toInt64 + (3 * l5_8.toInt64)).toInt32)).toNatClampNeg 0).toInt32).toInt := hg33
                      refine ft_go mi_k136 2 120 [(8, .int ((x2.toInt64 + (3 * l5_8.toInt64)).toInt32)), (6, .long (x2.toInt64 + (3 * l5_8.toInt64))), (5, .int l5_8), (4, .int l4_8), (0, .ref 116), (1, .int x1), (2, .int x2), (3, .int x3)] [.int 999, .int 0, .int vg33] i8 a8 q8 r8 (by rfl) ?_
                      refine ko_callPI mi_k136.1 (pc := 120) (ls := [(8, .int ((x2.toInt64 + (3 * l5_8.toInt64)).toInt32)), (6, .long (x2.toInt64 + (3 * l5_8.toInt64))), (5, .int l5_8), (4, .int l4_8), (0, .ref 116), (1, .int x1), (2, .int x2), (3, .int x3)]) (st := [.int 999, .int 0, .int vg33]) (h := ks i8 a8 q8 r8) (i := (.invokestatic 119, 3, 131, 0, 9, 0, 379)) (mi_k136.2 _ _ (by rfl)) (ft_invS mi_pq131 (by rfl)) (cy := mi_c131) mi_pq131 rfl (kc131 hL8.I hL8.R vg33 0 999) (by decide) ?_
                      intro vg35 hg35
                      rcases hg35 with ⟨eg35, hg35⟩ | ⟨eg35, hg35⟩
                      ·
                        subst eg35
                        have z36 : ((0 : Int32).toInt ≤ vg33.toInt) ∧ (vg33.toInt ≤ (999 : Int32).toInt) := hg35
                        have s37 : (((x2.toInt64 + (3 * l5_8.toInt64)).toInt32) + 1).toInt = ((x2.toInt64 + (3 * l5_8.toInt64)).toInt32).toInt + (1 : Int32).toInt := kd_add (ov263 b12.1 p8_0 s13 s15 s16 s17 s32 kov1) (ov264 c30 r23.2 s22 s26 s27.2 s32 kov0 kovL3 kov1)
                        refine ft_go mi_k136 6 132 [(8, .int ((x2.toInt64 + (3 * l5_8.toInt64)).toInt32)), (6, .long (x2.toInt64 + (3 * l5_8.toInt64))), (5, .int l5_8), (4, .int l4_8), (0, .ref 116), (1, .int x1), (2, .int x2), (3, .int x3)] [.int (((x2.toInt64 + (3 * l5_8.toInt64)).toInt32) + 1), .int x1, .ref 116] i8 a8 q8 r8 (by rfl) ?_
                        refine ko_callPI mi_k136.1 (pc := 132) (ls := [(8, .int ((x2.toInt64 + (3 * l5_8.toInt64)).toInt32)), (6, .long (x2.toInt64 + (3 * l5_8.toInt64))), (5, .int l5_8), (4, .int l4_8), (0, .ref 116), (1, .int x1), (2, .int x2), (3, .int x3)]) (st := [.int (((x2.toInt64 + (3 * l5_8.toInt64)).toInt32) + 1), .int x1, .ref 116]) (h := ks i8 a8 q8 r8) (i := (.invokevirtual 133, 3, 137, 0, 9, 0, 384)) (mi_k136.2 _ _ (by rfl)) (ft_invS mi_pq137 (by rfl)) (cy := mi_c137) mi_pq137 rfl (kc137_116 hL8.I hL8.R x1 (((x2.toInt64 + (3 * l5_8.toInt64)).toInt32) + 1) (ov261 z2.1 z2.2) (ov265 c21 c30 r23.2 s18.1 s22 s26 s27.2 s32 s37 kov0 kovL0 kovL3 kov1)) (by decide) ?_
                        intro vg38 hg38
                        have z39 : vg38.toInt = (((q8 138).getD ((60 * x1) + (((x2.toInt64 + (3 * l5_8.toInt64)).toInt32) + 1)).toNatClampNeg 0).toInt32).toInt := hg38
                        refine ft_go mi_k136 2 138 [(8, .int ((x2.toInt64 + (3 * l5_8.toInt64)).toInt32)), (6, .long (x2.toInt64 + (3 * l5_8.toInt64))), (5, .int l5_8), (4, .int l4_8), (0, .ref 116), (1, .int x1), (2, .int x2), (3, .int x3)] [.int 9, .int 0, .int vg38] i8 a8 q8 r8 (by rfl) ?_
                        refine ko_callPI mi_k136.1 (pc := 138) (ls := [(8, .int ((x2.toInt64 + (3 * l5_8.toInt64)).toInt32)), (6, .long (x2.toInt64 + (3 * l5_8.toInt64))), (5, .int l5_8), (4, .int l4_8), (0, .ref 116), (1, .int x1), (2, .int x2), (3, .int x3)]) (st := [.int 9, .int 0, .int vg38]) (h := ks i8 a8 q8 r8) (i := (.invokestatic 119, 3, 131, 0, 9, 0, 379)) (mi_k136.2 _ _ (by rfl)) (ft_invS mi_pq131 (by rfl)) (cy := mi_c131) mi_pq131 rfl (kc131 hL8.I hL8.R vg38 0 9) (by decide) ?_
                        intro vg40 hg40
                        rcases hg40 with ⟨eg40, hg40⟩ | ⟨eg40, hg40⟩
                        ·
                          subst eg40
                          have z41 : ((0 : Int32).toInt ≤ vg38.toInt) ∧ (vg38.toInt ≤ (9 : Int32).toInt) := hg40
                          have s42 : (((x2.toInt64 + (3 * l5_8.toInt64)).toInt32) + 2).toInt = ((x2.toInt64 + (3 * l5_8.toInt64)).toInt32).toInt + (2 : Int32).toInt := kd_add (ov266 b12.1 p8_0 s13 s15 s16 s17 s32 kov2) (ov267 c30 r23.2 s22 s26 s27.2 s32 kov0 kovL3 kov2)
                          refine ft_go mi_k136 6 150 [(8, .int ((x2.toInt64 + (3 * l5_8.toInt64)).toInt32)), (6, .long (x2.toInt64 + (3 * l5_8.toInt64))), (5, .int l5_8), (4, .int l4_8), (0, .ref 116), (1, .int x1), (2, .int x2), (3, .int x3)] [.int (((x2.toInt64 + (3 * l5_8.toInt64)).toInt32) + 2), .int x1, .ref 116] i8 a8 q8 r8 (by rfl) ?_
                          refine ko_callPI mi_k136.1 (pc := 150) (ls := [(8, .int ((x2.toInt64 + (3 * l5_8.toInt64)).toInt32)), (6, .long (x2.toInt64 + (3 * l5_8.toInt64))), (5, .int l5_8), (4, .int l4_8), (0, .ref 116), (1, .int x1), (2, .int x2), (3, .int x3)]) (st := [.int (((x2.toInt64 + (3 * l5_8.toInt64)).toInt32) + 2), .int x1, .ref 116]) (h := ks i8 a8 q8 r8) (i := (.invokevirtual 133, 3, 137, 0, 9, 0, 384)) (mi_k136.2 _ _ (by rfl)) (ft_invS mi_pq137 (by rfl)) (cy := mi_c137) mi_pq137 rfl (kc137_116 hL8.I hL8.R x1 (((x2.toInt64 + (3 * l5_8.toInt64)).toInt32) + 2) (ov261 z2.1 z2.2) (ov268 c21 c30 r23.2 s18.1 s22 s26 s27.2 s32 s42 kov0 kovL0 kovL3 kov2)) (by decide) ?_
                          intro vg43 hg43
                          have z44 : vg43.toInt = (((q8 138).getD ((60 * x1) + (((x2.toInt64 + (3 * l5_8.toInt64)).toInt32) + 2)).toNatClampNeg 0).toInt32).toInt := hg43
                          refine ft_go mi_k136 2 156 [(8, .int ((x2.toInt64 + (3 * l5_8.toInt64)).toInt32)), (6, .long (x2.toInt64 + (3 * l5_8.toInt64))), (5, .int l5_8), (4, .int l4_8), (0, .ref 116), (1, .int x1), (2, .int x2), (3, .int x3)] [.int 9, .int 0, .int vg43] i8 a8 q8 r8 (by rfl) ?_
                          refine ko_callPI mi_k136.1 (pc := 156) (ls := [(8, .int ((x2.toInt64 + (3 * l5_8.toInt64)).toInt32)), (6, .long (x2.toInt64 + (3 * l5_8.toInt64))), (5, .int l5_8), (4, .int l4_8), (0, .ref 116), (1, .int x1), (2, .int x2), (3, .int x3)]) (st := [.int 9, .int 0, .int vg43]) (h := ks i8 a8 q8 r8) (i := (.invokestatic 119, 3, 131, 0, 9, 0, 379)) (mi_k136.2 _ _ (by rfl)) (ft_invS mi_pq131 (by rfl)) (cy := mi_c131) mi_pq131 rfl (kc131 hL8.I hL8.R vg43 0 9) (by decide) ?_
                          intro vg45 hg45
                          rcases hg45 with ⟨eg45, hg45⟩ | ⟨eg45, hg45⟩
                          ·
                            subst eg45
                            have z46 : ((0 : Int32).toInt ≤ vg43.toInt) ∧ (vg43.toInt ≤ (9 : Int32).toInt) := hg45
                            refine ft_go mi_k136 5 170 [(8, .int ((x2.toInt64 + (3 * l5_8.toInt64)).toInt32)), (6, .long (x2.toInt64 + (3 * l5_8.toInt64))), (5, .int l5_8), (4, .int l4_8), (0, .ref 116), (1, .int x1), (2, .int x2), (3, .int x3)] [.int ((x2.toInt64 + (3 * l5_8.toInt64)).toInt32), .int x1, .ref 116, .ref 116] i8 a8 q8 r8 (by rfl) ?_
                            refine ko_callPI mi_k136.1 (pc := 170) (ls := [(8, .int ((x2.toInt64 + (3 * l5_8.toInt64)).toInt32)), (6, .long (x2.toInt64 + (3 * l5_8.toInt64))), (5, .int l5_8), (4, .int l4_8), (0, .ref 116), (1, .int x1), (2, .int x2), (3, .int x3)]) (st := [.int ((x2.toInt64 + (3 * l5_8.toInt64)).toInt32), .int x1, .ref 116, .ref 116]) (h := ks i8 a8 q8 r8) (i := (.invokevirtual 133, 3, 137, 0, 9, 0, 384)) (mi_k136.2 _ _ (by rfl)) (ft_invS mi_pq137 (by rfl)) (cy := mi_c137) mi_pq137 rfl (kc137_116 hL8.I hL8.R x1 ((x2.toInt64 + (3 * l5_8.toInt64)).toInt32) (ov261 z2.1 z2.2) (ov262 c21 c30 r23.2 s18.1 s22 s26 s27.2 s32 kov0 kovL0 kovL3)) (by decide) ?_
                            intro vg47 hg47
                            have z48 : vg47.toInt = (((q8 138).getD ((60 * x1) + ((x2.toInt64 + (3 * l5_8.toInt64)).toInt32)).toNatClampNeg 0).toInt32).toInt := hg47
                            refine ft_go mi_k136 5 179 [(8, .int ((x2.toInt64 + (3 * l5_8.toInt64)).toInt32)), (6, .long (x2.toInt64 + (3 * l5_8.toInt64))), (5, .int l5_8), (4, .int l4_8), (0, .ref 116), (1, .int x1), (2, .int x2), (3, .int x3)] [.int (((x2.toInt64 + (3 * l5_8.toInt64)).toInt32) + 1), .int x1, .ref 116, .int vg47, .ref 116] i8 a8 q8 r8 (by rfl) ?_
                            refine ko_callPI mi_k136.1 (pc := 179) (ls := [(8, .int ((x2.toInt64 + (3 * l5_8.toInt64)).toInt32)), (6, .long (x2.toInt64 + (3 * l5_8.toInt64))), (5, .int l5_8), (4, .int l4_8), (0, .ref 116), (1, .int x1), (2, .int x2), (3, .int x3)]) (st := [.int (((x2.toInt64 + (3 * l5_8.toInt64)).toInt32) + 1), .int x1, .ref 116, .int vg47, .ref 116]) (h := ks i8 a8 q8 r8) (i := (.invokevirtual 133, 3, 137, 0, 9, 0, 384)) (mi_k136.2 _ _ (by rfl)) (ft_invS mi_pq137 (by rfl)) (cy := mi_c137) mi_pq137 rfl (kc137_116 hL8.I hL8.R x1 (((x2.toInt64 + (3 * l5_8.toInt64)).toInt32) + 1) (ov261 z2.1 z2.2) (ov265 c21 c30 r23.2 s18.1 s22 s26 s27.2 s32 s37 kov0 kovL0 kovL3 kov1)) (by decide) ?_
                            intro vg49 hg49
                            have z50 : vg49.toInt = (((q8 138).getD ((60 * x1) + (((x2.toInt64 + (3 * l5_8.toInt64)).toInt32) + 1)).toNatClampNeg 0).toInt32).toInt := hg49
                            refine ft_go mi_k136 5 188 [(8, .int ((x2.toInt64 + (3 * l5_8.toInt64)).toInt32)), (6, .long (x2.toInt64 + (3 * l5_8.toInt64))), (5, .int l5_8), (4, .int l4_8), (0, .ref 116), (1, .int x1), (2, .int x2), (3, .int x3)] [.int (((x2.toInt64 + (3 * l5_8.toInt64)).toInt32) + 2), .int x1, .ref 116, .int vg49, .int vg47, .ref 116] i8 a8 q8 r8 (by rfl) ?_
                            refine ko_callPI mi_k136.1 (pc := 188) (ls := [(8, .int ((x2.toInt64 + (3 * l5_8.toInt64)).toInt32)), (6, .long (x2.toInt64 + (3 * l5_8.toInt64))), (5, .int l5_8), (4, .int l4_8), (0, .ref 116), (1, .int x1), (2, .int x2), (3, .int x3)]) (st := [.int (((x2.toInt64 + (3 * l5_8.toInt64)).toInt32) + 2), .int x1, .ref 116, .int vg49, .int vg47, .ref 116]) (h := ks i8 a8 q8 r8) (i := (.invokevirtual 133, 3, 137, 0, 9, 0, 384)) (mi_k136.2 _ _ (by rfl)) (ft_invS mi_pq137 (by rfl)) (cy := mi_c137) mi_pq137 rfl (kc137_116 hL8.I hL8.R x1 (((x2.toInt64 + (3 * l5_8.toInt64)).toInt32) + 2) (ov261 z2.1 z2.2) (ov268 c21 c30 r23.2 s18.1 s22 s26 s27.2 s32 s42 kov0 kovL0 kovL3 kov2)) (by decide) ?_
                            intro vg51 hg51
                            have z52 : vg51.toInt = (((q8 138).getD ((60 * x1) + (((x2.toInt64 + (3 * l5_8.toInt64)).toInt32) + 2)).toNatClampNeg 0).toInt32).toInt := hg51
                            refine ko_callI mi_k136.1 (pc := 191) (ls := [(8, .int ((x2.toInt64 + (3 * l5_8.toInt64)).toInt32)), (6, .long (x2.toInt64 + (3 * l5_8.toInt64))), (5, .int l5_8), (4, .int l4_8), (0, .ref 116), (1, .int x1), (2, .int x2), (3, .int x3)]) (st := [.int vg51, .int vg49, .int vg47, .ref 116]) (h := ks i8 a8 q8 r8) (i := (.invokevirtual 123, 3, 134, 0, 9, 0, 380)) (mi_k136.2 _ _ (by rfl)) (ft_invS mi_pq134 (by rfl)) (cy := mi_c134) mi_pq134 rfl (ke134_116 hL8.I hL8.R vg47 vg49 vg51 (ov279 c31 fi8_7424.2 kov8)) (by decide) ?_
                            intro vg53 ig53 ag53 qg53 rg53 kg53 hg53
                            have hGg53 := kG_call hL8 kg53 (by decide +kernel)
                            obtain ⟨hg53, og53⟩ := hg53
                            have fig53_7424 : ((0 : Int) ≤ (ig53 7424).toInt) ∧ ((ig53 7424).toInt ≤ 8) := hGg53.I.1 7424
                            have z54 : (vg53.toInt = (i8 7424).toInt) ∧ ((ig53 7424).toInt = ((i8 7424).toInt + 1)) := hg53
                            have q55 : ag53 118 = (a8 118).set (i8 7424).toNatClampNeg vg47 := og53.1
                            have q56 : ag53 117 = ((a8 117).set (i8 7424).toNatClampNeg vg49).set (8 + i8 7424).toNatClampNeg vg51 := og53.2
                            have s57 : (l4_8 + 1).toInt = l4_8.toInt + (1 : Int32).toInt := kd_add (ov280 b14.1 p8_1 kov1) (ov86 c11 p8_1 z4.2 kov8 kov1)
                            have s58 : (l5_8 + 1).toInt = l5_8.toInt + (1 : Int32).toInt := kd_add (ov43 p8_0 kov1) (ov87 c11 z4.2 kov8 kov1)
                            refine ft_go mi_k136 4 50 [(5, .int (l5_8 + 1)), (4, .int (l4_8 + 1)), (8, .int ((x2.toInt64 + (3 * l5_8.toInt64)).toInt32)), (6, .long (x2.toInt64 + (3 * l5_8.toInt64))), (0, .ref 116), (1, .int x1), (2, .int x2), (3, .int x3)] [] ig53 ag53 qg53 rg53 (by rfl) ?_
                            refine ko_perm [(5, .int (l5_8 + 1)), (4, .int (l4_8 + 1)), (0, .ref 116), (1, .int x1), (2, .int x2), (3, .int x3)] (List.forall_mem_cons.mpr ⟨(List.Mem.head _), (List.forall_mem_cons.mpr ⟨(List.Mem.tail _ (List.Mem.head _)), (List.forall_mem_cons.mpr ⟨(List.Mem.tail _ (List.Mem.tail _ (List.Mem.tail _ (List.Mem.tail _ (List.Mem.head _))))), (List.forall_mem_cons.mpr ⟨(List.Mem.tail _ (List.Mem.tail _ (List.Mem.tail _ (List.Mem.tail _ (List.Mem.tail _ (List.Mem.head _)))))), (List.forall_mem_cons.mpr ⟨(List.Mem.tail _ (List.Mem.tail _ (List.Mem.tail _ (List.Mem.tail _ (List.Mem.tail _ (List.Mem.tail _ (List.Mem.head _))))))), (List.forall_mem_cons.mpr ⟨(List.Mem.tail _ (List.Mem.tail _ (List.Mem.tail _ (List.Mem.tail _ (List.Mem.tail _ (List.Mem.tail _ (List.Mem.tail _ (List.Mem.head _)))))))), (fun _ h => absurd h List.not_mem_nil)⟩)⟩)⟩)⟩)⟩)⟩) ?_
                            have s59 : (60 * x1).toInt = 60 * x1.toInt := kd_cmul 60 kov60 (ov254 z2.1) (ov255 z2.2)
                            have s60 : ((60 * x1) + ((x2.toInt64 + (3 * l5_8.toInt64)).toInt32)).toInt = (60 * x1).toInt + ((x2.toInt64 + (3 * l5_8.toInt64)).toInt32).toInt := kd_add (ov283 b12.1 p8_0 s13 s15 s16 s17 s32 s59 z2.1) (ov284 c30 r23.2 s22 s26 s27.2 s32 s59 z2.2 kov0 kovL3)
                            have s61 : ((60 * x1) + (((x2.toInt64 + (3 * l5_8.toInt64)).toInt32) + 1)).toInt = (60 * x1).toInt + (((x2.toInt64 + (3 * l5_8.toInt64)).toInt32) + 1).toInt := kd_add (ov285 b12.1 p8_0 s13 s15 s16 s17 s32 s37 s59 z2.1 kov1) (ov286 c30 r23.2 s22 s26 s27.2 s32 s37 s59 z2.2 kov0 kovL3 kov1)
                            have s62 : ((60 * x1) + (((x2.toInt64 + (3 * l5_8.toInt64)).toInt32) + 2)).toInt = (60 * x1).toInt + (((x2.toInt64 + (3 * l5_8.toInt64)).toInt32) + 2).toInt := kd_add (ov287 b12.1 p8_0 s13 s15 s16 s17 s32 s42 s59 z2.1 kov2) (ov288 c30 r23.2 s22 s26 s27.2 s32 s42 s59 z2.2 kov0 kovL3 kov2)
                            have eQ63 : q8 138 = q 138 := hL8.fq 138 rfl
                            have w364 : kOk3 (((q8 138).getD ((60 * x1) + ((x2.toInt64 + (3 * l5_8.toInt64)).toInt32)).toNatClampNeg 0).toInt32) (((q8 138).getD ((60 * x1) + (((x2.toInt64 + (3 * l5_8.toInt64)).toInt32) + 1)).toNatClampNeg 0).toInt32) (((q8 138).getD ((60 * x1) + (((x2.toInt64 + (3 * l5_8.toInt64)).toInt32) + 2)).toNatClampNeg 0).toInt32) := ⟨⟨(ov292 z34 z36.1 kov0), (ov293 z34 z36.2 kov999)⟩, ⟨(ov292 z39 z41.1 kov0), (ov294 z39 z41.2 kov9)⟩, ⟨(ov292 z44 z46.1 kov0), (ov294 z44 z46.2 kov9)⟩⟩
                            rw [eQ63] at w364
                            have wS65 : (ig53 7424, ag53 118, ag53 117) = rAdb (((q8 138).getD ((60 * x1) + ((x2.toInt64 + (3 * l5_8.toInt64)).toInt32)).toNatClampNeg 0).toInt32) (((q8 138).getD ((60 * x1) + (((x2.toInt64 + (3 * l5_8.toInt64)).toInt32) + 1)).toNatClampNeg 0).toInt32) (((q8 138).getD ((60 * x1) + (((x2.toInt64 + (3 * l5_8.toInt64)).toInt32) + 2)).toNatClampNeg 0).toInt32) (i8 7424, a8 118, a8 117) := kT3b (kj_inc (ov296 z54.2) (ov297 fi8_7424.1 fig53_7424.2 z54.2)) (by rw [q55, (kj_v (ov295 z48))]) (by rw [q56, (kj_v (ov295 z50)), (kj_v (ov295 z52))])
                            rw [eQ63] at wS65
                            exact ih8 _ _ _ _ _ _ hGg53 (ov45 p8_0 s58 kov1) (ov88 p8_1 s57 s58 kov1) (ov281 p8_2 s57 z54.2 kov1) (ov320 c21 p8_3 s13 s15 s16 s17 s18.1 kov0 kovL0) (fun hx => rt_more (O8_0 hx) (ov317 c21 p8_3 s13 s15 s16 s17 s18.1 kov0 kovL0) (ov41 p8_0) (ov98 c11) (kj_b60y (kj_b60 (ov41 z2.1)) (ov289 s13 s15 s16 s17 s32 s59 s60)) (ov290 s37 s60 s61 kov1) (ov291 s42 s60 s62 kov2) (ov69 s58 kov1) (ov299 fig53_7424.2 z54.2) (ov298 c30 s13 s15 s16 s17 s22 s26 s27.2 u24 kov0 kovL3) w364 wS65) (fun hx => absurd hx (ov321 c21 p8_3 s13 s15 s16 s17 s18.1 kov0 kovL0)) (kj_meas (ov100 s58 kov1) (ov101 c11) hm8)
                          ·
                            subst eg45
                            have z66 : ¬ (((0 : Int32).toInt ≤ vg43.toInt) ∧ (vg43.toInt ≤ (9 : Int32).toInt)) := hg45
                            refine ft_go mi_k136 1 162 [(8, .int ((x2.toInt64 + (3 * l5_8.toInt64)).toInt32)), (6, .long (x2.toInt64 + (3 * l5_8.toInt64))), (5, .int l5_8), (4, .int l4_8), (0, .ref 116), (1, .int x1), (2, .int x2), (3, .int x3)] [] i8 a8 q8 r8 (by rfl) ?_
                            have hG67 := kG_call hG hL8 (by decide +kernel)
                            refine ft_go mi_k136 1 164 [(8, .int ((x2.toInt64 + (3 * l5_8.toInt64)).toInt32)), (6, .long (x2.toInt64 + (3 * l5_8.toInt64))), (5, .int l5_8), (4, .int l4_8), (0, .ref 116), (1, .int x1), (2, .int x2), (3, .int x3)] [.int l4_8] i8 a8 q8 r8 (by rfl) ?_
                            have s68 : (60 * x1).toInt = 60 * x1.toInt := kd_cmul 60 kov60 (ov254 z2.1) (ov255 z2.2)
                            have s69 : ((60 * x1) + ((x2.toInt64 + (3 * l5_8.toInt64)).toInt32)).toInt = (60 * x1).toInt + ((x2.toInt64 + (3 * l5_8.toInt64)).toInt32).toInt := kd_add (ov283 b12.1 p8_0 s13 s15 s16 s17 s32 s68 z2.1) (ov284 c30 r23.2 s22 s26 s27.2 s32 s68 z2.2 kov0 kovL3)
                            have s70 : ((60 * x1) + (((x2.toInt64 + (3 * l5_8.toInt64)).toInt32) + 1)).toInt = (60 * x1).toInt + (((x2.toInt64 + (3 * l5_8.toInt64)).toInt32) + 1).toInt := kd_add (ov285 b12.1 p8_0 s13 s15 s16 s17 s32 s37 s68 z2.1 kov1) (ov286 c30 r23.2 s22 s26 s27.2 s32 s37 s68 z2.2 kov0 kovL3 kov1)
                            have s71 : ((60 * x1) + (((x2.toInt64 + (3 * l5_8.toInt64)).toInt32) + 2)).toInt = (60 * x1).toInt + (((x2.toInt64 + (3 * l5_8.toInt64)).toInt32) + 2).toInt := kd_add (ov287 b12.1 p8_0 s13 s15 s16 s17 s32 s42 s68 z2.1 kov2) (ov288 c30 r23.2 s22 s26 s27.2 s32 s42 s68 z2.2 kov0 kovL3 kov2)
                            have eQ72 : q8 138 = q 138 := hL8.fq 138 rfl
                            have wn73 : ¬ (((0 : Int) ≤ (((q8 138).getD ((60 * x1) + ((x2.toInt64 + (3 * l5_8.toInt64)).toInt32)).toNatClampNeg 0).toInt32).toInt ∧ (((q8 138).getD ((60 * x1) + ((x2.toInt64 + (3 * l5_8.toInt64)).toInt32)).toNatClampNeg 0).toInt32).toInt ≤ 999) ∧ ((0 : Int) ≤ (((q8 138).getD ((60 * x1) + (((x2.toInt64 + (3 * l5_8.toInt64)).toInt32) + 1)).toNatClampNeg 0).toInt32).toInt ∧ (((q8 138).getD ((60 * x1) + (((x2.toInt64 + (3 * l5_8.toInt64)).toInt32) + 1)).toNatClampNeg 0).toInt32).toInt ≤ 9) ∧ ((0 : Int) ≤ (((q8 138).getD ((60 * x1) + (((x2.toInt64 + (3 * l5_8.toInt64)).toInt32) + 2)).toNatClampNeg 0).toInt32).toInt ∧ (((q8 138).getD ((60 * x1) + (((x2.toInt64 + (3 * l5_8.toInt64)).toInt32) + 2)).toNatClampNeg 0).toInt32).toInt ≤ 9)) := (ov301 z44 z66 kov0 kov9)
                            rw [eQ72] at wn73
                            exact ft_ret mi_k136 (by rfl) (hP l4_8 _ _ _ _ hG67 ⟨(ov244 c7 p8_2 z2.1 z2.2 z4.1 z4.2 kov1 kov8), ⟨(fun _ => (show (i8 7424, a8 118, a8 117) = rThr (vQ (q 138) (60 * x1.toInt).toNat) ((a 137).getD x1.toNatClampNeg 0).toInt x3.toInt.toNat x2.toInt.toNat (i 7424, a 118, a 117) from (rt_no (O8_0 (ov317 c21 p8_3 s13 s15 s16 s17 s18.1 kov0 kovL0)) (ov317 c21 p8_3 s13 s15 s16 s17 s18.1 kov0 kovL0) (ov41 p8_0) (kj_b60y (kj_b60 (ov41 z2.1)) (ov289 s13 s15 s16 s17 s32 s68 s69)) (ov290 s37 s69 s70 kov1) (ov291 s42 s69 s71 kov2) wn73))), (fun h => absurd h (ov318 c21 c7 p8_3 s13 s15 s16 s17 s18.1 z2.1 z2.2 z4.1 z4.2 kov0 kov1 kovL0 kov8))⟩⟩)
                        ·
                          subst eg40
                          have z74 : ¬ (((0 : Int32).toInt ≤ vg38.toInt) ∧ (vg38.toInt ≤ (9 : Int32).toInt)) := hg40
                          refine ft_go mi_k136 1 162 [(8, .int ((x2.toInt64 + (3 * l5_8.toInt64)).toInt32)), (6, .long (x2.toInt64 + (3 * l5_8.toInt64))), (5, .int l5_8), (4, .int l4_8), (0, .ref 116), (1, .int x1), (2, .int x2), (3, .int x3)] [] i8 a8 q8 r8 (by rfl) ?_
                          have hG75 := kG_call hG hL8 (by decide +kernel)
                          refine ft_go mi_k136 1 164 [(8, .int ((x2.toInt64 + (3 * l5_8.toInt64)).toInt32)), (6, .long (x2.toInt64 + (3 * l5_8.toInt64))), (5, .int l5_8), (4, .int l4_8), (0, .ref 116), (1, .int x1), (2, .int x2), (3, .int x3)] [.int l4_8] i8 a8 q8 r8 (by rfl) ?_
                          have s76 : (((x2.toInt64 + (3 * l5_8.toInt64)).toInt32) + 2).toInt = ((x2.toInt64 + (3 * l5_8.toInt64)).toInt32).toInt + (2 : Int32).toInt := kd_add (ov266 b12.1 p8_0 s13 s15 s16 s17 s32 kov2) (ov267 c30 r23.2 s22 s26 s27.2 s32 kov0 kovL3 kov2)
                          have s77 : (60 * x1).toInt = 60 * x1.toInt := kd_cmul 60 kov60 (ov254 z2.1) (ov255 z2.2)
                          have s78 : ((60 * x1) + ((x2.toInt64 + (3 * l5_8.toInt64)).toInt32)).toInt = (60 * x1).toInt + ((x2.toInt64 + (3 * l5_8.toInt64)).toInt32).toInt := kd_add (ov283 b12.1 p8_0 s13 s15 s16 s17 s32 s77 z2.1) (ov284 c30 r23.2 s22 s26 s27.2 s32 s77 z2.2 kov0 kovL3)
                          have s79 : ((60 * x1) + (((x2.toInt64 + (3 * l5_8.toInt64)).toInt32) + 1)).toInt = (60 * x1).toInt + (((x2.toInt64 + (3 * l5_8.toInt64)).toInt32) + 1).toInt := kd_add (ov285 b12.1 p8_0 s13 s15 s16 s17 s32 s37 s77 z2.1 kov1) (ov286 c30 r23.2 s22 s26 s27.2 s32 s37 s77 z2.2 kov0 kovL3 kov1)
                          have s80 : ((60 * x1) + (((x2.toInt64 + (3 * l5_8.toInt64)).toInt32) + 2)).toInt = (60 * x1).toInt + (((x2.toInt64 + (3 * l5_8.toInt64)).toInt32) + 2).toInt := kd_add (ov287 b12.1 p8_0 s13 s15 s16 s17 s32 s76 s77 z2.1 kov2) (ov288 c30 r23.2 s22 s26 s27.2 s32 s76 s77 z2.2 kov0 kovL3 kov2)
                          have eQ81 : q8 138 = q 138 := hL8.fq 138 rfl
                          have wn82 : ¬ (((0 : Int) ≤ (((q8 138).getD ((60 * x1) + ((x2.toInt64 + (3 * l5_8.toInt64)).toInt32)).toNatClampNeg 0).toInt32).toInt ∧ (((q8 138).getD ((60 * x1) + ((x2.toInt64 + (3 * l5_8.toInt64)).toInt32)).toNatClampNeg 0).toInt32).toInt ≤ 999) ∧ ((0 : Int) ≤ (((q8 138).getD ((60 * x1) + (((x2.toInt64 + (3 * l5_8.toInt64)).toInt32) + 1)).toNatClampNeg 0).toInt32).toInt ∧ (((q8 138).getD ((60 * x1) + (((x2.toInt64 + (3 * l5_8.toInt64)).toInt32) + 1)).toNatClampNeg 0).toInt32).toInt ≤ 9) ∧ ((0 : Int) ≤ (((q8 138).getD ((60 * x1) + (((x2.toInt64 + (3 * l5_8.toInt64)).toInt32) + 2)).toNatClampNeg 0).toInt32).toInt ∧ (((q8 138).getD ((60 * x1) + (((x2.toInt64 + (3 * l5_8.toInt64)).toInt32) + 2)).toNatClampNeg 0).toInt32).toInt ≤ 9)) := (ov302 z39 z74 kov0 kov9)
                          rw [eQ81] at wn82
                          exact ft_ret mi_k136 (by rfl) (hP l4_8 _ _ _ _ hG75 ⟨(ov244 c7 p8_2 z2.1 z2.2 z4.1 z4.2 kov1 kov8), ⟨(fun _ => (show (i8 7424, a8 118, a8 117) = rThr (vQ (q 138) (60 * x1.toInt).toNat) ((a 137).getD x1.toNatClampNeg 0).toInt x3.toInt.toNat x2.toInt.toNat (i 7424, a 118, a 117) from (rt_no (O8_0 (ov317 c21 p8_3 s13 s15 s16 s17 s18.1 kov0 kovL0)) (ov317 c21 p8_3 s13 s15 s16 s17 s18.1 kov0 kovL0) (ov41 p8_0) (kj_b60y (kj_b60 (ov41 z2.1)) (ov289 s13 s15 s16 s17 s32 s77 s78)) (ov290 s37 s78 s79 kov1) (ov291 s76 s78 s80 kov2) wn82))), (fun h => absurd h (ov318 c21 c7 p8_3 s13 s15 s16 s17 s18.1 z2.1 z2.2 z4.1 z4.2 kov0 kov1 kovL0 kov8))⟩⟩)
                      ·
                        subst eg35
                        have z83 : ¬ (((0 : Int32).toInt ≤ vg33.toInt) ∧ (vg33.toInt ≤ (999 : Int32).toInt)) := hg35
                        refine ft_go mi_k136 1 162 [(8, .int ((x2.toInt64 + (3 * l5_8.toInt64)).toInt32)), (6, .long (x2.toInt64 + (3 * l5_8.toInt64))), (5, .int l5_8), (4, .int l4_8), (0, .ref 116), (1, .int x1), (2, .int x2), (3, .int x3)] [] i8 a8 q8 r8 (by rfl) ?_
                        have hG84 := kG_call hG hL8 (by decide +kernel)
                        refine ft_go mi_k136 1 164 [(8, .int ((x2.toInt64 + (3 * l5_8.toInt64)).toInt32)), (6, .long (x2.toInt64 + (3 * l5_8.toInt64))), (5, .int l5_8), (4, .int l4_8), (0, .ref 116), (1, .int x1), (2, .int x2), (3, .int x3)] [.int l4_8] i8 a8 q8 r8 (by rfl) ?_
                        have s85 : (((x2.toInt64 + (3 * l5_8.toInt64)).toInt32) + 1).toInt = ((x2.toInt64 + (3 * l5_8.toInt64)).toInt32).toInt + (1 : Int32).toInt := kd_add (ov263 b12.1 p8_0 s13 s15 s16 s17 s32 kov1) (ov264 c30 r23.2 s22 s26 s27.2 s32 kov0 kovL3 kov1)
                        have s86 : (((x2.toInt64 + (3 * l5_8.toInt64)).toInt32) + 2).toInt = ((x2.toInt64 + (3 * l5_8.toInt64)).toInt32).toInt + (2 : Int32).toInt := kd_add (ov266 b12.1 p8_0 s13 s15 s16 s17 s32 kov2) (ov267 c30 r23.2 s22 s26 s27.2 s32 kov0 kovL3 kov2)
                        have s87 : (60 * x1).toInt = 60 * x1.toInt := kd_cmul 60 kov60 (ov254 z2.1) (ov255 z2.2)
                        have s88 : ((60 * x1) + ((x2.toInt64 + (3 * l5_8.toInt64)).toInt32)).toInt = (60 * x1).toInt + ((x2.toInt64 + (3 * l5_8.toInt64)).toInt32).toInt := kd_add (ov283 b12.1 p8_0 s13 s15 s16 s17 s32 s87 z2.1) (ov284 c30 r23.2 s22 s26 s27.2 s32 s87 z2.2 kov0 kovL3)
                        have s89 : ((60 * x1) + (((x2.toInt64 + (3 * l5_8.toInt64)).toInt32) + 1)).toInt = (60 * x1).toInt + (((x2.toInt64 + (3 * l5_8.toInt64)).toInt32) + 1).toInt := kd_add (ov285 b12.1 p8_0 s13 s15 s16 s17 s32 s85 s87 z2.1 kov1) (ov286 c30 r23.2 s22 s26 s27.2 s32 s85 s87 z2.2 kov0 kovL3 kov1)
                        have s90 : ((60 * x1) + (((x2.toInt64 + (3 * l5_8.toInt64)).toInt32) + 2)).toInt = (60 * x1).toInt + (((x2.toInt64 + (3 * l5_8.toInt64)).toInt32) + 2).toInt := kd_add (ov287 b12.1 p8_0 s13 s15 s16 s17 s32 s86 s87 z2.1 kov2) (ov288 c30 r23.2 s22 s26 s27.2 s32 s86 s87 z2.2 kov0 kovL3 kov2)
                        have eQ91 : q8 138 = q 138 := hL8.fq 138 rfl
                        have wn92 : ¬ (((0 : Int) ≤ (((q8 138).getD ((60 * x1) + ((x2.toInt64 + (3 * l5_8.toInt64)).toInt32)).toNatClampNeg 0).toInt32).toInt ∧ (((q8 138).getD ((60 * x1) + ((x2.toInt64 + (3 * l5_8.toInt64)).toInt32)).toNatClampNeg 0).toInt32).toInt ≤ 999) ∧ ((0 : Int) ≤ (((q8 138).getD ((60 * x1) + (((x2.toInt64 + (3 * l5_8.toInt64)).toInt32) + 1)).toNatClampNeg 0).toInt32).toInt ∧ (((q8 138).getD ((60 * x1) + (((x2.toInt64 + (3 * l5_8.toInt64)).toInt32) + 1)).toNatClampNeg 0).toInt32).toInt ≤ 9) ∧ ((0 : Int) ≤ (((q8 138).getD ((60 * x1) + (((x2.toInt64 + (3 * l5_8.toInt64)).toInt32) + 2)).toNatClampNeg 0).toInt32).toInt ∧ (((q8 138).getD ((60 * x1) + (((x2.toInt64 + (3 * l5_8.toInt64)).toInt32) + 2)).toNatClampNeg 0).toInt32).toInt ≤ 9)) := (ov303 z34 z83 kov0 kov999)
                        rw [eQ91] at wn92
                        exact ft_ret mi_k136 (by rfl) (hP l4_8 _ _ _ _ hG84 ⟨(ov244 c7 p8_2 z2.1 z2.2 z4.1 z4.2 kov1 kov8), ⟨(fun _ => (show (i8 7424, a8 118, a8 117) = rThr (vQ (q 138) (60 * x1.toInt).toNat) ((a 137).getD x1.toNatClampNeg 0).toInt x3.toInt.toNat x2.toInt.toNat (i 7424, a 118, a 117) from (rt_no (O8_0 (ov317 c21 p8_3 s13 s15 s16 s17 s18.1 kov0 kovL0)) (ov317 c21 p8_3 s13 s15 s16 s17 s18.1 kov0 kovL0) (ov41 p8_0) (kj_b60y (kj_b60 (ov41 z2.1)) (ov289 s13 s15 s16 s17 s32 s87 s88)) (ov290 s85 s88 s89 kov1) (ov291 s86 s88 s90 kov2) wn92))), (fun h => absurd h (ov318 c21 c7 p8_3 s13 s15 s16 s17 s18.1 z2.1 z2.2 z4.1 z4.2 kov0 kov1 kovL0 kov8))⟩⟩)
                    ·
                      have c93 : (i8 7424).toInt = (8 : Int32).toInt := kd_neF c; clear c
                      have hG94 := kG_call hG hL8 (by decide +kernel)
                      refine ft_go mi_k136 1 103 [(6, .long (x2.toInt64 + (3 * l5_8.toInt64))), (5, .int l5_8), (4, .int l4_8), (0, .ref 116), (1, .int x1), (2, .int x2), (3, .int x3)] [.int l4_8] i8 a8 q8 r8 (by rfl) ?_
                      exact ft_ret mi_k136 (by rfl) (hP l4_8 _ _ _ _ hG94 ⟨(ov244 c7 p8_2 z2.1 z2.2 z4.1 z4.2 kov1 kov8), ⟨(fun _ => (show (i8 7424, a8 118, a8 117) = rThr (vQ (q 138) (60 * x1.toInt).toNat) ((a 137).getD x1.toNatClampNeg 0).toInt x3.toInt.toNat x2.toInt.toNat (i 7424, a 118, a 117) from (rt_stop (O8_0 (ov317 c21 p8_3 s13 s15 s16 s17 s18.1 kov0 kovL0)) (ov317 c21 p8_3 s13 s15 s16 s17 s18.1 kov0 kovL0) (ov41 p8_0) (ov304 c93 kov8)))), (fun h => absurd h (ov318 c21 c7 p8_3 s13 s15 s16 s17 s18.1 z2.1 z2.2 z4.1 z4.2 kov0 kov1 kovL0 kov8))⟩⟩)
          have fi_7424 : ((0 : Int) ≤ (i 7424).toInt) ∧ ((i 7424).toInt ≤ 8) := hG.I.1 7424
          exact lp8 _ _ _ _ _ _ _ (kG_self _ hG.I hG.R) (ov28 kov0) (ov102 kov0) (ov103 kov0) (ov305 kov0) (fun _ => by rw [kov0, Int.sub_zero, Int.mul_zero, Int.add_zero]) (fun _ => rfl) (Nat.lt_succ_self _)
        ·
          have c95 : ((a 136).getD x1.toNatClampNeg 0).toInt ≠ (1 : Int32).toInt := kd_eqF c; clear c
          refine ft_go mi_k136 1 43 [(0, .ref 116), (1, .int x1), (2, .int x2), (3, .int x3)] [.int (-12)] i a q r (by rfl) ?_
          have fi_7424 : ((0 : Int) ≤ (i 7424).toInt) ∧ ((i 7424).toInt ≤ 8) := hG.I.1 7424
          exact ft_ret mi_k136 (by rfl) (hP (-12) _ _ _ _ hG ⟨(ov306 c6 c95 r5.1 z2.1 z2.2 z4.1 z4.2 kovm1 kov1 kov8 kovm12), ⟨(fun h => absurd h (ov307 c95 kov1)), (fun _ => rfl)⟩⟩)
      ·
        have c96 : ((a 136).getD x1.toNatClampNeg 0).toInt = ((-1) : Int32).toInt := kd_neF c; clear c
        refine ft_go mi_k136 1 30 [(0, .ref 116), (1, .int x1), (2, .int x2), (3, .int x3)] [.int 0] i a q r (by rfl) ?_
        have fi_7424 : ((0 : Int) ≤ (i 7424).toInt) ∧ ((i 7424).toInt ≤ 8) := hG.I.1 7424
        exact ft_ret mi_k136 (by rfl) (hP 0 _ _ _ _ hG ⟨(ov308 c96 r5.1 z2.1 z2.2 z4.1 z4.2 kovm1 kov1 kov8 kov0), ⟨(fun h => absurd h (ov309 c96 kovm1)), (fun _ => rfl)⟩⟩)
    ·
      subst eg3
      have z97 : ¬ (((1 : Int32).toInt ≤ x3.toInt) ∧ (x3.toInt ≤ (8 : Int32).toInt)) := hg3
      refine ft_go mi_k136 2 18 [(0, .ref 116), (1, .int x1), (2, .int x2), (3, .int x3)] [.int (-1)] i a q r (by rfl) ?_
      have r98 : ((-1 : Int) ≤ ((a 136).getD x1.toNatClampNeg 0).toInt) ∧ (((a 136).getD x1.toNatClampNeg 0).toInt ≤ 59) := hG.I.2.2.1 136 (x1.toNatClampNeg)
      have fi_7424 : ((0 : Int) ≤ (i 7424).toInt) ∧ ((i 7424).toInt ≤ 8) := hG.I.1 7424
      exact ft_ret mi_k136 (by rfl) (hP (-1) _ _ _ _ hG ⟨(ov310 z97 kov1 kov8 kovm1), ⟨(fun h => absurd h (ov311 z97 kov1 kov8)), (fun _ => rfl)⟩⟩)
  ·
    subst eg1
    have z99 : ¬ (((0 : Int) ≤ x1.toInt) ∧ (x1.toInt ≤ 5)) := hg1
    refine ft_go mi_k136 2 18 [(0, .ref 116), (1, .int x1), (2, .int x2), (3, .int x3)] [.int (-1)] i a q r (by rfl) ?_
    have r100 : ((-1 : Int) ≤ ((a 136).getD x1.toNatClampNeg 0).toInt) ∧ (((a 136).getD x1.toNatClampNeg 0).toInt ≤ 59) := hG.I.2.2.1 136 (x1.toNatClampNeg)
    have fi_7424 : ((0 : Int) ≤ (i 7424).toInt) ∧ ((i 7424).toInt ≤ 8) := hG.I.1 7424
    exact ft_ret mi_k136 (by rfl) (hP (-1) _ _ _ _ hG ⟨(ov312 z99 kovm1), ⟨(fun h => absurd h (ov313 z99)), (fun _ => rfl)⟩⟩)
