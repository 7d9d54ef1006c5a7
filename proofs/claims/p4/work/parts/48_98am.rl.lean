theorem ktop8 : (8 : Int32).toInt = 8 := by decide
theorem ktop0 : (0 : Int32).toInt = 0 := by decide
theorem ktop1 : (1 : Int32).toInt = 1 := by decide
theorem ktop10 : (10 : Int32).toInt = 10 := by decide
theorem ktopm1 : ((-1) : Int32).toInt = (-1) := by decide
theorem ktop20 : (20 : Int32).toInt = 20 := by decide
theorem top0 {a0 : Int} (h0 : (0 : Int) ≤ a0) (h1 : a0 ≤ 5) : ((0 : Int) ≤ a0) ∧ (a0 ≤ 5) := by omega
theorem top1 {a0 a1 : Int} (h0 : a0 ≤ a1) (h1 : a1 ≤ a0) : a1 = a0 := by omega
theorem top2 {a0 a1 : Int} (h0 : a0 ≠ a1) (h1 : a0 = a1) (h2 : a1 = (-1)) : False := by omega
theorem top3 {a0 : Int} (h0 : a0 = 0) : a0 = 0 := by omega
theorem top4 {a0 a1 a2 a3 a4 a5 a6 : Int} (h0 : a0 = a1) (h1 : (0 : Int) ≤ a2) (h2 : a2 ≤ 5) (h3 : a3 ≤ a4) (h4 : a4 ≤ a5) (h5 : a1 = (-1)) (h6 : a3 = 0) (h7 : a5 = 20) : (((0 : Int) ≤ a4) ∧ (a4 ≤ 20) ∧ ((a0 = (-1)) ∨ (((0 : Int) ≤ a0) ∧ (a0 < a6)))) ∧ ((0 : Int) ≤ a2) ∧ (a2 ≤ 5) := by omega
theorem top5 {a0 a1 : Int} (h0 : a0 ≤ a1) (h1 : a0 = 0) : ¬ (a1 < 0) := by omega
theorem top7 {a0 a1 : Int} (h0 : a0 = a1) (h1 : a1 = (-1)) : ¬ (a0 ≠ (-1)) := by omega
theorem top8 {a0 a1 : Int} (h0 : (0 : Int) ≤ a0) (h1 : a1 = 1) : (-2147483648 : Int) ≤ a0 + a1 := by omega
theorem top9 {a0 a1 a2 : Int} (h0 : a0 ≤ a1) (h1 : a1 = 0) (h2 : a2 = 1) : a0 + a2 ≤ 2147483647 := by omega
theorem top10 {a0 a1 a2 : Int} (h0 : (0 : Int) ≤ a0) (h1 : a1 = a0 + a2) (h2 : a2 = 1) : (0 : Int) ≤ a1 := by omega
theorem top11 {a0 a1 a2 a3 : Int} (h0 : a0 < a1) (h1 : a2 = a0 + a3) (h2 : a3 = 1) : a2 ≤ a1 := by omega
theorem top12 {a0 a1 a2 : Int} (h0 : a0 = a1 + a2) (h1 : a2 = 1) : a0 = a1 + 1 := by omega
theorem top13 {a0 a1 : Int} (h0 : a0 ≤ a1) (h1 : (0 : Int) ≤ a0) (h2 : a1 = 0) : a0 = 0 := by omega
theorem top14 {a0 a1 a2 a3 : Int} (h0 : a0 = a1 + a2) (h1 : a2 = 1) : (a3 - a0) < (a3 - a1) := by omega
theorem top15 {a0 a1 : Int} (h0 : a0 < a1) : (1 : Int) ≤ (a1 - a0) := by omega
theorem top32 {a0 a1 a2 : Int} (h0 : a0 < a1) (h1 : a0 = 0) (h2 : a2 = 1) : (-2147483648 : Int) ≤ a1 + a2 := by omega
theorem top33 {a0 a1 a2 a3 : Int} (h0 : a0 < a1) (h1 : a1 ≤ a2) (h2 : a2 = 20) (h3 : a3 = 1) : a0 + a3 ≤ 2147483647 := by omega
theorem top34 {a0 a1 a2 a3 : Int} (h0 : a0 < a1) (h1 : a2 = a1 + a3) (h2 : a0 = 0) (h3 : a3 = 1) : (0 : Int) ≤ a2 := by omega
theorem top35 {a0 a1 : Int} (h0 : a0 < a1) (h1 : a0 = 0) : (1 : Int) ≤ a1 := by omega
theorem top36 {a0 : Int} (h0 : a0 = 0) : (0 : Int) ≤ a0 := by omega
theorem top37 {a0 a1 : Int} (h0 : a0 ≤ a1) (h1 : a0 = 0) : a0 ≤ a1 := by omega
theorem top38 {a0 a1 : Int} (h0 : a0 < a1) (h1 : a1 = 0) : a0 < 0 := by omega
theorem top39 {a0 : Int} (h0 : (0 : Int) ≤ a0) : (0 : Int) ≤ a0 := by omega
theorem top40 {a0 a1 : Int} (h0 : a0 ≤ 8) (h1 : a1 < a0) : a1 < 31 := by omega
theorem top41 {a0 a1 a2 a3 a4 a5 : Int} (h0 : (0 : Int) ≤ a0) (h1 : a0 ≤ 5) (h2 : a1 ≤ a2) (h3 : a2 ≤ a3) (h4 : (0 : Int) ≤ a4) (h5 : a4 < a5) (h6 : a1 = 0) (h7 : a3 = 20) : (((0 : Int) ≤ a2) ∧ (a2 ≤ 20) ∧ ((a4 = (-1)) ∨ (((0 : Int) ≤ a4) ∧ (a4 < a5)))) ∧ ((0 : Int) ≤ a0) ∧ (a0 ≤ 5) := by omega
theorem top42 {a0 : Int} (h0 : (0 : Int) ≤ a0) : ¬ (a0 = (-1)) := by omega
theorem top44 {a0 a1 : Int} (h0 : a0 = a1) (h1 : (0 : Int) ≤ a0) (h2 : a1 = (-1)) : False := by omega
theorem top45 {a0 a1 a2 a3 a4 : Int} (h0 : a0 ≠ a1) (h1 : ¬ (((0 : Int) ≤ a0) ∧ (a0 < a2))) (h2 : a1 = (-1)) : ¬ ((((0 : Int) ≤ a3) ∧ (a3 ≤ 20) ∧ ((a0 = (-1)) ∨ (((0 : Int) ≤ a0) ∧ (a0 < a2)))) ∧ ((0 : Int) ≤ a4) ∧ (a4 ≤ 5)) := by omega
theorem top46 {a0 a1 a2 a3 a4 a5 : Int} (h0 : ¬ ((a0 ≤ a1) ∧ (a1 ≤ a2))) (h1 : a0 = 0) (h2 : a2 = 20) : ¬ ((((0 : Int) ≤ a1) ∧ (a1 ≤ 20) ∧ ((a3 = (-1)) ∨ (((0 : Int) ≤ a3) ∧ (a3 < a4)))) ∧ ((0 : Int) ≤ a5) ∧ (a5 ≤ 5)) := by omega
theorem top47 {a0 a1 a2 a3 : Int} (h0 : ¬ (((0 : Int) ≤ a0) ∧ (a0 ≤ 5))) : ¬ ((((0 : Int) ≤ a1) ∧ (a1 ≤ 20) ∧ ((a2 = (-1)) ∨ (((0 : Int) ≤ a2) ∧ (a2 < a3)))) ∧ ((0 : Int) ≤ a0) ∧ (a0 ≤ 5)) := by omega
theorem top54 {a0 : Int} (h0 : a0 ≤ 7) : a0 < 31 := by omega
theorem top55 {a0 : Int} (h0 : a0 = 0) : ((0 : Int) ≤ a0) ∧ (a0 ≤ 7) := by omega
theorem top56 {a0 a1 : Int} (h0 : a0 = (a1 / 10)) (h1 : (0 : Int) ≤ a1) : (-2147483648 : Int) ≤ 8 * a0 := by omega
theorem top57 {a0 a1 a2 : Int} (h0 : a0 ≤ 8) (h1 : a1 = (a2 / 10)) (h2 : (a2 / 10) < a0) (h3 : (a2 % 10) < a0) (h4 : (a2 / 10) ≠ (a2 % 10)) : 8 * a1 ≤ 2147483647 := by omega
theorem top58 {a0 a1 a2 a3 : Int} (h0 : a0 = (a1 / 10)) (h1 : a2 = 8 * a0) (h2 : a3 = (a1 % 10)) (h3 : (0 : Int) ≤ a1) : (-2147483648 : Int) ≤ a2 + a3 := by omega
theorem top59 {a0 a1 a2 a3 a4 : Int} (h0 : a0 ≤ 8) (h1 : a1 = (a2 / 10)) (h2 : a3 = 8 * a1) (h3 : a4 = (a2 % 10)) (h4 : (a2 / 10) < a0) (h5 : (a2 % 10) < a0) (h6 : (a2 / 10) ≠ (a2 % 10)) : a3 + a4 ≤ 2147483647 := by omega
theorem top60 {a0 a1 a2 a3 a4 : Int} (h0 : a0 = (a1 / 10)) (h1 : a2 = 8 * a0) (h2 : a3 = (a1 % 10)) (h3 : a4 = a2 + a3) (h4 : (0 : Int) ≤ a1) : (0 : Int) ≤ a4 := by omega
theorem top61 {a0 a1 a2 a3 a4 a5 : Int} (h0 : a0 ≤ 8) (h1 : a1 = (a2 / 10)) (h2 : a3 = 8 * a1) (h3 : a4 = (a2 % 10)) (h4 : a5 = a3 + a4) (h5 : (a2 / 10) < a0) (h6 : (a2 % 10) < a0) (h7 : (a2 / 10) ≠ (a2 % 10)) : a5 < 64 := by omega
theorem top62 {a0 a1 a2 : Int} (h0 : (0 : Int) ≤ a0) (h1 : a0 ≤ 5) (h2 : (0 : Int) ≤ a1) (h3 : (a1 / 10) < a2) (h4 : (a1 % 10) < a2) (h5 : (a1 / 10) ≠ (a1 % 10)) : (((0 : Int) ≤ a1) ∧ ((a1 / 10) < a2) ∧ ((a1 % 10) < a2) ∧ ((a1 / 10) ≠ (a1 % 10))) ∧ ((0 : Int) ≤ a0) ∧ (a0 ≤ 5) := by omega
theorem top63 {a0 a1 a2 : Int} (h0 : ¬ (((0 : Int) ≤ a0) ∧ (((a0 / 10) < a1) ∧ ((a0 % 10) < a1)) ∧ ((a0 / 10) ≠ (a0 % 10)))) : ¬ ((((0 : Int) ≤ a0) ∧ ((a0 / 10) < a1) ∧ ((a0 % 10) < a1) ∧ ((a0 / 10) ≠ (a0 % 10))) ∧ ((0 : Int) ≤ a2) ∧ (a2 ≤ 5)) := by omega
theorem top64 {a0 a1 a2 : Int} (h0 : ¬ (((0 : Int) ≤ a0) ∧ (a0 ≤ 5))) : ¬ ((((0 : Int) ≤ a1) ∧ ((a1 / 10) < a2) ∧ ((a1 % 10) < a2) ∧ ((a1 / 10) ≠ (a1 % 10))) ∧ ((0 : Int) ≤ a0) ∧ (a0 ≤ 5)) := by omega
def yzw177_116 : kW := ([7464, 7465, 7466, 7467, 7469], [118, 128, 129, 139, 141, 142, 143, 144, 145], [], [])
def yzw177_116_L59 : kW := ([7464, 7465, 7466, 7467], [118, 128, 129, 141, 143, 144, 145], [], [])
set_option maxRecDepth 100000 in
theorem kz177_116 {i : Nat → Int32} {a : Nat → List Int32} {q : Nat → List Int64} {r : Nat → Nat} (hI : kI i a q) (hr : kr r) (x1 : Int32) (x2 : Int32) (x3 : Int32) (hE_code : kCode i a) : km 13 177 [.ref 116, .int x1, .int x2, .int x3] (ks i a q r) (kVI yzw177_116 i a q r (fun v i1 a1 q1 r1 => (True) ∧ (a1 118 = a 118 ∧ rTop (((0 : Int) ≤ x2.toInt) ∧ (x2.toInt ≤ 20) ∧ ((x3.toInt = (-1)) ∨ (((0 : Int) ≤ x3.toInt) ∧ (x3.toInt < (i 7424).toInt)))) i a q x1 v (fun n L => fLa (gKn i a) (gR i a) x2 x3 v n L)))) := by
  have hG := kG_self yzw177_116 hI hr
  refine km_ofI (q := (mi_h177, mi_c177)) rfl (by decide) (Nat.le_of_ble_eq_true rfl) ?_
  intro P hP
  refine ft_go mi_k177 1 1 [(0, .ref 116), (1, .int x1), (2, .int x2), (3, .int x3)] [.int x1] i a q r (by rfl) ?_
  refine ko_callPI mi_k177.1 (pc := 1) (ls := [(0, .ref 116), (1, .int x1), (2, .int x2), (3, .int x3)]) (st := [.int x1]) (h := ks i a q r) (i := (.invokestatic 127, 3, 133, 0, 9, 0, 382)) (mi_k177.2 _ _ (by rfl)) (ft_invS mi_pq133 (by rfl)) (cy := mi_c133) mi_pq133 rfl (kc133 hG.I hG.R x1) (by decide) ?_
  intro vg1 hg1
  rcases hg1 with ⟨eg1, hg1⟩ | ⟨eg1, hg1⟩
  ·
    subst eg1
    have z2 : ((0 : Int) ≤ x1.toInt) ∧ (x1.toInt ≤ 5) := hg1
    refine ft_go mi_k177 4 11 [(0, .ref 116), (1, .int x1), (2, .int x2), (3, .int x3)] [.int 20, .int 0, .int x2] i a q r (by rfl) ?_
    refine ko_callPI mi_k177.1 (pc := 11) (ls := [(0, .ref 116), (1, .int x1), (2, .int x2), (3, .int x3)]) (st := [.int 20, .int 0, .int x2]) (h := ks i a q r) (i := (.invokestatic 119, 3, 131, 0, 9, 0, 379)) (mi_k177.2 _ _ (by rfl)) (ft_invS mi_pq131 (by rfl)) (cy := mi_c131) mi_pq131 rfl (kc131 hG.I hG.R x2 0 20) (by decide) ?_
    intro vg3 hg3
    rcases hg3 with ⟨eg3, hg3⟩ | ⟨eg3, hg3⟩
    ·
      subst eg3
      have z4 : ((0 : Int32).toInt ≤ x2.toInt) ∧ (x2.toInt ≤ (20 : Int32).toInt) := hg3
      refine ft_go mi_k177 3 19 [(0, .ref 116), (1, .int x1), (2, .int x2), (3, .int x3)] [.int (-1), .int x3] i a q r (by rfl) ?_
      refine ft_if mi_k177 (x3 == (-1)) 32 22 [(0, .ref 116), (1, .int x1), (2, .int x2), (3, .int x3)] [] (by rfl) (fun c => ?_) (fun c => ?_)
      ·
        have c5 : x3.toInt = ((-1) : Int32).toInt := kd_eq c; clear c
        refine ft_go mi_k177 2 34 [(0, .ref 116), (1, .int x1), (2, .int x2), (3, .int x3)] [.int x1, .ref 116] i a q r (by rfl) ?_
        refine ko_callPI mi_k177.1 (pc := 34) (ls := [(0, .ref 116), (1, .int x1), (2, .int x2), (3, .int x3)]) (st := [.int x1, .ref 116]) (h := ks i a q r) (i := (.invokevirtual 276, 3, 173, 0, 9, 0, 410)) (mi_k177.2 _ _ (by rfl)) (ft_invS mi_pq173 (by rfl)) (cy := mi_c173) mi_pq173 rfl (kg173_116 hG.I hG.R x1 (top0 z2.1 z2.2)) (by decide) ?_
        intro vg6 hg6
        obtain ⟨hg6, og6⟩ := hg6
        have z7 : vg6.toInt ≤ 0 := hg6
        refine ft_go mi_k177 2 41 [(4, .int vg6), (0, .ref 116), (1, .int x1), (2, .int x2), (3, .int x3)] [.int vg6] i a q r (by rfl) ?_
        refine ft_if mi_k177 (decide (0 ≤ vg6)) 47 44 [(4, .int vg6), (0, .ref 116), (1, .int x1), (2, .int x2), (3, .int x3)] [] (by rfl) (fun c => ?_) (fun c => ?_)
        ·
          have c8 : (0 : Int32).toInt ≤ vg6.toInt := kd_le c; clear c
          refine ft_go mi_k177 2 49 [(4, .int vg6), (0, .ref 116), (1, .int x1), (2, .int x2), (3, .int x3)] [.int x1, .ref 116] i a q r (by rfl) ?_
          refine ko_callN mi_k177.1 (pc := 49) (ls := [(4, .int vg6), (0, .ref 116), (1, .int x1), (2, .int x2), (3, .int x3)]) (st := [.int x1, .ref 116]) (h := ks i a q r) (i := (.invokevirtual 279, 3, 174, 0, 9, 0, 411)) (mi_k177.2 _ _ (by rfl)) (ft_invS mi_pq174 (by rfl)) (cy := mi_c174) mi_pq174 rfl (kg174_116 hG.I hG.R x1 (top0 z2.1 z2.2)) (by decide) ?_
          intro ig9 ag9 qg9 rg9 kg9 hg9
          have hGg9 := kG_call hG kg9 (by decide +kernel)
          obtain ⟨hg9, og9⟩ := hg9
          have fig9_7469 : ((0 : Int) ≤ (ig9 7469).toInt) ∧ ((ig9 7469).toInt ≤ 21) := hGg9.I.1 7469
          have z10 : (ig9 7469).toInt ≤ 20 := hg9
          refine ft_go mi_k177 1 53 [(4, .int vg6), (0, .ref 116), (1, .int x1), (2, .int x2), (3, .int x3)] [.ref 116] ig9 ag9 qg9 rg9 (by rfl) ?_
          refine ko_callN mi_k177.1 (pc := 53) (ls := [(4, .int vg6), (0, .ref 116), (1, .int x1), (2, .int x2), (3, .int x3)]) (st := [.ref 116]) (h := ks ig9 ag9 qg9 rg9) (i := (.invokevirtual 267, 3, 171, 0, 9, 0, 412)) (mi_k177.2 _ _ (by rfl)) (ft_invS mi_pq171 (by rfl)) (cy := mi_c171) mi_pq171 rfl (kg171_116 hGg9.I hGg9.R ) (by decide) ?_
          intro ig11 ag11 qg11 rg11 kg11 hg11
          have hGg11 := kG_call hGg9 kg11 (by decide +kernel)
          obtain ⟨hg11, og11⟩ := hg11
          have tG12 : gT ig11 ag11 = gR i a := (gT_R (og11.2.1.trans (kg9.fa 118 rfl)) ((kg11.fi 7464 rfl).trans (kg9.fi 7464 rfl)) ((kg11.fi 7465 rfl).trans (kg9.fi 7465 rfl)) ((kg11.fi 7466 rfl).trans (kg9.fi 7466 rfl)) og11.2.2.1 og11.2.2.2)
          have q13 : ag11 139 = ag9 118 := og11.1
          have q14 : ag11 118 = ag9 118 := og11.2.1
          have q15 : ig11 7467 = 0 := og11.2.2.1
          have q16 : ag11 141 = List.replicate 64 0 := og11.2.2.2
          refine ft_go mi_k177 2 59 [(5, .int 0), (4, .int vg6), (0, .ref 116), (1, .int x1), (2, .int x2), (3, .int x3)] [] ig11 ag11 qg11 rg11 (by rfl) ?_
          have lp17 : ∀ (nz : Nat) (i17 : Nat → Int32) (a17 : Nat → List Int32) (q17 : Nat → List Int64) (r17 : Nat → Nat) (l5_17 : Int32), kG yzw177_116_L59 ig11 ag11 qg11 rg11 i17 a17 q17 r17 → (0 : Int) ≤ l5_17.toInt → l5_17.toInt ≤ x2.toInt → gT i17 a17 = gDay (gKn i a) (ag9 142) (ig9 7469).toInt.toNat (gR i a) l5_17.toInt.toNat → ((x2.toInt - l5_17.toInt)).toNat < nz → ko 13 (mi_h177, mi_c177) P (59, [(5, .int l5_17), (4, .int vg6), (0, .ref 116), (1, .int x1), (2, .int x2), (3, .int x3)], [], (0, 0), ks i17 a17 q17 r17) := by
            intro nz
            induction nz with
            | zero =>
              intro _ _ _ _ _ _ _ _ _ hm
              exact absurd hm (Nat.not_lt_zero _)
            | succ nz ih17 =>
              intro i17 a17 q17 r17 l5_17 hL17 p17_0 p17_1 O17_0 hm17
              refine ft_go mi_k177 2 62 [(5, .int l5_17), (4, .int vg6), (0, .ref 116), (1, .int x1), (2, .int x2), (3, .int x3)] [.int x2, .int l5_17] i17 a17 q17 r17 (by rfl) ?_
              refine ft_if mi_k177 (decide (x2 ≤ l5_17)) 84 65 [(5, .int l5_17), (4, .int vg6), (0, .ref 116), (1, .int x1), (2, .int x2), (3, .int x3)] [] (by rfl) (fun c => ?_) (fun c => ?_)
              ·
                have c18 : x2.toInt ≤ l5_17.toInt := kd_le c; clear c
                have hG19 := kG_call hGg11 hL17 (by decide +kernel)
                have tG20 : gT i17 a17 = gDay (gKn i a) (ag9 142) (ig9 7469).toInt.toNat (gR i a) x2.toInt.toNat := (gT_c O17_0 (gDay_len (top1 c18 p17_1)))
                refine ft_go mi_k177 2 86 [(5, .int l5_17), (4, .int vg6), (0, .ref 116), (1, .int x1), (2, .int x2), (3, .int x3)] [.int (-1), .int x3] i17 a17 q17 r17 (by rfl) ?_
                refine ft_if mi_k177 (x3 != (-1)) 96 89 [(5, .int l5_17), (4, .int vg6), (0, .ref 116), (1, .int x1), (2, .int x2), (3, .int x3)] [] (by rfl) (fun c => ?_) (fun c => ?_)
                ·
                  have c21 : x3.toInt ≠ ((-1) : Int32).toInt := kd_ne c; clear c
                  exact (top2 c21 c5 ktopm1).elim
                ·
                  have c22 : x3.toInt = ((-1) : Int32).toInt := kd_neF c; clear c
                  refine ft_go mi_k177 8 110 [(5, .int (i17 7467)), (4, .int vg6), (0, .ref 116), (1, .int x1), (2, .int x2), (3, .int x3)] [.int 0, .ref 139, .ref 116] i17 a17 q17 r17 (by rfl) ?_
                  refine ko_callN mi_k177.1 (pc := 110) (ls := [(5, .int (i17 7467)), (4, .int vg6), (0, .ref 116), (1, .int x1), (2, .int x2), (3, .int x3)]) (st := [.int 0, .ref 139, .ref 116]) (h := ks i17 a17 q17 r17) (i := (.invokevirtual 273, 3, 169, 0, 9, 0, 423)) (mi_k177.2 _ _ (by rfl)) (ft_invS mi_pq169 (by rfl)) (cy := mi_c169) mi_pq169 rfl (ke169_116_139 hG19.I hG19.R 0 (top3 ktop0)) (by decide) ?_
                  intro ig23 ag23 qg23 rg23 kg23 hg23
                  have hGg23 := kG_call hG19 kg23 (by decide +kernel)
                  obtain ⟨hg23, og23⟩ := hg23
                  have q24 : ag23 118 = a17 139 := og23
                  refine ft_go mi_k177 1 115 [(5, .int (i17 7467)), (4, .int vg6), (0, .ref 116), (1, .int x1), (2, .int x2), (3, .int x3)] [.int (i17 7467)] ig23 ag23 qg23 rg23 (by rfl) ?_
                  have fi_7424 : ((0 : Int) ≤ (i 7424).toInt) ∧ ((i 7424).toInt ≤ 8) := hG.I.1 7424
                  exact ft_ret mi_k177 (by rfl) (hP (i17 7467) _ _ _ _ hGg23 ⟨trivial, ⟨(show ag23 118 = a 118 from (by first | rfl | (simp only [q24, hL17.fa 139 rfl, q13, kg9.fa 118 rfl, sMn, sMx]; done) | (simp only [q24, hL17.fa 139 rfl, q13, kg9.fa 118 rfl, sMn, sMx]; rfl))), (rTop_go (rok (top4 c5 z2.1 z2.2 z4.1 z4.2 ktopm1 ktop0 ktop20)) og6 (top5 c8 ktop0) og9 ⟨fun _ => gT_la tG20, fun h => absurd h (top7 c5 ktopm1)⟩)⟩⟩)
              ·
                have c25 : l5_17.toInt < x2.toInt := kd_leF c; clear c
                refine ft_go mi_k177 1 67 [(5, .int l5_17), (4, .int vg6), (0, .ref 116), (1, .int x1), (2, .int x2), (3, .int x3)] [.int l5_17] i17 a17 q17 r17 (by rfl) ?_
                refine ft_if mi_k177 (decide (l5_17 ≤ 0)) 74 70 [(5, .int l5_17), (4, .int vg6), (0, .ref 116), (1, .int x1), (2, .int x2), (3, .int x3)] [] (by rfl) (fun c => ?_) (fun c => ?_)
                ·
                  have c26 : l5_17.toInt ≤ (0 : Int32).toInt := kd_le c; clear c
                  refine ft_go mi_k177 1 75 [(5, .int l5_17), (4, .int vg6), (0, .ref 116), (1, .int x1), (2, .int x2), (3, .int x3)] [.ref 116] i17 a17 q17 r17 (by rfl) ?_
                  have hG27 := kG_call hGg11 hL17 (by decide +kernel)
                  refine ko_callN mi_k177.1 (pc := 75) (ls := [(5, .int l5_17), (4, .int vg6), (0, .ref 116), (1, .int x1), (2, .int x2), (3, .int x3)]) (st := [.ref 116]) (h := ks i17 a17 q17 r17) (i := (.invokevirtual 270, 3, 170, 0, 9, 0, 414)) (mi_k177.2 _ _ (by rfl)) (ft_invS mi_pq170 (by rfl)) (cy := mi_c170) mi_pq170 rfl (kg170_116 hL17.I hL17.R (kCode_of (i1 := i17) hE_code (hG27.fi 7432 rfl) (hG27.fa 120 rfl) (hG27.fa 121 rfl) (hG27.fa 122 rfl) (hG27.fa 123 rfl))) (by decide) ?_
                  intro ig28 ag28 qg28 rg28 kg28 hg28
                  have hGg28 := kG_call hL17 kg28 (by decide +kernel)
                  obtain ⟨hg28, og28⟩ := hg28
                  have oG29 := og28
                  have hG30 := kG_call hGg11 hL17 (by decide +kernel)
                  rw [(gKn_fr hG30 (by decide +kernel) : gKn i17 a17 = gKn i a), (O17_0 : gT i17 a17 = gDay (gKn i a) (ag9 142) (ig9 7469).toInt.toNat (gR i a) l5_17.toInt.toNat)] at oG29
                  rw [(((hL17.fa 142 rfl).trans (kg11.fa 142 rfl)) : a17 142 = ag9 142), (((hL17.fi 7469 rfl).trans (kg11.fi 7469 rfl)) : i17 7469 = ig9 7469)] at oG29
                  have tG31 : gT ig28 ag28 = gAt (gKn i a) (ag9 142) (gDay (gKn i a) (ag9 142) (ig9 7469).toInt.toNat (gR i a) l5_17.toInt.toNat) (ig9 7469).toInt.toNat := oG29.1
                  have s32 : (l5_17 + 1).toInt = l5_17.toInt + (1 : Int32).toInt := kd_add (top8 p17_0 ktop1) (top9 c26 ktop0 ktop1)
                  refine ft_go mi_k177 2 59 [(5, .int (l5_17 + 1)), (4, .int vg6), (0, .ref 116), (1, .int x1), (2, .int x2), (3, .int x3)] [] ig28 ag28 qg28 rg28 (by rfl) ?_
                  exact ih17 _ _ _ _ _ hGg28 (top10 p17_0 s32 ktop1) (top11 c25 s32 ktop1) (gT_c tG31 (gDay_one rfl (top13 c26 p17_0 ktop0) (top12 s32 ktop1)).symm) (kj_meas (top14 s32 ktop1) (top15 c25) hm17)
                ·
                  have c33 : (0 : Int32).toInt < l5_17.toInt := kd_leF c; clear c
                  refine ft_go mi_k177 1 71 [(5, .int l5_17), (4, .int vg6), (0, .ref 116), (1, .int x1), (2, .int x2), (3, .int x3)] [.ref 116] i17 a17 q17 r17 (by rfl) ?_
                  refine ko_callN mi_k177.1 (pc := 71) (ls := [(5, .int l5_17), (4, .int vg6), (0, .ref 116), (1, .int x1), (2, .int x2), (3, .int x3)]) (st := [.ref 116]) (h := ks i17 a17 q17 r17) (i := (.invokevirtual 282, 3, 167, 0, 9, 0, 426)) (mi_k177.2 _ _ (by rfl)) (ft_invS mi_pq167 (by rfl)) (cy := mi_c167) mi_pq167 rfl (ke167_116 hL17.I hL17.R ) (by decide) ?_
                  intro ig34 ag34 qg34 rg34 kg34 hg34
                  have hGg34 := kG_call hL17 kg34 (by decide +kernel)
                  obtain ⟨hg34, og34⟩ := hg34
                  have tG35 : gT ig34 ag34 = gEve (gDay (gKn i a) (ag9 142) (ig9 7469).toInt.toNat (gR i a) l5_17.toInt.toNat) := (gT_eve O17_0 og34 (kg34.fi 7464 rfl) (kg34.fi 7465 rfl) (kg34.fi 7466 rfl) (kg34.fi 7467 rfl) (kg34.fa 141 rfl))
                  have q36 : ag34 118 = sEnds (a17 118) := og34
                  refine ft_go mi_k177 1 75 [(5, .int l5_17), (4, .int vg6), (0, .ref 116), (1, .int x1), (2, .int x2), (3, .int x3)] [.ref 116] ig34 ag34 qg34 rg34 (by rfl) ?_
                  have hG37 := kG_call hGg11 hGg34 (by decide +kernel)
                  refine ko_callN mi_k177.1 (pc := 75) (ls := [(5, .int l5_17), (4, .int vg6), (0, .ref 116), (1, .int x1), (2, .int x2), (3, .int x3)]) (st := [.ref 116]) (h := ks ig34 ag34 qg34 rg34) (i := (.invokevirtual 270, 3, 170, 0, 9, 0, 414)) (mi_k177.2 _ _ (by rfl)) (ft_invS mi_pq170 (by rfl)) (cy := mi_c170) mi_pq170 rfl (kg170_116 hGg34.I hGg34.R (kCode_of (i1 := ig34) hE_code (hG37.fi 7432 rfl) (hG37.fa 120 rfl) (hG37.fa 121 rfl) (hG37.fa 122 rfl) (hG37.fa 123 rfl))) (by decide) ?_
                  intro ig38 ag38 qg38 rg38 kg38 hg38
                  have hGg38 := kG_call hGg34 kg38 (by decide +kernel)
                  obtain ⟨hg38, og38⟩ := hg38
                  have oG39 := og38
                  have hG40 := kG_call hGg11 hGg34 (by decide +kernel)
                  rw [(gKn_fr hG40 (by decide +kernel) : gKn ig34 ag34 = gKn i a), (tG35 : gT ig34 ag34 = gEve (gDay (gKn i a) (ag9 142) (ig9 7469).toInt.toNat (gR i a) l5_17.toInt.toNat))] at oG39
                  rw [((((kg34.fa 142 rfl).trans (hL17.fa 142 rfl)).trans (kg11.fa 142 rfl)) : ag34 142 = ag9 142), ((((kg34.fi 7469 rfl).trans (hL17.fi 7469 rfl)).trans (kg11.fi 7469 rfl)) : ig34 7469 = ig9 7469)] at oG39
                  have tG41 : gT ig38 ag38 = gAt (gKn i a) (ag9 142) (gEve (gDay (gKn i a) (ag9 142) (ig9 7469).toInt.toNat (gR i a) l5_17.toInt.toNat)) (ig9 7469).toInt.toNat := oG39.1
                  have s42 : (l5_17 + 1).toInt = l5_17.toInt + (1 : Int32).toInt := kd_add (top32 c33 ktop0 ktop1) (top33 c25 z4.2 ktop20 ktop1)
                  refine ft_go mi_k177 2 59 [(5, .int (l5_17 + 1)), (4, .int vg6), (0, .ref 116), (1, .int x1), (2, .int x2), (3, .int x3)] [] ig38 ag38 qg38 rg38 (by rfl) ?_
                  exact ih17 _ _ _ _ _ hGg38 (top34 c33 s42 ktop0 ktop1) (top11 c25 s42 ktop1) (gT_c tG41 (gDay_more rfl (top35 c33 ktop0) (top12 s42 ktop1)).symm) (kj_meas (top14 s42 ktop1) (top15 c25) hm17)
          exact lp17 _ _ _ _ _ _ (kG_self _ hGg11.I hGg11.R) (top36 ktop0) (top37 z4.1 ktop0) (gT_c tG12 (gDay_0 ktop0)) (Nat.lt_succ_self _)
        ·
          have c43 : vg6.toInt < (0 : Int32).toInt := kd_leF c; clear c
          refine ft_go mi_k177 1 46 [(4, .int vg6), (0, .ref 116), (1, .int x1), (2, .int x2), (3, .int x3)] [.int vg6] i a q r (by rfl) ?_
          have fi_7424 : ((0 : Int) ≤ (i 7424).toInt) ∧ ((i 7424).toInt ≤ 8) := hG.I.1 7424
          exact ft_ret mi_k177 (by rfl) (hP vg6 _ _ _ _ hG ⟨trivial, ⟨(show a 118 = a 118 from rfl), (rTop_bar (rok (top4 c5 z2.1 z2.2 z4.1 z4.2 ktopm1 ktop0 ktop20)) og6 (top38 c43 ktop0))⟩⟩)
      ·
        have c44 : x3.toInt ≠ ((-1) : Int32).toInt := kd_eqF c; clear c
        refine ft_go mi_k177 2 24 [(0, .ref 116), (1, .int x1), (2, .int x2), (3, .int x3)] [.int x3, .ref 116] i a q r (by rfl) ?_
        refine ko_callPI mi_k177.1 (pc := 24) (ls := [(0, .ref 116), (1, .int x1), (2, .int x2), (3, .int x3)]) (st := [.int x3, .ref 116]) (h := ks i a q r) (i := (.invokevirtual 137, 3, 132, 0, 9, 0, 387)) (mi_k177.2 _ _ (by rfl)) (ft_invS mi_pq132 (by rfl)) (cy := mi_c132) mi_pq132 rfl (kc132_116 hG.I hG.R x3) (by decide) ?_
        intro vg45 hg45
        rcases hg45 with ⟨eg45, hg45⟩ | ⟨eg45, hg45⟩
        ·
          subst eg45
          have fi_7424 : ((0 : Int) ≤ (i 7424).toInt) ∧ ((i 7424).toInt ≤ 8) := hG.I.1 7424
          have z46 : ((0 : Int) ≤ x3.toInt) ∧ (x3.toInt < (i 7424).toInt) := hg45
          refine ft_go mi_k177 3 34 [(0, .ref 116), (1, .int x1), (2, .int x2), (3, .int x3)] [.int x1, .ref 116] i a q r (by rfl) ?_
          refine ko_callPI mi_k177.1 (pc := 34) (ls := [(0, .ref 116), (1, .int x1), (2, .int x2), (3, .int x3)]) (st := [.int x1, .ref 116]) (h := ks i a q r) (i := (.invokevirtual 276, 3, 173, 0, 9, 0, 410)) (mi_k177.2 _ _ (by rfl)) (ft_invS mi_pq173 (by rfl)) (cy := mi_c173) mi_pq173 rfl (kg173_116 hG.I hG.R x1 (top0 z2.1 z2.2)) (by decide) ?_
          intro vg47 hg47
          obtain ⟨hg47, og47⟩ := hg47
          have z48 : vg47.toInt ≤ 0 := hg47
          refine ft_go mi_k177 2 41 [(4, .int vg47), (0, .ref 116), (1, .int x1), (2, .int x2), (3, .int x3)] [.int vg47] i a q r (by rfl) ?_
          refine ft_if mi_k177 (decide (0 ≤ vg47)) 47 44 [(4, .int vg47), (0, .ref 116), (1, .int x1), (2, .int x2), (3, .int x3)] [] (by rfl) (fun c => ?_) (fun c => ?_)
          ·
            have c49 : (0 : Int32).toInt ≤ vg47.toInt := kd_le c; clear c
            refine ft_go mi_k177 2 49 [(4, .int vg47), (0, .ref 116), (1, .int x1), (2, .int x2), (3, .int x3)] [.int x1, .ref 116] i a q r (by rfl) ?_
            refine ko_callN mi_k177.1 (pc := 49) (ls := [(4, .int vg47), (0, .ref 116), (1, .int x1), (2, .int x2), (3, .int x3)]) (st := [.int x1, .ref 116]) (h := ks i a q r) (i := (.invokevirtual 279, 3, 174, 0, 9, 0, 411)) (mi_k177.2 _ _ (by rfl)) (ft_invS mi_pq174 (by rfl)) (cy := mi_c174) mi_pq174 rfl (kg174_116 hG.I hG.R x1 (top0 z2.1 z2.2)) (by decide) ?_
            intro ig50 ag50 qg50 rg50 kg50 hg50
            have hGg50 := kG_call hG kg50 (by decide +kernel)
            obtain ⟨hg50, og50⟩ := hg50
            have fig50_7469 : ((0 : Int) ≤ (ig50 7469).toInt) ∧ ((ig50 7469).toInt ≤ 21) := hGg50.I.1 7469
            have z51 : (ig50 7469).toInt ≤ 20 := hg50
            refine ft_go mi_k177 1 53 [(4, .int vg47), (0, .ref 116), (1, .int x1), (2, .int x2), (3, .int x3)] [.ref 116] ig50 ag50 qg50 rg50 (by rfl) ?_
            refine ko_callN mi_k177.1 (pc := 53) (ls := [(4, .int vg47), (0, .ref 116), (1, .int x1), (2, .int x2), (3, .int x3)]) (st := [.ref 116]) (h := ks ig50 ag50 qg50 rg50) (i := (.invokevirtual 267, 3, 171, 0, 9, 0, 412)) (mi_k177.2 _ _ (by rfl)) (ft_invS mi_pq171 (by rfl)) (cy := mi_c171) mi_pq171 rfl (kg171_116 hGg50.I hGg50.R ) (by decide) ?_
            intro ig52 ag52 qg52 rg52 kg52 hg52
            have hGg52 := kG_call hGg50 kg52 (by decide +kernel)
            obtain ⟨hg52, og52⟩ := hg52
            have tG53 : gT ig52 ag52 = gR i a := (gT_R (og52.2.1.trans (kg50.fa 118 rfl)) ((kg52.fi 7464 rfl).trans (kg50.fi 7464 rfl)) ((kg52.fi 7465 rfl).trans (kg50.fi 7465 rfl)) ((kg52.fi 7466 rfl).trans (kg50.fi 7466 rfl)) og52.2.2.1 og52.2.2.2)
            have q54 : ag52 139 = ag50 118 := og52.1
            have q55 : ag52 118 = ag50 118 := og52.2.1
            have q56 : ig52 7467 = 0 := og52.2.2.1
            have q57 : ag52 141 = List.replicate 64 0 := og52.2.2.2
            refine ft_go mi_k177 2 59 [(5, .int 0), (4, .int vg47), (0, .ref 116), (1, .int x1), (2, .int x2), (3, .int x3)] [] ig52 ag52 qg52 rg52 (by rfl) ?_
            have lp58 : ∀ (nz : Nat) (i58 : Nat → Int32) (a58 : Nat → List Int32) (q58 : Nat → List Int64) (r58 : Nat → Nat) (l5_58 : Int32), kG yzw177_116_L59 ig52 ag52 qg52 rg52 i58 a58 q58 r58 → (0 : Int) ≤ l5_58.toInt → l5_58.toInt ≤ x2.toInt → gT i58 a58 = gDay (gKn i a) (ag50 142) (ig50 7469).toInt.toNat (gR i a) l5_58.toInt.toNat → ((x2.toInt - l5_58.toInt)).toNat < nz → ko 13 (mi_h177, mi_c177) P (59, [(5, .int l5_58), (4, .int vg47), (0, .ref 116), (1, .int x1), (2, .int x2), (3, .int x3)], [], (0, 0), ks i58 a58 q58 r58) := by
              intro nz
              induction nz with
              | zero =>
                intro _ _ _ _ _ _ _ _ _ hm
                exact absurd hm (Nat.not_lt_zero _)
              | succ nz ih58 =>
                intro i58 a58 q58 r58 l5_58 hL58 p58_0 p58_1 O58_0 hm58
                refine ft_go mi_k177 2 62 [(5, .int l5_58), (4, .int vg47), (0, .ref 116), (1, .int x1), (2, .int x2), (3, .int x3)] [.int x2, .int l5_58] i58 a58 q58 r58 (by rfl) ?_
                refine ft_if mi_k177 (decide (x2 ≤ l5_58)) 84 65 [(5, .int l5_58), (4, .int vg47), (0, .ref 116), (1, .int x1), (2, .int x2), (3, .int x3)] [] (by rfl) (fun c => ?_) (fun c => ?_)
                ·
                  have c59 : x2.toInt ≤ l5_58.toInt := kd_le c; clear c
                  have hG60 := kG_call hGg52 hL58 (by decide +kernel)
                  have tG61 : gT i58 a58 = gDay (gKn i a) (ag50 142) (ig50 7469).toInt.toNat (gR i a) x2.toInt.toNat := (gT_c O58_0 (gDay_len (top1 c59 p58_1)))
                  refine ft_go mi_k177 2 86 [(5, .int l5_58), (4, .int vg47), (0, .ref 116), (1, .int x1), (2, .int x2), (3, .int x3)] [.int (-1), .int x3] i58 a58 q58 r58 (by rfl) ?_
                  refine ft_if mi_k177 (x3 != (-1)) 96 89 [(5, .int l5_58), (4, .int vg47), (0, .ref 116), (1, .int x1), (2, .int x2), (3, .int x3)] [] (by rfl) (fun c => ?_) (fun c => ?_)
                  ·
                    have c62 : x3.toInt ≠ ((-1) : Int32).toInt := kd_ne c; clear c
                    refine ft_go mi_k177 3 101 [(5, .int l5_58), (4, .int vg47), (0, .ref 116), (1, .int x1), (2, .int x2), (3, .int x3)] [.int x3, .ref 118] i58 a58 q58 r58 (by rfl) ?_
                    refine ko_iald3 mi_k177.1 (n := 31) (c := 31) (ax := (0, 0, 0, 0, 0)) (mi_k177.2 _ _ (by rfl)) (by rfl) (ksG118 _ _ _ _) (hG60.I.2.1 118) rfl (top39 z46.1) (top40 fi_7424.2 z46.2) ?_
                    have r63 : ((x3.toInt = 18 → (0 : Int) ≤ ((a58 118).getD x3.toNatClampNeg 0).toInt ∧ ((a58 118).getD x3.toNatClampNeg 0).toInt ≤ 5)) ∧ ((19 ≤ x3.toInt → x3.toInt ≤ 24 → (0 : Int) ≤ ((a58 118).getD x3.toNatClampNeg 0).toInt ∧ ((a58 118).getD x3.toNatClampNeg 0).toInt ≤ 7)) := kE_ncond (p := 118) hG60.I (by decide) (j := x3) (top39 z46.1)
                    refine ft_go mi_k177 5 110 [(5, .int ((a58 118).getD x3.toNatClampNeg 0)), (4, .int vg47), (0, .ref 116), (1, .int x1), (2, .int x2), (3, .int x3)] [.int 0, .ref 139, .ref 116] i58 a58 q58 r58 (by rfl) ?_
                    refine ko_callN mi_k177.1 (pc := 110) (ls := [(5, .int ((a58 118).getD x3.toNatClampNeg 0)), (4, .int vg47), (0, .ref 116), (1, .int x1), (2, .int x2), (3, .int x3)]) (st := [.int 0, .ref 139, .ref 116]) (h := ks i58 a58 q58 r58) (i := (.invokevirtual 273, 3, 169, 0, 9, 0, 423)) (mi_k177.2 _ _ (by rfl)) (ft_invS mi_pq169 (by rfl)) (cy := mi_c169) mi_pq169 rfl (ke169_116_139 hG60.I hG60.R 0 (top3 ktop0)) (by decide) ?_
                    intro ig64 ag64 qg64 rg64 kg64 hg64
                    have hGg64 := kG_call hG60 kg64 (by decide +kernel)
                    obtain ⟨hg64, og64⟩ := hg64
                    have q65 : ag64 118 = a58 139 := og64
                    refine ft_go mi_k177 1 115 [(5, .int ((a58 118).getD x3.toNatClampNeg 0)), (4, .int vg47), (0, .ref 116), (1, .int x1), (2, .int x2), (3, .int x3)] [.int ((a58 118).getD x3.toNatClampNeg 0)] ig64 ag64 qg64 rg64 (by rfl) ?_
                    exact ft_ret mi_k177 (by rfl) (hP ((a58 118).getD x3.toNatClampNeg 0) _ _ _ _ hGg64 ⟨trivial, ⟨(show ag64 118 = a 118 from (by first | rfl | (simp only [q65, hL58.fa 139 rfl, q54, kg50.fa 118 rfl, sMn, sMx]; done) | (simp only [q65, hL58.fa 139 rfl, q54, kg50.fa 118 rfl, sMn, sMx]; rfl))), (rTop_go (rok (top41 z2.1 z2.2 z4.1 z4.2 z46.1 z46.2 ktop0 ktop20)) og47 (top5 c49 ktop0) og50 ⟨fun h => absurd h (top42 z46.1), fun _ => gT_pu tG61⟩)⟩⟩)
                  ·
                    have c66 : x3.toInt = ((-1) : Int32).toInt := kd_neF c; clear c
                    exact (top44 c66 z46.1 ktopm1).elim
                ·
                  have c67 : l5_58.toInt < x2.toInt := kd_leF c; clear c
                  refine ft_go mi_k177 1 67 [(5, .int l5_58), (4, .int vg47), (0, .ref 116), (1, .int x1), (2, .int x2), (3, .int x3)] [.int l5_58] i58 a58 q58 r58 (by rfl) ?_
                  refine ft_if mi_k177 (decide (l5_58 ≤ 0)) 74 70 [(5, .int l5_58), (4, .int vg47), (0, .ref 116), (1, .int x1), (2, .int x2), (3, .int x3)] [] (by rfl) (fun c => ?_) (fun c => ?_)
                  ·
                    have c68 : l5_58.toInt ≤ (0 : Int32).toInt := kd_le c; clear c
                    refine ft_go mi_k177 1 75 [(5, .int l5_58), (4, .int vg47), (0, .ref 116), (1, .int x1), (2, .int x2), (3, .int x3)] [.ref 116] i58 a58 q58 r58 (by rfl) ?_
                    have hG69 := kG_call hGg52 hL58 (by decide +kernel)
                    refine ko_callN mi_k177.1 (pc := 75) (ls := [(5, .int l5_58), (4, .int vg47), (0, .ref 116), (1, .int x1), (2, .int x2), (3, .int x3)]) (st := [.ref 116]) (h := ks i58 a58 q58 r58) (i := (.invokevirtual 270, 3, 170, 0, 9, 0, 414)) (mi_k177.2 _ _ (by rfl)) (ft_invS mi_pq170 (by rfl)) (cy := mi_c170) mi_pq170 rfl (kg170_116 hL58.I hL58.R (kCode_of (i1 := i58) hE_code (hG69.fi 7432 rfl) (hG69.fa 120 rfl) (hG69.fa 121 rfl) (hG69.fa 122 rfl) (hG69.fa 123 rfl))) (by decide) ?_
                    intro ig70 ag70 qg70 rg70 kg70 hg70
                    have hGg70 := kG_call hL58 kg70 (by decide +kernel)
                    obtain ⟨hg70, og70⟩ := hg70
                    have oG71 := og70
                    have hG72 := kG_call hGg52 hL58 (by decide +kernel)
                    rw [(gKn_fr hG72 (by decide +kernel) : gKn i58 a58 = gKn i a), (O58_0 : gT i58 a58 = gDay (gKn i a) (ag50 142) (ig50 7469).toInt.toNat (gR i a) l5_58.toInt.toNat)] at oG71
                    rw [(((hL58.fa 142 rfl).trans (kg52.fa 142 rfl)) : a58 142 = ag50 142), (((hL58.fi 7469 rfl).trans (kg52.fi 7469 rfl)) : i58 7469 = ig50 7469)] at oG71
                    have tG73 : gT ig70 ag70 = gAt (gKn i a) (ag50 142) (gDay (gKn i a) (ag50 142) (ig50 7469).toInt.toNat (gR i a) l5_58.toInt.toNat) (ig50 7469).toInt.toNat := oG71.1
                    have s74 : (l5_58 + 1).toInt = l5_58.toInt + (1 : Int32).toInt := kd_add (top8 p58_0 ktop1) (top9 c68 ktop0 ktop1)
                    refine ft_go mi_k177 2 59 [(5, .int (l5_58 + 1)), (4, .int vg47), (0, .ref 116), (1, .int x1), (2, .int x2), (3, .int x3)] [] ig70 ag70 qg70 rg70 (by rfl) ?_
                    exact ih58 _ _ _ _ _ hGg70 (top10 p58_0 s74 ktop1) (top11 c67 s74 ktop1) (gT_c tG73 (gDay_one rfl (top13 c68 p58_0 ktop0) (top12 s74 ktop1)).symm) (kj_meas (top14 s74 ktop1) (top15 c67) hm58)
                  ·
                    have c75 : (0 : Int32).toInt < l5_58.toInt := kd_leF c; clear c
                    refine ft_go mi_k177 1 71 [(5, .int l5_58), (4, .int vg47), (0, .ref 116), (1, .int x1), (2, .int x2), (3, .int x3)] [.ref 116] i58 a58 q58 r58 (by rfl) ?_
                    refine ko_callN mi_k177.1 (pc := 71) (ls := [(5, .int l5_58), (4, .int vg47), (0, .ref 116), (1, .int x1), (2, .int x2), (3, .int x3)]) (st := [.ref 116]) (h := ks i58 a58 q58 r58) (i := (.invokevirtual 282, 3, 167, 0, 9, 0, 426)) (mi_k177.2 _ _ (by rfl)) (ft_invS mi_pq167 (by rfl)) (cy := mi_c167) mi_pq167 rfl (ke167_116 hL58.I hL58.R ) (by decide) ?_
                    intro ig76 ag76 qg76 rg76 kg76 hg76
                    have hGg76 := kG_call hL58 kg76 (by decide +kernel)
                    obtain ⟨hg76, og76⟩ := hg76
                    have tG77 : gT ig76 ag76 = gEve (gDay (gKn i a) (ag50 142) (ig50 7469).toInt.toNat (gR i a) l5_58.toInt.toNat) := (gT_eve O58_0 og76 (kg76.fi 7464 rfl) (kg76.fi 7465 rfl) (kg76.fi 7466 rfl) (kg76.fi 7467 rfl) (kg76.fa 141 rfl))
                    have q78 : ag76 118 = sEnds (a58 118) := og76
                    refine ft_go mi_k177 1 75 [(5, .int l5_58), (4, .int vg47), (0, .ref 116), (1, .int x1), (2, .int x2), (3, .int x3)] [.ref 116] ig76 ag76 qg76 rg76 (by rfl) ?_
                    have hG79 := kG_call hGg52 hGg76 (by decide +kernel)
                    refine ko_callN mi_k177.1 (pc := 75) (ls := [(5, .int l5_58), (4, .int vg47), (0, .ref 116), (1, .int x1), (2, .int x2), (3, .int x3)]) (st := [.ref 116]) (h := ks ig76 ag76 qg76 rg76) (i := (.invokevirtual 270, 3, 170, 0, 9, 0, 414)) (mi_k177.2 _ _ (by rfl)) (ft_invS mi_pq170 (by rfl)) (cy := mi_c170) mi_pq170 rfl (kg170_116 hGg76.I hGg76.R (kCode_of (i1 := ig76) hE_code (hG79.fi 7432 rfl) (hG79.fa 120 rfl) (hG79.fa 121 rfl) (hG79.fa 122 rfl) (hG79.fa 123 rfl))) (by decide) ?_
                    intro ig80 ag80 qg80 rg80 kg80 hg80
                    have hGg80 := kG_call hGg76 kg80 (by decide +kernel)
                    obtain ⟨hg80, og80⟩ := hg80
                    have oG81 := og80
                    have hG82 := kG_call hGg52 hGg76 (by decide +kernel)
                    rw [(gKn_fr hG82 (by decide +kernel) : gKn ig76 ag76 = gKn i a), (tG77 : gT ig76 ag76 = gEve (gDay (gKn i a) (ag50 142) (ig50 7469).toInt.toNat (gR i a) l5_58.toInt.toNat))] at oG81
                    rw [((((kg76.fa 142 rfl).trans (hL58.fa 142 rfl)).trans (kg52.fa 142 rfl)) : ag76 142 = ag50 142), ((((kg76.fi 7469 rfl).trans (hL58.fi 7469 rfl)).trans (kg52.fi 7469 rfl)) : ig76 7469 = ig50 7469)] at oG81
                    have tG83 : gT ig80 ag80 = gAt (gKn i a) (ag50 142) (gEve (gDay (gKn i a) (ag50 142) (ig50 7469).toInt.toNat (gR i a) l5_58.toInt.toNat)) (ig50 7469).toInt.toNat := oG81.1
                    have s84 : (l5_58 + 1).toInt = l5_58.toInt + (1 : Int32).toInt := kd_add (top32 c75 ktop0 ktop1) (top33 c67 z4.2 ktop20 ktop1)
                    refine ft_go mi_k177 2 59 [(5, .int (l5_58 + 1)), (4, .int vg47), (0, .ref 116), (1, .int x1), (2, .int x2), (3, .int x3)] [] ig80 ag80 qg80 rg80 (by rfl) ?_
                    exact ih58 _ _ _ _ _ hGg80 (top34 c75 s84 ktop0 ktop1) (top11 c67 s84 ktop1) (gT_c tG83 (gDay_more rfl (top35 c75 ktop0) (top12 s84 ktop1)).symm) (kj_meas (top14 s84 ktop1) (top15 c67) hm58)
            exact lp58 _ _ _ _ _ _ (kG_self _ hGg52.I hGg52.R) (top36 ktop0) (top37 z4.1 ktop0) (gT_c tG53 (gDay_0 ktop0)) (Nat.lt_succ_self _)
          ·
            have c85 : vg47.toInt < (0 : Int32).toInt := kd_leF c; clear c
            refine ft_go mi_k177 1 46 [(4, .int vg47), (0, .ref 116), (1, .int x1), (2, .int x2), (3, .int x3)] [.int vg47] i a q r (by rfl) ?_
            exact ft_ret mi_k177 (by rfl) (hP vg47 _ _ _ _ hG ⟨trivial, ⟨(show a 118 = a 118 from rfl), (rTop_bar (rok (top41 z2.1 z2.2 z4.1 z4.2 z46.1 z46.2 ktop0 ktop20)) og47 (top38 c85 ktop0))⟩⟩)
        ·
          subst eg45
          have fi_7424 : ((0 : Int) ≤ (i 7424).toInt) ∧ ((i 7424).toInt ≤ 8) := hG.I.1 7424
          have z86 : ¬ (((0 : Int) ≤ x3.toInt) ∧ (x3.toInt < (i 7424).toInt)) := hg45
          refine ft_go mi_k177 2 31 [(0, .ref 116), (1, .int x1), (2, .int x2), (3, .int x3)] [.int (-1)] i a q r (by rfl) ?_
          exact ft_ret mi_k177 (by rfl) (hP (-1) _ _ _ _ hG ⟨trivial, ⟨(show a 118 = a 118 from rfl), (Or.inl ⟨(top45 c44 z86 ktopm1), rfl⟩)⟩⟩)
    ·
      subst eg3
      have z87 : ¬ (((0 : Int32).toInt ≤ x2.toInt) ∧ (x2.toInt ≤ (20 : Int32).toInt)) := hg3
      refine ft_go mi_k177 2 31 [(0, .ref 116), (1, .int x1), (2, .int x2), (3, .int x3)] [.int (-1)] i a q r (by rfl) ?_
      have fi_7424 : ((0 : Int) ≤ (i 7424).toInt) ∧ ((i 7424).toInt ≤ 8) := hG.I.1 7424
      exact ft_ret mi_k177 (by rfl) (hP (-1) _ _ _ _ hG ⟨trivial, ⟨(show a 118 = a 118 from rfl), (Or.inl ⟨(top46 z87 ktop0 ktop20), rfl⟩)⟩⟩)
  ·
    subst eg1
    have z88 : ¬ (((0 : Int) ≤ x1.toInt) ∧ (x1.toInt ≤ 5)) := hg1
    refine ft_go mi_k177 2 31 [(0, .ref 116), (1, .int x1), (2, .int x2), (3, .int x3)] [.int (-1)] i a q r (by rfl) ?_
    have fi_7424 : ((0 : Int) ≤ (i 7424).toInt) ∧ ((i 7424).toInt ≤ 8) := hG.I.1 7424
    exact ft_ret mi_k177 (by rfl) (hP (-1) _ _ _ _ hG ⟨trivial, ⟨(show a 118 = a 118 from rfl), (Or.inl ⟨(top47 z88), rfl⟩)⟩⟩)
def ygw172_116 : kW := ([7464, 7465, 7466, 7467], [118, 128, 129, 139, 141, 143, 144, 145], [], [])
set_option maxRecDepth 100000 in
theorem kg172_116 {i : Nat → Int32} {a : Nat → List Int32} {q : Nat → List Int64} {r : Nat → Nat} (hI : kI i a q) (hr : kr r) (x1 : Int32) (hp0 : ((0 : Int) ≤ x1.toInt) ∧ (x1.toInt ≤ 7)) (hE_code : kCode i a) : km 13 172 [.ref 116, .int x1] (ks i a q r) (kVI ygw172_116 i a q r (fun v i1 a1 q1 r1 => (True) ∧ (a1 118 = a 118 ∧ (v = (gAt (gKn i a) (a 142) (gR i a) (i 7469).toInt.toNat).1.getD x1.toNatClampNeg 0 ∧ a1 141 = (gAt (gKn i a) (a 142) (gR i a) (i 7469).toInt.toNat).2.2.2.2.2)))) := by
  have hG := kG_self ygw172_116 hI hr
  refine km_ofI (q := (mi_h172, mi_c172)) rfl (by decide) (Nat.le_of_ble_eq_true rfl) ?_
  intro P hP
  refine ft_go mi_k172 1 1 [(0, .ref 116), (1, .int x1)] [.ref 116] i a q r (by rfl) ?_
  refine ko_callN mi_k172.1 (pc := 1) (ls := [(0, .ref 116), (1, .int x1)]) (st := [.ref 116]) (h := ks i a q r) (i := (.invokevirtual 267, 3, 171, 0, 9, 0, 412)) (mi_k172.2 _ _ (by rfl)) (ft_invS mi_pq171 (by rfl)) (cy := mi_c171) mi_pq171 rfl (kg171_116 hG.I hG.R ) (by decide) ?_
  intro ig1 ag1 qg1 rg1 kg1 hg1
  have hGg1 := kG_call hG kg1 (by decide +kernel)
  obtain ⟨hg1, og1⟩ := hg1
  have tG2 : gT ig1 ag1 = gR i a := (gT_R (og1.2.1.trans rfl) (kg1.fi 7464 rfl) (kg1.fi 7465 rfl) (kg1.fi 7466 rfl) og1.2.2.1 og1.2.2.2)
  have q3 : ag1 139 = a 118 := og1.1
  have q4 : ag1 118 = a 118 := og1.2.1
  have q5 : ig1 7467 = 0 := og1.2.2.1
  have q6 : ag1 141 = List.replicate 64 0 := og1.2.2.2
  refine ft_go mi_k172 1 5 [(0, .ref 116), (1, .int x1)] [.ref 116] ig1 ag1 qg1 rg1 (by rfl) ?_
  refine ko_callN mi_k172.1 (pc := 5) (ls := [(0, .ref 116), (1, .int x1)]) (st := [.ref 116]) (h := ks ig1 ag1 qg1 rg1) (i := (.invokevirtual 270, 3, 170, 0, 9, 0, 414)) (mi_k172.2 _ _ (by rfl)) (ft_invS mi_pq170 (by rfl)) (cy := mi_c170) mi_pq170 rfl (kg170_116 hGg1.I hGg1.R (kCode_of (i1 := ig1) hE_code (hGg1.fi 7432 rfl) (hGg1.fa 120 rfl) (hGg1.fa 121 rfl) (hGg1.fa 122 rfl) (hGg1.fa 123 rfl))) (by decide) ?_
  intro ig7 ag7 qg7 rg7 kg7 hg7
  have hGg7 := kG_call hGg1 kg7 (by decide +kernel)
  obtain ⟨hg7, og7⟩ := hg7
  have oG8 := og7
  rw [(gKn_fr hGg1 (by decide +kernel) : gKn ig1 ag1 = gKn i a), (tG2 : gT ig1 ag1 = gR i a)] at oG8
  rw [((kg1.fa 142 rfl) : ag1 142 = a 142), ((kg1.fi 7469 rfl) : ig1 7469 = i 7469)] at oG8
  have tG9 : gT ig7 ag7 = gAt (gKn i a) (a 142) (gR i a) (i 7469).toInt.toNat := oG8.1
  refine ft_go mi_k172 3 13 [(0, .ref 116), (1, .int x1)] [.int x1, .ref 118] ig7 ag7 qg7 rg7 (by rfl) ?_
  refine ko_iald3 mi_k172.1 (n := 31) (c := 31) (ax := (0, 0, 0, 0, 0)) (mi_k172.2 _ _ (by rfl)) (by rfl) (ksG118 _ _ _ _) (hGg7.I.2.1 118) rfl (top39 hp0.1) (top54 hp0.2) ?_
  have r10 : ((x1.toInt = 18 → (0 : Int) ≤ ((ag7 118).getD x1.toNatClampNeg 0).toInt ∧ ((ag7 118).getD x1.toNatClampNeg 0).toInt ≤ 5)) ∧ ((19 ≤ x1.toInt → x1.toInt ≤ 24 → (0 : Int) ≤ ((ag7 118).getD x1.toNatClampNeg 0).toInt ∧ ((ag7 118).getD x1.toNatClampNeg 0).toInt ≤ 7)) := kE_ncond (p := 118) hGg7.I (by decide) (j := x1) (top39 hp0.1)
  refine ft_go mi_k172 5 21 [(2, .int ((ag7 118).getD x1.toNatClampNeg 0)), (0, .ref 116), (1, .int x1)] [.int 0, .ref 139, .ref 116] ig7 ag7 qg7 rg7 (by rfl) ?_
  refine ko_callN mi_k172.1 (pc := 21) (ls := [(2, .int ((ag7 118).getD x1.toNatClampNeg 0)), (0, .ref 116), (1, .int x1)]) (st := [.int 0, .ref 139, .ref 116]) (h := ks ig7 ag7 qg7 rg7) (i := (.invokevirtual 273, 3, 169, 0, 9, 0, 423)) (mi_k172.2 _ _ (by rfl)) (ft_invS mi_pq169 (by rfl)) (cy := mi_c169) mi_pq169 rfl (ke169_116_139 hGg7.I hGg7.R 0 (top3 ktop0)) (by decide) ?_
  intro ig11 ag11 qg11 rg11 kg11 hg11
  have hGg11 := kG_call hGg7 kg11 (by decide +kernel)
  obtain ⟨hg11, og11⟩ := hg11
  have q12 : ag11 118 = ag7 139 := og11
  refine ft_go mi_k172 1 25 [(2, .int ((ag7 118).getD x1.toNatClampNeg 0)), (0, .ref 116), (1, .int x1)] [.int ((ag7 118).getD x1.toNatClampNeg 0)] ig11 ag11 qg11 rg11 (by rfl) ?_
  exact ft_ret mi_k172 (by rfl) (hP ((ag7 118).getD x1.toNatClampNeg 0) _ _ _ _ hGg11 ⟨trivial, ⟨(show ag11 118 = a 118 from (by first | rfl | (simp only [q12, kg7.fa 139 rfl, q3, sMn, sMx]; done) | (simp only [q12, kg7.fa 139 rfl, q3, sMn, sMx]; rfl))), ⟨gT_pu tG9, (show ag11 141 = ag7 141 from (kg11.fa 141 rfl)).trans (congrArg (fun z : gS => z.2.2.2.2.2) tG9)⟩⟩⟩)
def yzw187_116 : kW := ([7464, 7465, 7466, 7467, 7469], [118, 128, 129, 139, 141, 142, 143, 144, 145], [], [])
set_option maxRecDepth 100000 in
theorem kz187_116 {i : Nat → Int32} {a : Nat → List Int32} {q : Nat → List Int64} {r : Nat → Nat} (hI : kI i a q) (hr : kr r) (x1 : Int32) (x2 : Int32) (hE_code : kCode i a) : km 15 187 [.ref 116, .int x1, .int x2] (ks i a q r) (kVI yzw187_116 i a q r (fun v i1 a1 q1 r1 => (True) ∧ (a1 118 = a 118 ∧ rTop (((0 : Int) ≤ x2.toInt) ∧ ((x2.toInt / 10) < (i 7424).toInt) ∧ ((x2.toInt % 10) < (i 7424).toInt) ∧ ((x2.toInt / 10) ≠ (x2.toInt % 10))) i a q x1 v (fun n L => fFl (gKn i a) (gR i a) x2 v n L)))) := by
  have hG := kG_self yzw187_116 hI hr
  refine km_ofI (q := (mi_h187, mi_c187)) rfl (by decide) (Nat.le_of_ble_eq_true rfl) ?_
  intro P hP
  refine ft_go mi_k187 1 1 [(0, .ref 116), (1, .int x1), (2, .int x2)] [.int x1] i a q r (by rfl) ?_
  refine ko_callPI mi_k187.1 (pc := 1) (ls := [(0, .ref 116), (1, .int x1), (2, .int x2)]) (st := [.int x1]) (h := ks i a q r) (i := (.invokestatic 127, 3, 133, 0, 9, 0, 382)) (mi_k187.2 _ _ (by rfl)) (ft_invS mi_pq133 (by rfl)) (cy := mi_c133) mi_pq133 rfl (kc133 hG.I hG.R x1) (by decide) ?_
  intro vg1 hg1
  rcases hg1 with ⟨eg1, hg1⟩ | ⟨eg1, hg1⟩
  ·
    subst eg1
    have z2 : ((0 : Int) ≤ x1.toInt) ∧ (x1.toInt ≤ 5) := hg1
    refine ft_go mi_k187 3 9 [(0, .ref 116), (1, .int x1), (2, .int x2)] [.int x2, .ref 116] i a q r (by rfl) ?_
    refine ko_callPI mi_k187.1 (pc := 9) (ls := [(0, .ref 116), (1, .int x1), (2, .int x2)]) (st := [.int x2, .ref 116]) (h := ks i a q r) (i := (.invokevirtual 308, 3, 186, 0, 9, 0, 438)) (mi_k187.2 _ _ (by rfl)) (ft_invS mi_pq186 (by rfl)) (cy := mi_c186) mi_pq186 rfl (kc186_116 hG.I hG.R x2) (by decide) ?_
    intro vg3 hg3
    rcases hg3 with ⟨eg3, hg3⟩ | ⟨eg3, hg3⟩
    ·
      subst eg3
      have fi_7424 : ((0 : Int) ≤ (i 7424).toInt) ∧ ((i 7424).toInt ≤ 8) := hG.I.1 7424
      have z4 : ((0 : Int) ≤ x2.toInt) ∧ (((x2.toInt / 10) < (i 7424).toInt) ∧ ((x2.toInt % 10) < (i 7424).toInt)) ∧ ((x2.toInt / 10) ≠ (x2.toInt % 10)) := hg3
      refine ft_go mi_k187 3 19 [(0, .ref 116), (1, .int x1), (2, .int x2)] [.int x1, .ref 116] i a q r (by rfl) ?_
      refine ko_callPI mi_k187.1 (pc := 19) (ls := [(0, .ref 116), (1, .int x1), (2, .int x2)]) (st := [.int x1, .ref 116]) (h := ks i a q r) (i := (.invokevirtual 276, 3, 173, 0, 9, 0, 410)) (mi_k187.2 _ _ (by rfl)) (ft_invS mi_pq173 (by rfl)) (cy := mi_c173) mi_pq173 rfl (kg173_116 hG.I hG.R x1 (top0 z2.1 z2.2)) (by decide) ?_
      intro vg5 hg5
      obtain ⟨hg5, og5⟩ := hg5
      have z6 : vg5.toInt ≤ 0 := hg5
      refine ft_go mi_k187 2 24 [(3, .int vg5), (0, .ref 116), (1, .int x1), (2, .int x2)] [.int vg5] i a q r (by rfl) ?_
      refine ft_if mi_k187 (decide (0 ≤ vg5)) 29 27 [(3, .int vg5), (0, .ref 116), (1, .int x1), (2, .int x2)] [] (by rfl) (fun c => ?_) (fun c => ?_)
      ·
        have c7 : (0 : Int32).toInt ≤ vg5.toInt := kd_le c; clear c
        refine ft_go mi_k187 2 31 [(3, .int vg5), (0, .ref 116), (1, .int x1), (2, .int x2)] [.int x1, .ref 116] i a q r (by rfl) ?_
        refine ko_callN mi_k187.1 (pc := 31) (ls := [(3, .int vg5), (0, .ref 116), (1, .int x1), (2, .int x2)]) (st := [.int x1, .ref 116]) (h := ks i a q r) (i := (.invokevirtual 279, 3, 174, 0, 9, 0, 411)) (mi_k187.2 _ _ (by rfl)) (ft_invS mi_pq174 (by rfl)) (cy := mi_c174) mi_pq174 rfl (kg174_116 hG.I hG.R x1 (top0 z2.1 z2.2)) (by decide) ?_
        intro ig8 ag8 qg8 rg8 kg8 hg8
        have hGg8 := kG_call hG kg8 (by decide +kernel)
        obtain ⟨hg8, og8⟩ := hg8
        have fig8_7469 : ((0 : Int) ≤ (ig8 7469).toInt) ∧ ((ig8 7469).toInt ≤ 21) := hGg8.I.1 7469
        have z9 : (ig8 7469).toInt ≤ 20 := hg8
        refine ft_go mi_k187 2 36 [(3, .int vg5), (0, .ref 116), (1, .int x1), (2, .int x2)] [.int 0, .ref 116] ig8 ag8 qg8 rg8 (by rfl) ?_
        refine ko_callI mi_k187.1 (pc := 36) (ls := [(3, .int vg5), (0, .ref 116), (1, .int x1), (2, .int x2)]) (st := [.int 0, .ref 116]) (h := ks ig8 ag8 qg8 rg8) (i := (.invokevirtual 288, 3, 172, 0, 9, 0, 429)) (mi_k187.2 _ _ (by rfl)) (ft_invS mi_pq172 (by rfl)) (cy := mi_c172) mi_pq172 rfl (kg172_116 hGg8.I hGg8.R 0 (top55 ktop0) (kCode_of (i1 := ig8) hE_code (hGg8.fi 7432 rfl) (hGg8.fa 120 rfl) (hGg8.fa 121 rfl) (hGg8.fa 122 rfl) (hGg8.fa 123 rfl))) (by decide) ?_
        intro vg10 ig10 ag10 qg10 rg10 kg10 hg10
        have hGg10 := kG_call hGg8 kg10 (by decide +kernel)
        obtain ⟨hg10, og10⟩ := hg10
        have oP11 := og10.2
        rw [(gKn_fr hGg8 (by decide +kernel) : gKn ig8 ag8 = gKn i a), (gR_eq (kg8.fa 118 rfl) (kg8.fi 7464 rfl) (kg8.fi 7465 rfl) (kg8.fi 7466 rfl) : gR ig8 ag8 = gR i a)] at oP11
        have q12 : ag10 118 = ag8 118 := og10.1
        have s13 : (x2 / 10).toInt = (x2.toInt / 10) := kd_div 10 ktop10 (by decide) (top39 z4.1)
        have s14 : (8 * (x2 / 10)).toInt = 8 * (x2 / 10).toInt := kd_cmul 8 ktop8 (top56 s13 z4.1) (top57 fi_7424.2 s13 z4.2.1.1 z4.2.1.2 z4.2.2)
        have s15 : (x2 - x2 / 10 * 10).toInt = (x2.toInt % 10) := kd_rem 10 ktop10 (by decide) (top39 z4.1)
        have s16 : ((8 * (x2 / 10)) + (x2 - x2 / 10 * 10)).toInt = (8 * (x2 / 10)).toInt + (x2 - x2 / 10 * 10).toInt := kd_add (top58 s13 s14 s15 z4.1) (top59 fi_7424.2 s13 s14 s15 z4.2.1.1 z4.2.1.2 z4.2.2)
        refine ft_go mi_k187 12 56 [(3, .int vg5), (0, .ref 116), (1, .int x1), (2, .int x2)] [.int ((8 * (x2 / 10)) + (x2 - x2 / 10 * 10)), .ref 141] ig10 ag10 qg10 rg10 (by rfl) ?_
        refine ko_iald3 mi_k187.1 (n := 64) (c := 64) (ax := (0, 0, 0, 0, 0)) (mi_k187.2 _ _ (by rfl)) (by rfl) (ksG141 _ _ _ _) (hGg10.I.2.1 141) rfl (top60 s13 s14 s15 s16 z4.1) (top61 fi_7424.2 s13 s14 s15 s16 z4.2.1.1 z4.2.1.2 z4.2.2) ?_
        exact ft_ret mi_k187 (by rfl) (hP ((ag10 141).getD ((8 * (x2 / 10)) + (x2 - x2 / 10 * 10)).toNatClampNeg 0) _ _ _ _ hGg10 ⟨trivial, ⟨(show ag10 118 = a 118 from (by first | rfl | (simp only [q12, kg8.fa 118 rfl, sMn, sMx]; done) | (simp only [q12, kg8.fa 118 rfl, sMn, sMx]; rfl))), (rTop_go (rok (top62 z2.1 z2.2 z4.1 z4.2.1.1 z4.2.1.2 z4.2.2)) og5 (top5 c7 ktop0) og8 ((congrArg (fun z : List Int32 => z.getD ((8 * (x2 / 10)) + (x2 - x2 / 10 * 10)).toNatClampNeg 0) oP11.2).trans rfl))⟩⟩)
      ·
        have c17 : vg5.toInt < (0 : Int32).toInt := kd_leF c; clear c
        refine ft_go mi_k187 1 28 [(3, .int vg5), (0, .ref 116), (1, .int x1), (2, .int x2)] [.int vg5] i a q r (by rfl) ?_
        exact ft_ret mi_k187 (by rfl) (hP vg5 _ _ _ _ hG ⟨trivial, ⟨(show a 118 = a 118 from rfl), (rTop_bar (rok (top62 z2.1 z2.2 z4.1 z4.2.1.1 z4.2.1.2 z4.2.2)) og5 (top38 c17 ktop0))⟩⟩)
    ·
      subst eg3
      have fi_7424 : ((0 : Int) ≤ (i 7424).toInt) ∧ ((i 7424).toInt ≤ 8) := hG.I.1 7424
      have z18 : ¬ (((0 : Int) ≤ x2.toInt) ∧ (((x2.toInt / 10) < (i 7424).toInt) ∧ ((x2.toInt % 10) < (i 7424).toInt)) ∧ ((x2.toInt / 10) ≠ (x2.toInt % 10))) := hg3
      refine ft_go mi_k187 2 16 [(0, .ref 116), (1, .int x1), (2, .int x2)] [.int (-1)] i a q r (by rfl) ?_
      exact ft_ret mi_k187 (by rfl) (hP (-1) _ _ _ _ hG ⟨trivial, ⟨(show a 118 = a 118 from rfl), (Or.inl ⟨(top63 z18), rfl⟩)⟩⟩)
  ·
    subst eg1
    have z19 : ¬ (((0 : Int) ≤ x1.toInt) ∧ (x1.toInt ≤ 5)) := hg1
    refine ft_go mi_k187 2 16 [(0, .ref 116), (1, .int x1), (2, .int x2)] [.int (-1)] i a q r (by rfl) ?_
    have fi_7424 : ((0 : Int) ≤ (i 7424).toInt) ∧ ((i 7424).toInt ≤ 8) := hG.I.1 7424
    exact ft_ret mi_k187 (by rfl) (hP (-1) _ _ _ _ hG ⟨trivial, ⟨(show a 118 = a 118 from rfl), (Or.inl ⟨(top64 z19), rfl⟩)⟩⟩)
