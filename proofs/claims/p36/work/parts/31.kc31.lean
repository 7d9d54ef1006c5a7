def wO : kW := ([7464, 7465, 7466, 7467, 7469, 7476], [118, 128, 129, 139, 141, 142, 143, 144, 145, 146, 147], [], [])
def w184_116_L94 : kW := ([7464, 7465, 7466, 7467, 7469, 7476], [118, 128, 129, 139, 141, 142, 143, 144, 145, 146, 147], [], [])
def w184_116_L12 : kW := ([], [142], [], [])
def w184_116_L64 : kW := ([], [147], [], [])
def kLO_184 (n : Nat) : Prop := ∀ (i : Nat → Int32) (a : Nat → List Int32) (q : Nat → List Int64) (r : Nat → Nat), kI i a q → kr r → ∀ (x1 : Int32) (x2 : Int32) (x3 : Int32), (0 : Int) ≤ x1.toInt → ((0 : Int) ≤ x2.toInt) ∧ (x2.toInt ≤ 255) → ((0 : Int) ≤ x3.toInt) ∧ (x3.toInt ≤ 7) → (x1.toInt + (kbc x2).toInt) ≤ 5 → (kbc x2).toInt = (n : Int) → kCode i a → km (6 * n + 30) 184 [.ref 116, .int x1, .int x2, .int x3] (ks i a q r) (kVN wO i a q r (fun i1 a1 q1 r1 => True))
set_option maxRecDepth 100000 in
theorem kLsO_184 (n : Nat)  (ih : ∀ m, n = m + 1 → kLO_184 m) : kLO_184 n := by
  intro i a q r hI hr x1 x2 x3 hp0 hp1 hp2 hp3 hp4 hE_code
  have hG := kG_self wO hI hr
  refine km_ofN (q := (mi_h184, mi_c184)) rfl (by decide) (Nat.le_of_ble_eq_true rfl) ?_
  intro P hP
  have hn0 : (0 : Int) ≤ (n : Int) := Int.natCast_nonneg n
  refine ko_steps mi_in184 1 _ (1, [(0, .ref 116), (1, .int x1), (2, .int x2), (3, .int x3)], [.int x2], (0, 0), ks i a q r) (by rfl) ?_
  refine ko_if mi_in184 (x2 != 0) 91 4 ([(0, .ref 116), (1, .int x1), (2, .int x2), (3, .int x3)], [], (0, 0), ks i a q r) (by rfl) (fun c => ?_) (fun c => ?_)
  ·
    have c1 : x2.toInt ≠ (0 : Int32).toInt := kd_ne c; clear c
    have kb2 : (1 : Int) ≤ (kbc x2).toInt := kbc_pos (oz3 hp1.1) (oz661 hp1.2) (oz662 c1 hp1.1 kn0)
    refine ko_steps mi_in184 2 _ (94, [(4, .int 0), (0, .ref 116), (1, .int x1), (2, .int x2), (3, .int x3)], [], (0, 0), ks i a q r) (by rfl) ?_
    have lp3 : ∀ (n : Nat) (i3 : Nat → Int32) (a3 : Nat → List Int32) (q3 : Nat → List Int64) (r3 : Nat → Nat) (l4_3 : Int32), kG w184_116_L94 i a q r i3 a3 q3 r3 → (0 : Int) ≤ l4_3.toInt → (((i3 7424).toInt - l4_3.toInt)).toNat < n → ko (6 * n + 30) (mi_h184, mi_c184) P (94, [(4, .int l4_3), (0, .ref 116), (1, .int x1), (2, .int x2), (3, .int x3)], [], (0, 0), ks i3 a3 q3 r3) := by
      intro n
      induction n with
      | zero =>
        intro _ _ _ _ _ _ _ hm
        exact absurd hm (Nat.not_lt_zero _)
      | succ n ih3 =>
        intro i3 a3 q3 r3 l4_3 hL3 p3_0 hm3
        have fi3_7424 : ((0 : Int) ≤ (i3 7424).toInt) ∧ ((i3 7424).toInt ≤ 8) := hL3.I.1 7424
        have fi_7424 : ((0 : Int) ≤ (i 7424).toInt) ∧ ((i 7424).toInt ≤ 8) := hG.I.1 7424
        have efi3_7424 : (i3 7424).toInt = (i 7424).toInt := hL3.ti 7424 rfl
        refine ko_steps mi_in184 3 _ (100, [(4, .int l4_3), (0, .ref 116), (1, .int x1), (2, .int x2), (3, .int x3)], [.int (i3 7424), .int l4_3], (0, 0), ks i3 a3 q3 r3) (by rfl) ?_
        refine ko_if mi_in184 (decide ((i3 7424) ≤ l4_3)) 145 103 ([(4, .int l4_3), (0, .ref 116), (1, .int x1), (2, .int x2), (3, .int x3)], [], (0, 0), ks i3 a3 q3 r3) (by rfl) (fun c => ?_) (fun c => ?_)
        ·
          have c4 : (i3 7424).toInt ≤ l4_3.toInt := kd_le c; clear c
          have hG5 := kG_call hG hL3 (by decide +kernel)
          exact ko_ret mi_in184 (by rfl) (hP  _ _ _ _ hG5 trivial)
        ·
          have c6 : l4_3.toInt < (i3 7424).toInt := kd_leF c; clear c
          refine ko_steps mi_in184 5 _ (109, [(4, .int l4_3), (0, .ref 116), (1, .int x1), (2, .int x2), (3, .int x3)], [.int ((x2 >>> (l4_3 &&& 31)) &&& 1)], (0, 0), ks i3 a3 q3 r3) (by rfl) ?_
          refine ko_if mi_in184 (((x2 >>> (l4_3 &&& 31)) &&& 1) != 0) 115 112 ([(4, .int l4_3), (0, .ref 116), (1, .int x1), (2, .int x2), (3, .int x3)], [], (0, 0), ks i3 a3 q3 r3) (by rfl) (fun c => ?_) (fun c => ?_)
          ·
            have c7 : ((x2 >>> (l4_3 &&& 31)) &&& 1).toInt ≠ (0 : Int32).toInt := kd_ne c; clear c
            have ks8 : ((kbc (x2 &&& ((1 <<< (l4_3 &&& 31)) ^^^ (-1)))).toInt = (kbc x2).toInt - 1) ∧ ((0 : Int) ≤ (x2 &&& ((1 <<< (l4_3 &&& 31)) ^^^ (-1))).toInt) ∧ ((x2 &&& ((1 <<< (l4_3 &&& 31)) ^^^ (-1))).toInt ≤ 255) := kbc_step (oz3 hp1.1) (oz661 hp1.2) (oz3 p3_0) (oz512 c6 fi3_7424.2) (oz295 c7 kn0)
            refine ko_steps mi_in184 4 _ (122, [(4, .int l4_3), (0, .ref 116), (1, .int x1), (2, .int x2), (3, .int x3)], [.int l4_3, .int x1, .ref 146], (0, 0), ks i3 a3 q3 r3) (by rfl) ?_
            refine ko_iast3 mi_in184 (n := 5) (c := 5) (ax := (0, 0, 0, 0, 0)) (by rfl) (by rfl) (ksG146 _ _ _ _) (ksA146 _ _ _ _) (hL3.I.2.1 146) rfl (oz3 hp0) (oz663 hp3 kb2) ?_
            intro a9 ea9 fa9
            have hJ9 := kG_a3 hL3 146 rfl ea9 fa9 ⟨(oz3 p3_0), (oz512 c6 fi3_7424.2)⟩
            have s10 : (x1 + 1).toInt = x1.toInt + (1 : Int32).toInt := kd_add (oz12 hp0 kn1) (oz664 hp3 kb2 kn1)
            have s11 : ((1 : Int) ≤ (1 <<< (l4_3 &&& 31)).toInt) ∧ ((1 <<< (l4_3 &&& 31)).toInt ≤ 256) := kd_shl1 (oz3 p3_0) (oz513 c6 fi3_7424.2)
            refine ko_steps mi_in184 12 _ (136, [(4, .int l4_3), (0, .ref 116), (1, .int x1), (2, .int x2), (3, .int x3)], [.int x3, .int (x2 &&& ((1 <<< (l4_3 &&& 31)) ^^^ (-1))), .int (x1 + 1), .ref 116], (0, 0), ks i3 a9 q3 r3) (by rfl) ?_
            obtain ⟨m, hm, hmI⟩ := kj_pred (oz665 hp4 kb2)
            have hG12 := kG_call hG hJ9 (by decide +kernel)
            refine ko_callN mi_in184 (pc := 136) (ls := [(4, .int l4_3), (0, .ref 116), (1, .int x1), (2, .int x2), (3, .int x3)]) (st := [.int x3, .int (x2 &&& ((1 <<< (l4_3 &&& 31)) ^^^ (-1))), .int (x1 + 1), .ref 116]) (h := ks i3 a9 q3 r3) (i := (.invokevirtual 300, 3, 184, 0, 9, 0, 436)) (by rfl) (by rfl) (cy := mi_c184) rfl rfl ((ih m hm).self _ _ _ _ hJ9.I hJ9.R (x1 + 1) (x2 &&& ((1 <<< (l4_3 &&& 31)) ^^^ (-1))) x3 (oz14 hp0 s10 kn1) (oz666 ks8.2.1 ks8.2.2) (oz181 hp2.1 hp2.2) (oz667 hp3 ks8.1 s10 kn1) (oz668 hmI hp4 ks8.1) (kCode_of (i1 := i3) hE_code (hG12.fi 7432 rfl) (hG12.fa 120 rfl) (hG12.fa 121 rfl) (hG12.fa 122 rfl) (hG12.fa 123 rfl))) (kj_d2 hm (by decide)) ?_
            intro ig13 ag13 qg13 rg13 kg13 hg13
            have hGg13 := kG_call hJ9 kg13 (by decide +kernel)
            have s14 : (l4_3 + 1).toInt = l4_3.toInt + (1 : Int32).toInt := kd_add (oz12 p3_0 kn1) (oz442 c6 fi3_7424.2 kn1)
            refine ko_steps mi_in184 2 _ (94, [(4, .int (l4_3 + 1)), (0, .ref 116), (1, .int x1), (2, .int x2), (3, .int x3)], [], (0, 0), ks ig13 ag13 qg13 rg13) (by rfl) ?_
            have fig13_7424 : ((0 : Int) ≤ (ig13 7424).toInt) ∧ ((ig13 7424).toInt ≤ 8) := hGg13.I.1 7424
            have efig13_7424 : (ig13 7424).toInt = (i3 7424).toInt := kg13.ti 7424 rfl
            exact ih3 _ _ _ _ _ hGg13 (oz14 p3_0 s14 kn1) (kj_meas (oz308 efig13_7424 s14 kn1) (oz45 c6) hm3)
          ·
            have c15 : ((x2 >>> (l4_3 &&& 31)) &&& 1).toInt = (0 : Int32).toInt := kd_neF c; clear c
            have s16 : (l4_3 + 1).toInt = l4_3.toInt + (1 : Int32).toInt := kd_add (oz12 p3_0 kn1) (oz442 c6 fi3_7424.2 kn1)
            refine ko_steps mi_in184 3 _ (94, [(4, .int (l4_3 + 1)), (0, .ref 116), (1, .int x1), (2, .int x2), (3, .int x3)], [], (0, 0), ks i3 a3 q3 r3) (by rfl) ?_
            exact ih3 _ _ _ _ _ hL3 (oz14 p3_0 s16 kn1) (kj_meas (oz44 s16 kn1) (oz45 c6) hm3)
    exact lp3 _ _ _ _ _ _ (kG_self _ hG.I hG.R) (oz46 kn0) (Nat.lt_succ_self _)
  ·
    have c17 : x2.toInt = (0 : Int32).toInt := kd_neF c; clear c
    have hJ18 := kG_i hG 7469 rfl (v := x1) ⟨(oz3 hp0), (oz669 hn0 hp3 hp4)⟩
    refine ko_steps mi_in184 5 _ (12, [(4, .int 0), (0, .ref 116), (1, .int x1), (2, .int x2), (3, .int x3)], [], (0, 0), ks (ku i 7469 x1) a q r) (by rfl) ?_
    have lp19 : ∀ (n : Nat) (i19 : Nat → Int32) (a19 : Nat → List Int32) (q19 : Nat → List Int64) (r19 : Nat → Nat) (l4_19 : Int32), kG w184_116_L12 (ku i 7469 x1) a q r i19 a19 q19 r19 → (0 : Int) ≤ l4_19.toInt → ((x1.toInt - l4_19.toInt)).toNat < n → ko (6 * n + 30) (mi_h184, mi_c184) P (12, [(4, .int l4_19), (0, .ref 116), (1, .int x1), (2, .int x2), (3, .int x3)], [], (0, 0), ks i19 a19 q19 r19) := by
      intro n
      induction n with
      | zero =>
        intro _ _ _ _ _ _ _ hm
        exact absurd hm (Nat.not_lt_zero _)
      | succ n ih19 =>
        intro i19 a19 q19 r19 l4_19 hL19 p19_0 hm19
        refine ko_steps mi_in184 2 _ (15, [(4, .int l4_19), (0, .ref 116), (1, .int x1), (2, .int x2), (3, .int x3)], [.int x1, .int l4_19], (0, 0), ks i19 a19 q19 r19) (by rfl) ?_
        refine ko_if mi_in184 (decide (x1 ≤ l4_19)) 38 18 ([(4, .int l4_19), (0, .ref 116), (1, .int x1), (2, .int x2), (3, .int x3)], [], (0, 0), ks i19 a19 q19 r19) (by rfl) (fun c => ?_) (fun c => ?_)
        ·
          have c20 : x1.toInt ≤ l4_19.toInt := kd_le c; clear c
          have hG21 := kG_call hJ18 hL19 (by decide +kernel)
          refine ko_steps mi_in184 2 _ (40, [(4, .int l4_19), (0, .ref 116), (1, .int x1), (2, .int x2), (3, .int x3)], [.int x3, .ref 116], (0, 0), ks i19 a19 q19 r19) (by rfl) ?_
          refine ko_callI mi_in184 (pc := 40) (ls := [(4, .int l4_19), (0, .ref 116), (1, .int x1), (2, .int x2), (3, .int x3)]) (st := [.int x3, .ref 116]) (h := ks i19 a19 q19 r19) (i := (.invokevirtual 288, 3, 172, 0, 9, 0, 429)) (by rfl) (by rfl) (cy := mi_c172) rfl rfl (kc172_116 hG21.I hG21.R x3 (oz181 hp2.1 hp2.2) (kCode_of (i1 := i19) hE_code (hG21.fi 7432 rfl) (hG21.fa 120 rfl) (hG21.fa 121 rfl) (hG21.fa 122 rfl) (hG21.fa 123 rfl))) (kj_d3 (by decide)) ?_
          intro vg22 ig22 ag22 qg22 rg22 kg22 hg22
          have hGg22 := kG_call hG21 kg22 (by decide +kernel)
          have efi19_7476 : (i19 7476).toInt = (i 7476).toInt := hL19.ti 7476 rfl
          have efig22_7476 : (ig22 7476).toInt = (i19 7476).toInt := kg22.ti 7476 rfl
          refine ko_steps mi_in184 4 _ (51, [(4, .int vg22), (0, .ref 116), (1, .int x1), (2, .int x2), (3, .int x3)], [.int (ig22 7476), .int vg22], (0, 0), ks ig22 ag22 qg22 rg22) (by rfl) ?_
          refine ko_if mi_in184 (decide ((ig22 7476) < vg22)) 55 54 ([(4, .int vg22), (0, .ref 116), (1, .int x1), (2, .int x2), (3, .int x3)], [], (0, 0), ks ig22 ag22 qg22 rg22) (by rfl) (fun c => ?_) (fun c => ?_)
          ·
            have c23 : (ig22 7476).toInt < vg22.toInt := kd_lt c; clear c
            have hJ24 := kG_i hGg22 7476 rfl (v := vg22) (kd_bd _)
            refine ko_steps mi_in184 5 _ (64, [(5, .int 0), (4, .int vg22), (0, .ref 116), (1, .int x1), (2, .int x2), (3, .int x3)], [], (0, 0), ks (ku ig22 7476 vg22) ag22 qg22 rg22) (by rfl) ?_
            have lp25 : ∀ (n : Nat) (i25 : Nat → Int32) (a25 : Nat → List Int32) (q25 : Nat → List Int64) (r25 : Nat → Nat) (l5_25 : Int32), kG w184_116_L64 (ku ig22 7476 vg22) ag22 qg22 rg22 i25 a25 q25 r25 → (0 : Int) ≤ l5_25.toInt → ((x1.toInt - l5_25.toInt)).toNat < n → ko (6 * n + 30) (mi_h184, mi_c184) P (64, [(5, .int l5_25), (4, .int vg22), (0, .ref 116), (1, .int x1), (2, .int x2), (3, .int x3)], [], (0, 0), ks i25 a25 q25 r25) := by
              intro n
              induction n with
              | zero =>
                intro _ _ _ _ _ _ _ hm
                exact absurd hm (Nat.not_lt_zero _)
              | succ n ih25 =>
                intro i25 a25 q25 r25 l5_25 hL25 p25_0 hm25
                refine ko_steps mi_in184 2 _ (67, [(5, .int l5_25), (4, .int vg22), (0, .ref 116), (1, .int x1), (2, .int x2), (3, .int x3)], [.int x1, .int l5_25], (0, 0), ks i25 a25 q25 r25) (by rfl) ?_
                refine ko_if mi_in184 (decide (x1 ≤ l5_25)) 90 70 ([(5, .int l5_25), (4, .int vg22), (0, .ref 116), (1, .int x1), (2, .int x2), (3, .int x3)], [], (0, 0), ks i25 a25 q25 r25) (by rfl) (fun c => ?_) (fun c => ?_)
                ·
                  have c26 : x1.toInt ≤ l5_25.toInt := kd_le c; clear c
                  have hG27 := kG_call hJ24 hL25 (by decide +kernel)
                  exact ko_ret mi_in184 (by rfl) (hP  _ _ _ _ hG27 trivial)
                ·
                  have c28 : l5_25.toInt < x1.toInt := kd_leF c; clear c
                  refine ko_steps mi_in184 6 _ (82, [(5, .int l5_25), (4, .int vg22), (0, .ref 116), (1, .int x1), (2, .int x2), (3, .int x3)], [.int l5_25, .ref 146, .int l5_25, .ref 147], (0, 0), ks i25 a25 q25 r25) (by rfl) ?_
                  refine ko_iald3 mi_in184 (n := 5) (c := 5) (ax := (0, 0, 0, 0, 0)) (by rfl) (by rfl) (ksG146 _ _ _ _) (hL25.I.2.1 146) rfl (oz3 p25_0) (oz670 c28 hn0 hp3 hp4) ?_
                  have r29 : ((0 : Int) ≤ ((a25 146).getD l5_25.toNatClampNeg 0).toInt) ∧ (((a25 146).getD l5_25.toNatClampNeg 0).toInt ≤ 7) := hL25.I.2.2.1 146 (l5_25.toNatClampNeg)
                  refine ko_iast3 mi_in184 (n := 5) (c := 5) (ax := (0, 0, 0, 0, 0)) (by rfl) (by rfl) (ksG147 _ _ _ _) (ksA147 _ _ _ _) (hL25.I.2.1 147) rfl (oz3 p25_0) (oz670 c28 hn0 hp3 hp4) ?_
                  intro a30 ea30 fa30
                  have hJ30 := kG_a3 hL25 147 rfl ea30 fa30 (kd_bd _)
                  have s31 : (l5_25 + 1).toInt = l5_25.toInt + (1 : Int32).toInt := kd_add (oz12 p25_0 kn1) (oz671 c28 hn0 hp3 hp4 kn1)
                  refine ko_steps mi_in184 2 _ (64, [(5, .int (l5_25 + 1)), (4, .int vg22), (0, .ref 116), (1, .int x1), (2, .int x2), (3, .int x3)], [], (0, 0), ks i25 a30 q25 r25) (by rfl) ?_
                  exact ih25 _ _ _ _ _ hJ30 (oz14 p25_0 s31 kn1) (kj_meas (oz44 s31 kn1) (oz45 c28) hm25)
            exact lp25 _ _ _ _ _ _ (kG_self _ hJ24.I hJ24.R) (oz46 kn0) (Nat.lt_succ_self _)
          ·
            have c32 : vg22.toInt ≤ (ig22 7476).toInt := kd_ltF c; clear c
            exact ko_ret mi_in184 (by rfl) (hP  _ _ _ _ hGg22 trivial)
        ·
          have c33 : l4_19.toInt < x1.toInt := kd_leF c; clear c
          refine ko_steps mi_in184 6 _ (30, [(4, .int l4_19), (0, .ref 116), (1, .int x1), (2, .int x2), (3, .int x3)], [.int l4_19, .ref 146, .int l4_19, .ref 142], (0, 0), ks i19 a19 q19 r19) (by rfl) ?_
          refine ko_iald3 mi_in184 (n := 5) (c := 5) (ax := (0, 0, 0, 0, 0)) (by rfl) (by rfl) (ksG146 _ _ _ _) (hL19.I.2.1 146) rfl (oz3 p19_0) (oz670 c33 hn0 hp3 hp4) ?_
          have r34 : ((0 : Int) ≤ ((a19 146).getD l4_19.toNatClampNeg 0).toInt) ∧ (((a19 146).getD l4_19.toNatClampNeg 0).toInt ≤ 7) := hL19.I.2.2.1 146 (l4_19.toNatClampNeg)
          refine ko_iast3 mi_in184 (n := 21) (c := 21) (ax := (0, 0, 0, 0, 0)) (by rfl) (by rfl) (ksG142 _ _ _ _) (ksA142 _ _ _ _) (hL19.I.2.1 142) rfl (oz3 p19_0) (oz672 c33 hn0 hp3 hp4) ?_
          intro a35 ea35 fa35
          have hJ35 := kG_a3 hL19 142 rfl ea35 fa35 ⟨(oz3 r34.1), (oz407 r34.2)⟩
          have s36 : (l4_19 + 1).toInt = l4_19.toInt + (1 : Int32).toInt := kd_add (oz12 p19_0 kn1) (oz671 c33 hn0 hp3 hp4 kn1)
          refine ko_steps mi_in184 2 _ (12, [(4, .int (l4_19 + 1)), (0, .ref 116), (1, .int x1), (2, .int x2), (3, .int x3)], [], (0, 0), ks i19 a35 q19 r19) (by rfl) ?_
          exact ih19 _ _ _ _ _ hJ35 (oz14 p19_0 s36 kn1) (kj_meas (oz44 s36 kn1) (oz45 c33) hm19)
    exact lp19 _ _ _ _ _ _ (kG_self _ hJ18.I hJ18.R) (oz46 kn0) (Nat.lt_succ_self _)
theorem kLallO : ∀ n : Nat, kLO_184 n
  | 0 => by
    have ih : ∀ m, 0 = m + 1 → kLO_184 m := fun m h => by omega
    have h184 := kLsO_184 0  ih
    exact h184
  | n + 1 => by
    have ih : ∀ m, n + 1 = m + 1 → kLO_184 m := fun m h => by
      have e : n = m := by omega
      subst e
      exact kLallO n
    have h184 := kLsO_184 (n + 1)  ih
    exact h184
def w168_116_140 : kW := ([], [140], [], [])
def w168_116_140_L2 : kW := ([], [140], [], [])
set_option maxRecDepth 100000 in
theorem kc168_116_140 {i : Nat → Int32} {a : Nat → List Int32} {q : Nat → List Int64} {r : Nat → Nat} (hI : kI i a q) (hr : kr r) (x2 : Int32) (hp0 : ((0 : Int) ≤ x2.toInt) ∧ (x2.toInt ≤ 124)) (hp1 : (x2.toInt % 31) = 0) : km 1 168 [.ref 116, .ref 140, .int x2] (ks i a q r) (kVN w168_116_140 i a q r (fun i1 a1 q1 r1 => True)) := by
  have hG := kG_self w168_116_140 hI hr
  refine km_ofN (q := (mi_h168, mi_c168)) rfl (by decide) (Nat.le_of_ble_eq_true rfl) ?_
  intro P hP
  refine ko_steps mi_in168 2 _ (2, [(3, .int 0), (0, .ref 116), (1, .ref 140), (2, .int x2)], [], (0, 0), ks i a q r) (by rfl) ?_
  have lp1 : ∀ (n : Nat) (i1 : Nat → Int32) (a1 : Nat → List Int32) (q1 : Nat → List Int64) (r1 : Nat → Nat) (l3_1 : Int32), kG w168_116_140_L2 i a q r i1 a1 q1 r1 → (0 : Int) ≤ l3_1.toInt → ((31 - l3_1.toInt)).toNat < n → ko 1 (mi_h168, mi_c168) P (2, [(3, .int l3_1), (0, .ref 116), (1, .ref 140), (2, .int x2)], [], (0, 0), ks i1 a1 q1 r1) := by
    intro n
    induction n with
    | zero =>
      intro _ _ _ _ _ _ _ hm
      exact absurd hm (Nat.not_lt_zero _)
    | succ n ih1 =>
      intro i1 a1 q1 r1 l3_1 hL1 p1_0 hm1
      refine ko_steps mi_in168 2 _ (5, [(3, .int l3_1), (0, .ref 116), (1, .ref 140), (2, .int x2)], [.int 31, .int l3_1], (0, 0), ks i1 a1 q1 r1) (by rfl) ?_
      refine ko_if mi_in168 (decide (31 ≤ l3_1)) 25 8 ([(3, .int l3_1), (0, .ref 116), (1, .ref 140), (2, .int x2)], [], (0, 0), ks i1 a1 q1 r1) (by rfl) (fun c => ?_) (fun c => ?_)
      ·
        have c2 : (31 : Int32).toInt ≤ l3_1.toInt := kd_le c; clear c
        have hG3 := kG_call hG hL1 (by decide +kernel)
        exact ko_ret mi_in168 (by rfl) (hP  _ _ _ _ hG3 trivial)
      ·
        have c4 : l3_1.toInt < (31 : Int32).toInt := kd_leF c; clear c
        have s5 : (x2 + l3_1).toInt = x2.toInt + l3_1.toInt := kd_add (oz675 hp0.1 p1_0) (oz676 c4 hp0.2 kn31)
        refine ko_steps mi_in168 7 _ (17, [(3, .int l3_1), (0, .ref 116), (1, .ref 140), (2, .int x2)], [.int l3_1, .ref 118, .int (x2 + l3_1), .ref 140], (0, 0), ks i1 a1 q1 r1) (by rfl) ?_
        refine ko_iald3 mi_in168 (n := 31) (c := 31) (ax := (0, 0, 0, 0, 0)) (by rfl) (by rfl) (ksG118 _ _ _ _) (hL1.I.2.1 118) rfl (oz3 p1_0) (oz228 c4 kn31) ?_
        have r6 : ((l3_1.toInt = 18 → (0 : Int) ≤ ((a1 118).getD l3_1.toNatClampNeg 0).toInt ∧ ((a1 118).getD l3_1.toNatClampNeg 0).toInt ≤ 5)) ∧ ((19 ≤ l3_1.toInt → l3_1.toInt ≤ 24 → (0 : Int) ≤ ((a1 118).getD l3_1.toNatClampNeg 0).toInt ∧ ((a1 118).getD l3_1.toNatClampNeg 0).toInt ≤ 7)) := kE_ncond (p := 118) hL1.I (by decide) (j := l3_1) (oz3 p1_0)
        have u7 : ((a1 118).getD l3_1.toNatClampNeg 0).toInt = ((a 118).getD l3_1.toNatClampNeg 0).toInt := congrArg (fun z : List Int32 => (z.getD l3_1.toNatClampNeg 0).toInt) (hL1.fa 118 rfl)
        refine ko_iast3 mi_in168 (n := 155) (c := 155) (ax := (0, 0, 0, 0, 0)) (by rfl) (by rfl) (ksG140 _ _ _ _) (ksA140 _ _ _ _) (hL1.I.2.1 140) rfl (oz677 hp0.1 p1_0 s5) (oz678 c4 hp0.2 s5 kn31) ?_
        intro a8 ea8 fa8
        have hJ8 := kG_a3 hL1 140 rfl ea8 fa8 (kE_tset (oz677 hp0.1 p1_0 s5) (by have := kn31; omega) (by have := kn31; omega))
        have s9 : (l3_1 + 1).toInt = l3_1.toInt + (1 : Int32).toInt := kd_add (oz12 p1_0 kn1) (oz233 c4 kn31 kn1)
        refine ko_steps mi_in168 2 _ (2, [(3, .int (l3_1 + 1)), (0, .ref 116), (1, .ref 140), (2, .int x2)], [], (0, 0), ks i1 a8 q1 r1) (by rfl) ?_
        exact ih1 _ _ _ _ _ hJ8 (oz14 p1_0 s9 kn1) (kj_meas (oz234 s9 kn1) (oz235 c4 kn31) hm1)
  exact lp1 _ _ _ _ _ _ (kG_self _ hG.I hG.R) (oz46 kn0) (Nat.lt_succ_self _)
def w169_116_140 : kW := ([], [118], [], [])
def w169_116_140_L2 : kW := ([], [118], [], [])
set_option maxRecDepth 100000 in
theorem kc169_116_140 {i : Nat → Int32} {a : Nat → List Int32} {q : Nat → List Int64} {r : Nat → Nat} (hI : kI i a q) (hr : kr r) (x2 : Int32) (hp0 : ((0 : Int) ≤ x2.toInt) ∧ (x2.toInt ≤ 124)) (hp1 : (x2.toInt % 31) = 0) : km 1 169 [.ref 116, .ref 140, .int x2] (ks i a q r) (kVN w169_116_140 i a q r (fun i1 a1 q1 r1 => True)) := by
  have hG := kG_self w169_116_140 hI hr
  refine km_ofN (q := (mi_h169, mi_c169)) rfl (by decide) (Nat.le_of_ble_eq_true rfl) ?_
  intro P hP
  refine ko_steps mi_in169 2 _ (2, [(3, .int 0), (0, .ref 116), (1, .ref 140), (2, .int x2)], [], (0, 0), ks i a q r) (by rfl) ?_
  have lp1 : ∀ (n : Nat) (i1 : Nat → Int32) (a1 : Nat → List Int32) (q1 : Nat → List Int64) (r1 : Nat → Nat) (l3_1 : Int32), kG w169_116_140_L2 i a q r i1 a1 q1 r1 → (0 : Int) ≤ l3_1.toInt → ((31 - l3_1.toInt)).toNat < n → ko 1 (mi_h169, mi_c169) P (2, [(3, .int l3_1), (0, .ref 116), (1, .ref 140), (2, .int x2)], [], (0, 0), ks i1 a1 q1 r1) := by
    intro n
    induction n with
    | zero =>
      intro _ _ _ _ _ _ _ hm
      exact absurd hm (Nat.not_lt_zero _)
    | succ n ih1 =>
      intro i1 a1 q1 r1 l3_1 hL1 p1_0 hm1
      refine ko_steps mi_in169 2 _ (5, [(3, .int l3_1), (0, .ref 116), (1, .ref 140), (2, .int x2)], [.int 31, .int l3_1], (0, 0), ks i1 a1 q1 r1) (by rfl) ?_
      refine ko_if mi_in169 (decide (31 ≤ l3_1)) 25 8 ([(3, .int l3_1), (0, .ref 116), (1, .ref 140), (2, .int x2)], [], (0, 0), ks i1 a1 q1 r1) (by rfl) (fun c => ?_) (fun c => ?_)
      ·
        have c2 : (31 : Int32).toInt ≤ l3_1.toInt := kd_le c; clear c
        have hG3 := kG_call hG hL1 (by decide +kernel)
        exact ko_ret mi_in169 (by rfl) (hP  _ _ _ _ hG3 trivial)
      ·
        have c4 : l3_1.toInt < (31 : Int32).toInt := kd_leF c; clear c
        have s5 : (x2 + l3_1).toInt = x2.toInt + l3_1.toInt := kd_add (oz675 hp0.1 p1_0) (oz676 c4 hp0.2 kn31)
        refine ko_steps mi_in169 7 _ (17, [(3, .int l3_1), (0, .ref 116), (1, .ref 140), (2, .int x2)], [.int (x2 + l3_1), .ref 140, .int l3_1, .ref 118], (0, 0), ks i1 a1 q1 r1) (by rfl) ?_
        refine ko_iald3 mi_in169 (n := 155) (c := 155) (ax := (0, 0, 0, 0, 0)) (by rfl) (by rfl) (ksG140 _ _ _ _) (hL1.I.2.1 140) rfl (oz677 hp0.1 p1_0 s5) (oz678 c4 hp0.2 s5 kn31) ?_
        have r6 : ((((x2 + l3_1).toInt % 31) = 18 → (0 : Int) ≤ ((a1 140).getD (x2 + l3_1).toNatClampNeg 0).toInt ∧ ((a1 140).getD (x2 + l3_1).toNatClampNeg 0).toInt ≤ 5)) ∧ ((19 ≤ ((x2 + l3_1).toInt % 31) → ((x2 + l3_1).toInt % 31) ≤ 24 → (0 : Int) ≤ ((a1 140).getD (x2 + l3_1).toNatClampNeg 0).toInt ∧ ((a1 140).getD (x2 + l3_1).toNatClampNeg 0).toInt ≤ 7)) := kE_tcond hL1.I (j := (x2 + l3_1)) (oz677 hp0.1 p1_0 s5)
        refine ko_iast3 mi_in169 (n := 31) (c := 31) (ax := (0, 0, 0, 0, 0)) (by rfl) (by rfl) (ksG118 _ _ _ _) (ksA118 _ _ _ _) (hL1.I.2.1 118) rfl (oz3 p1_0) (oz228 c4 kn31) ?_
        intro a7 ea7 fa7
        have hJ7 := kG_a3 hL1 118 rfl ea7 fa7 (kE_nset (p := 118) (by decide) (oz3 p1_0) (by have := kn31; omega) (by have := kn31; omega))
        have s8 : (l3_1 + 1).toInt = l3_1.toInt + (1 : Int32).toInt := kd_add (oz12 p1_0 kn1) (oz233 c4 kn31 kn1)
        refine ko_steps mi_in169 2 _ (2, [(3, .int (l3_1 + 1)), (0, .ref 116), (1, .ref 140), (2, .int x2)], [], (0, 0), ks i1 a7 q1 r1) (by rfl) ?_
        exact ih1 _ _ _ _ _ hJ7 (oz14 p1_0 s8 kn1) (kj_meas (oz234 s8 kn1) (oz235 c4 kn31) hm1)
  exact lp1 _ _ _ _ _ _ (kG_self _ hG.I hG.R) (oz46 kn0) (Nat.lt_succ_self _)
def wU : kW := ([7464, 7465, 7466, 7467], [118, 128, 129, 140, 141], [], [])
def kLU_198 (n : Nat) : Prop := ∀ (i : Nat → Int32) (a : Nat → List Int32) (q : Nat → List Int64) (r : Nat → Nat), kI i a q → kr r → ∀ (x1 : Int32) (x2 : Int32) (x3 : Int32) (x4 : Int32), ((0 : Int) ≤ x1.toInt) ∧ (x1.toInt ≤ x2.toInt) ∧ (x2.toInt ≤ 5) → (x2.toInt - x1.toInt) = (n : Int) → ((0 : Int) ≤ x3.toInt) ∧ (x3.toInt ≤ 7) → ((0 : Int) ≤ x4.toInt) ∧ (x4.toInt ≤ 7) → (x1.toInt + 1) ≤ x2.toInt → kCode i a → km (6 * n + 30) 198 [.ref 116, .int x1, .int x2, .int x3, .int x4] (ks i a q r) (kVI wU i a q r (fun v i1 a1 q1 r1 => True))
def kLU_199 (n : Nat) : Prop := ∀ (i : Nat → Int32) (a : Nat → List Int32) (q : Nat → List Int64) (r : Nat → Nat), kI i a q → kr r → ∀ (x1 : Int32) (x2 : Int32) (x3 : Int32) (x4 : Int32), ((0 : Int) ≤ x1.toInt) ∧ (x1.toInt ≤ x2.toInt) ∧ (x2.toInt ≤ 5) → (x2.toInt - x1.toInt) = (n : Int) → ((0 : Int) ≤ x3.toInt) ∧ (x3.toInt ≤ 7) → ((0 : Int) ≤ x4.toInt) ∧ (x4.toInt ≤ 7) → kCode i a → km (6 * n + 31) 199 [.ref 116, .int x1, .int x2, .int x3, .int x4] (ks i a q r) (kVI wU i a q r (fun v i1 a1 q1 r1 => True))
set_option maxRecDepth 100000 in
theorem kLsU_198 (n : Nat)  (ih : ∀ m, n = m + 1 → kLU_199 m ∧ kLU_198 m) : kLU_198 n := by
  intro i a q r hI hr x1 x2 x3 x4 hp0 hp1 hp2 hp3 hp4 hE_code
  have hG := kG_self wU hI hr
  refine km_ofI (q := (mi_h198, mi_c198)) rfl (by decide) (Nat.le_of_ble_eq_true rfl) ?_
  intro P hP
  have hn0 : (0 : Int) ≤ (n : Int) := Int.natCast_nonneg n
  have s1 : (31 * x1).toInt = 31 * x1.toInt := kd_cmul 31 kn31 (oz673 hp0.1) (oz674 hp0.2.2 hp4)
  refine ko_steps mi_in198 6 _ (9, [(0, .ref 116), (1, .int x1), (2, .int x2), (3, .int x3), (4, .int x4)], [.int (31 * x1), .ref 140, .ref 116], (0, 0), ks i a q r) (by rfl) ?_
  refine ko_callN mi_in198 (pc := 9) (ls := [(0, .ref 116), (1, .int x1), (2, .int x2), (3, .int x3), (4, .int x4)]) (st := [.int (31 * x1), .ref 140, .ref 116]) (h := ks i a q r) (i := (.invokevirtual 263, 3, 168, 0, 9, 0, 413)) (by rfl) (by rfl) (cy := mi_c168) rfl rfl (kc168_116_140 hG.I hG.R (31 * x1) (oz679 hp0.1 hp0.2.2 hp4 s1) (by omega)) (kj_d3 (by decide)) ?_
  intro ig2 ag2 qg2 rg2 kg2 hg2
  have hGg2 := kG_call hG kg2 (by decide +kernel)
  have s3 : (x1 - x1 / 2 * 2).toInt = (x1.toInt % 2) := kd_rem 2 kn2 (by decide) (oz3 hp0.1)
  refine ko_steps mi_in198 4 _ (16, [(0, .ref 116), (1, .int x1), (2, .int x2), (3, .int x3), (4, .int x4)], [.int (x1 - x1 / 2 * 2), .ref 116], (0, 0), ks ig2 ag2 qg2 rg2) (by rfl) ?_
  refine ko_if mi_in198 ((x1 - x1 / 2 * 2) != 0) 23 19 ([(0, .ref 116), (1, .int x1), (2, .int x2), (3, .int x3), (4, .int x4)], [.ref 116], (0, 0), ks ig2 ag2 qg2 rg2) (by rfl) (fun c => ?_) (fun c => ?_)
  ·
    have c4 : (x1 - x1 / 2 * 2).toInt ≠ (0 : Int32).toInt := kd_ne c; clear c
    refine ko_steps mi_in198 1 _ (25, [(0, .ref 116), (1, .int x1), (2, .int x2), (3, .int x3), (4, .int x4)], [.int x4, .ref 116], (0, 0), ks ig2 ag2 qg2 rg2) (by rfl) ?_
    refine ko_callI mi_in198 (pc := 25) (ls := [(0, .ref 116), (1, .int x1), (2, .int x2), (3, .int x3), (4, .int x4)]) (st := [.int x4, .ref 116]) (h := ks ig2 ag2 qg2 rg2) (i := (.invokevirtual 260, 3, 166, 0, 9, 0, 415)) (by rfl) (by rfl) (cy := mi_c166) rfl rfl (kc166_116 hGg2.I hGg2.R x4 (oz181 hp3.1 hp3.2) (kCode_of (i1 := ig2) hE_code (hGg2.fi 7432 rfl) (hGg2.fa 120 rfl) (hGg2.fa 121 rfl) (hGg2.fa 122 rfl) (hGg2.fa 123 rfl))) (kj_d3 (by decide)) ?_
    intro vg5 ig5 ag5 qg5 rg5 kg5 hg5
    have hGg5 := kG_call hGg2 kg5 (by decide +kernel)
    rcases hg5 with ⟨eg5, hg5⟩ | ⟨eg5, hg5⟩
    ·
      subst eg5
      have s6 : (x1 + 1).toInt = x1.toInt + (1 : Int32).toInt := kd_add (oz12 hp0.1 kn1) (oz680 hp0.2.2 hp4 kn1)
      refine ko_steps mi_in198 8 _ (37, [(0, .ref 116), (1, .int x1), (2, .int x2), (3, .int x3), (4, .int x4)], [.int x4, .int x3, .int x2, .int (x1 + 1), .ref 116], (0, 0), ks ig5 ag5 qg5 rg5) (by rfl) ?_
      obtain ⟨m, hm, hmI⟩ := kj_pred (oz681 hp1 hp4)
      refine ko_callI mi_in198 (pc := 37) (ls := [(0, .ref 116), (1, .int x1), (2, .int x2), (3, .int x3), (4, .int x4)]) (st := [.int x4, .int x3, .int x2, .int (x1 + 1), .ref 116]) (h := ks ig5 ag5 qg5 rg5) (i := (.invokevirtual 333, 3, 199, 0, 9, 0, 451)) (by rfl) (by rfl) (cy := mi_c199) rfl rfl ((ih m hm).1 _ _ _ _ hGg5.I hGg5.R (x1 + 1) x2 x3 x4 (oz682 hp0.1 hp0.2.2 hp4 s6 kn1) (oz683 hmI hp1 s6 kn1) (oz181 hp2.1 hp2.2) (oz181 hp3.1 hp3.2) (kCode_of (i1 := ig5) hE_code (hGg5.fi 7432 rfl) (hGg5.fa 120 rfl) (hGg5.fa 121 rfl) (hGg5.fa 122 rfl) (hGg5.fa 123 rfl))) (kj_d2 hm (by decide)) ?_
      intro vg7 ig7 ag7 qg7 rg7 kg7 hg7
      have hGg7 := kG_call hGg5 kg7 (by decide +kernel)
      refine ko_steps mi_in198 7 _ (51, [(5, .int vg7), (0, .ref 116), (1, .int x1), (2, .int x2), (3, .int x3), (4, .int x4)], [.int (31 * x1), .ref 140, .ref 116], (0, 0), ks ig7 ag7 qg7 rg7) (by rfl) ?_
      refine ko_callN mi_in198 (pc := 51) (ls := [(5, .int vg7), (0, .ref 116), (1, .int x1), (2, .int x2), (3, .int x3), (4, .int x4)]) (st := [.int (31 * x1), .ref 140, .ref 116]) (h := ks ig7 ag7 qg7 rg7) (i := (.invokevirtual 273, 3, 169, 0, 9, 0, 423)) (by rfl) (by rfl) (cy := mi_c169) rfl rfl (kc169_116_140 hGg7.I hGg7.R (31 * x1) (oz679 hp0.1 hp0.2.2 hp4 s1) (by have := kn0; have := kn1; omega)) (kj_d3 (by decide)) ?_
      intro ig8 ag8 qg8 rg8 kg8 hg8
      have hGg8 := kG_call hGg7 kg8 (by decide +kernel)
      refine ko_steps mi_in198 1 _ (56, [(5, .int vg7), (0, .ref 116), (1, .int x1), (2, .int x2), (3, .int x3), (4, .int x4)], [.int vg7], (0, 0), ks ig8 ag8 qg8 rg8) (by rfl) ?_
      exact ko_ret mi_in198 (by rfl) (hP vg7 _ _ _ _ hGg8 trivial)
    ·
      subst eg5
      have s9 : (x1 + 1).toInt = x1.toInt + (1 : Int32).toInt := kd_add (oz12 hp0.1 kn1) (oz680 hp0.2.2 hp4 kn1)
      refine ko_steps mi_in198 8 _ (37, [(0, .ref 116), (1, .int x1), (2, .int x2), (3, .int x3), (4, .int x4)], [.int x4, .int x3, .int x2, .int (x1 + 1), .ref 116], (0, 0), ks ig5 ag5 qg5 rg5) (by rfl) ?_
      obtain ⟨m, hm, hmI⟩ := kj_pred (oz681 hp1 hp4)
      refine ko_callI mi_in198 (pc := 37) (ls := [(0, .ref 116), (1, .int x1), (2, .int x2), (3, .int x3), (4, .int x4)]) (st := [.int x4, .int x3, .int x2, .int (x1 + 1), .ref 116]) (h := ks ig5 ag5 qg5 rg5) (i := (.invokevirtual 333, 3, 199, 0, 9, 0, 451)) (by rfl) (by rfl) (cy := mi_c199) rfl rfl ((ih m hm).1 _ _ _ _ hGg5.I hGg5.R (x1 + 1) x2 x3 x4 (oz682 hp0.1 hp0.2.2 hp4 s9 kn1) (oz683 hmI hp1 s9 kn1) (oz181 hp2.1 hp2.2) (oz181 hp3.1 hp3.2) (kCode_of (i1 := ig5) hE_code (hGg5.fi 7432 rfl) (hGg5.fa 120 rfl) (hGg5.fa 121 rfl) (hGg5.fa 122 rfl) (hGg5.fa 123 rfl))) (kj_d2 hm (by decide)) ?_
      intro vg10 ig10 ag10 qg10 rg10 kg10 hg10
      have hGg10 := kG_call hGg5 kg10 (by decide +kernel)
      refine ko_steps mi_in198 7 _ (51, [(5, .int vg10), (0, .ref 116), (1, .int x1), (2, .int x2), (3, .int x3), (4, .int x4)], [.int (31 * x1), .ref 140, .ref 116], (0, 0), ks ig10 ag10 qg10 rg10) (by rfl) ?_
      refine ko_callN mi_in198 (pc := 51) (ls := [(5, .int vg10), (0, .ref 116), (1, .int x1), (2, .int x2), (3, .int x3), (4, .int x4)]) (st := [.int (31 * x1), .ref 140, .ref 116]) (h := ks ig10 ag10 qg10 rg10) (i := (.invokevirtual 273, 3, 169, 0, 9, 0, 423)) (by rfl) (by rfl) (cy := mi_c169) rfl rfl (kc169_116_140 hGg10.I hGg10.R (31 * x1) (oz679 hp0.1 hp0.2.2 hp4 s1) (by have := kn0; have := kn1; omega)) (kj_d3 (by decide)) ?_
      intro ig11 ag11 qg11 rg11 kg11 hg11
      have hGg11 := kG_call hGg10 kg11 (by decide +kernel)
      refine ko_steps mi_in198 1 _ (56, [(5, .int vg10), (0, .ref 116), (1, .int x1), (2, .int x2), (3, .int x3), (4, .int x4)], [.int vg10], (0, 0), ks ig11 ag11 qg11 rg11) (by rfl) ?_
      exact ko_ret mi_in198 (by rfl) (hP vg10 _ _ _ _ hGg11 trivial)
  ·
    have c12 : (x1 - x1 / 2 * 2).toInt = (0 : Int32).toInt := kd_neF c; clear c
    refine ko_steps mi_in198 2 _ (25, [(0, .ref 116), (1, .int x1), (2, .int x2), (3, .int x3), (4, .int x4)], [.int x3, .ref 116], (0, 0), ks ig2 ag2 qg2 rg2) (by rfl) ?_
    refine ko_callI mi_in198 (pc := 25) (ls := [(0, .ref 116), (1, .int x1), (2, .int x2), (3, .int x3), (4, .int x4)]) (st := [.int x3, .ref 116]) (h := ks ig2 ag2 qg2 rg2) (i := (.invokevirtual 260, 3, 166, 0, 9, 0, 415)) (by rfl) (by rfl) (cy := mi_c166) rfl rfl (kc166_116 hGg2.I hGg2.R x3 (oz181 hp2.1 hp2.2) (kCode_of (i1 := ig2) hE_code (hGg2.fi 7432 rfl) (hGg2.fa 120 rfl) (hGg2.fa 121 rfl) (hGg2.fa 122 rfl) (hGg2.fa 123 rfl))) (kj_d3 (by decide)) ?_
    intro vg13 ig13 ag13 qg13 rg13 kg13 hg13
    have hGg13 := kG_call hGg2 kg13 (by decide +kernel)
    rcases hg13 with ⟨eg13, hg13⟩ | ⟨eg13, hg13⟩
    ·
      subst eg13
      have s14 : (x1 + 1).toInt = x1.toInt + (1 : Int32).toInt := kd_add (oz12 hp0.1 kn1) (oz680 hp0.2.2 hp4 kn1)
      refine ko_steps mi_in198 8 _ (37, [(0, .ref 116), (1, .int x1), (2, .int x2), (3, .int x3), (4, .int x4)], [.int x4, .int x3, .int x2, .int (x1 + 1), .ref 116], (0, 0), ks ig13 ag13 qg13 rg13) (by rfl) ?_
      obtain ⟨m, hm, hmI⟩ := kj_pred (oz681 hp1 hp4)
      refine ko_callI mi_in198 (pc := 37) (ls := [(0, .ref 116), (1, .int x1), (2, .int x2), (3, .int x3), (4, .int x4)]) (st := [.int x4, .int x3, .int x2, .int (x1 + 1), .ref 116]) (h := ks ig13 ag13 qg13 rg13) (i := (.invokevirtual 333, 3, 199, 0, 9, 0, 451)) (by rfl) (by rfl) (cy := mi_c199) rfl rfl ((ih m hm).1 _ _ _ _ hGg13.I hGg13.R (x1 + 1) x2 x3 x4 (oz682 hp0.1 hp0.2.2 hp4 s14 kn1) (oz683 hmI hp1 s14 kn1) (oz181 hp2.1 hp2.2) (oz181 hp3.1 hp3.2) (kCode_of (i1 := ig13) hE_code (hGg13.fi 7432 rfl) (hGg13.fa 120 rfl) (hGg13.fa 121 rfl) (hGg13.fa 122 rfl) (hGg13.fa 123 rfl))) (kj_d2 hm (by decide)) ?_
      intro vg15 ig15 ag15 qg15 rg15 kg15 hg15
      have hGg15 := kG_call hGg13 kg15 (by decide +kernel)
      refine ko_steps mi_in198 7 _ (51, [(5, .int vg15), (0, .ref 116), (1, .int x1), (2, .int x2), (3, .int x3), (4, .int x4)], [.int (31 * x1), .ref 140, .ref 116], (0, 0), ks ig15 ag15 qg15 rg15) (by rfl) ?_
      refine ko_callN mi_in198 (pc := 51) (ls := [(5, .int vg15), (0, .ref 116), (1, .int x1), (2, .int x2), (3, .int x3), (4, .int x4)]) (st := [.int (31 * x1), .ref 140, .ref 116]) (h := ks ig15 ag15 qg15 rg15) (i := (.invokevirtual 273, 3, 169, 0, 9, 0, 423)) (by rfl) (by rfl) (cy := mi_c169) rfl rfl (kc169_116_140 hGg15.I hGg15.R (31 * x1) (oz679 hp0.1 hp0.2.2 hp4 s1) (by have := kn0; have := kn1; omega)) (kj_d3 (by decide)) ?_
      intro ig16 ag16 qg16 rg16 kg16 hg16
      have hGg16 := kG_call hGg15 kg16 (by decide +kernel)
      refine ko_steps mi_in198 1 _ (56, [(5, .int vg15), (0, .ref 116), (1, .int x1), (2, .int x2), (3, .int x3), (4, .int x4)], [.int vg15], (0, 0), ks ig16 ag16 qg16 rg16) (by rfl) ?_
      exact ko_ret mi_in198 (by rfl) (hP vg15 _ _ _ _ hGg16 trivial)
    ·
      subst eg13
      have s17 : (x1 + 1).toInt = x1.toInt + (1 : Int32).toInt := kd_add (oz12 hp0.1 kn1) (oz680 hp0.2.2 hp4 kn1)
      refine ko_steps mi_in198 8 _ (37, [(0, .ref 116), (1, .int x1), (2, .int x2), (3, .int x3), (4, .int x4)], [.int x4, .int x3, .int x2, .int (x1 + 1), .ref 116], (0, 0), ks ig13 ag13 qg13 rg13) (by rfl) ?_
      obtain ⟨m, hm, hmI⟩ := kj_pred (oz681 hp1 hp4)
      refine ko_callI mi_in198 (pc := 37) (ls := [(0, .ref 116), (1, .int x1), (2, .int x2), (3, .int x3), (4, .int x4)]) (st := [.int x4, .int x3, .int x2, .int (x1 + 1), .ref 116]) (h := ks ig13 ag13 qg13 rg13) (i := (.invokevirtual 333, 3, 199, 0, 9, 0, 451)) (by rfl) (by rfl) (cy := mi_c199) rfl rfl ((ih m hm).1 _ _ _ _ hGg13.I hGg13.R (x1 + 1) x2 x3 x4 (oz682 hp0.1 hp0.2.2 hp4 s17 kn1) (oz683 hmI hp1 s17 kn1) (oz181 hp2.1 hp2.2) (oz181 hp3.1 hp3.2) (kCode_of (i1 := ig13) hE_code (hGg13.fi 7432 rfl) (hGg13.fa 120 rfl) (hGg13.fa 121 rfl) (hGg13.fa 122 rfl) (hGg13.fa 123 rfl))) (kj_d2 hm (by decide)) ?_
      intro vg18 ig18 ag18 qg18 rg18 kg18 hg18
      have hGg18 := kG_call hGg13 kg18 (by decide +kernel)
      refine ko_steps mi_in198 7 _ (51, [(5, .int vg18), (0, .ref 116), (1, .int x1), (2, .int x2), (3, .int x3), (4, .int x4)], [.int (31 * x1), .ref 140, .ref 116], (0, 0), ks ig18 ag18 qg18 rg18) (by rfl) ?_
      refine ko_callN mi_in198 (pc := 51) (ls := [(5, .int vg18), (0, .ref 116), (1, .int x1), (2, .int x2), (3, .int x3), (4, .int x4)]) (st := [.int (31 * x1), .ref 140, .ref 116]) (h := ks ig18 ag18 qg18 rg18) (i := (.invokevirtual 273, 3, 169, 0, 9, 0, 423)) (by rfl) (by rfl) (cy := mi_c169) rfl rfl (kc169_116_140 hGg18.I hGg18.R (31 * x1) (oz679 hp0.1 hp0.2.2 hp4 s1) (by have := kn0; have := kn1; omega)) (kj_d3 (by decide)) ?_
      intro ig19 ag19 qg19 rg19 kg19 hg19
      have hGg19 := kG_call hGg18 kg19 (by decide +kernel)
      refine ko_steps mi_in198 1 _ (56, [(5, .int vg18), (0, .ref 116), (1, .int x1), (2, .int x2), (3, .int x3), (4, .int x4)], [.int vg18], (0, 0), ks ig19 ag19 qg19 rg19) (by rfl) ?_
      exact ko_ret mi_in198 (by rfl) (hP vg18 _ _ _ _ hGg19 trivial)
set_option maxRecDepth 100000 in
theorem kLsU_199 (n : Nat) (h198 : kLU_198 n) (ih : ∀ m, n = m + 1 → kLU_199 m ∧ kLU_198 m) : kLU_199 n := by
  intro i a q r hI hr x1 x2 x3 x4 hp0 hp1 hp2 hp3 hE_code
  have hG := kG_self wU hI hr
  refine km_ofI (q := (mi_h199, mi_c199)) rfl (by decide) (Nat.le_of_ble_eq_true rfl) ?_
  intro P hP
  have hn0 : (0 : Int) ≤ (n : Int) := Int.natCast_nonneg n
  refine ko_steps mi_in199 2 _ (2, [(0, .ref 116), (1, .int x1), (2, .int x2), (3, .int x3), (4, .int x4)], [.int x2, .int x1], (0, 0), ks i a q r) (by rfl) ?_
  refine ko_if mi_in199 (x1 != x2) 20 5 ([(0, .ref 116), (1, .int x1), (2, .int x2), (3, .int x3), (4, .int x4)], [], (0, 0), ks i a q r) (by rfl) (fun c => ?_) (fun c => ?_)
  ·
    have c1 : x1.toInt ≠ x2.toInt := kd_ne c; clear c
    have s2 : (x1 + 1).toInt = x1.toInt + (1 : Int32).toInt := kd_add (oz12 hp0.1 kn1) (oz684 hp0.2.1 hp0.2.2 kn1)
    refine ko_steps mi_in199 7 _ (28, [(0, .ref 116), (1, .int x1), (2, .int x2), (3, .int x3), (4, .int x4)], [.int x4, .int x3, .int x2, .int (x1 + 1), .ref 116], (0, 0), ks i a q r) (by rfl) ?_
    obtain ⟨m, hm, hmI⟩ := kj_pred (oz685 c1 hn0 hp1)
    refine ko_callI mi_in199 (pc := 28) (ls := [(0, .ref 116), (1, .int x1), (2, .int x2), (3, .int x3), (4, .int x4)]) (st := [.int x4, .int x3, .int x2, .int (x1 + 1), .ref 116]) (h := ks i a q r) (i := (.invokevirtual 333, 3, 199, 0, 9, 0, 451)) (by rfl) (by rfl) (cy := mi_c199) rfl rfl ((ih m hm).1 _ _ _ _ hG.I hG.R (x1 + 1) x2 x3 x4 (oz686 c1 hp0.1 hp0.2.1 hp0.2.2 s2 kn1) (oz683 hmI hp1 s2 kn1) (oz181 hp2.1 hp2.2) (oz181 hp3.1 hp3.2) (kCode_of (i1 := i) hE_code (hG.fi 7432 rfl) (hG.fa 120 rfl) (hG.fa 121 rfl) (hG.fa 122 rfl) (hG.fa 123 rfl))) (kj_d2 hm (by decide)) ?_
    intro vg3 ig3 ag3 qg3 rg3 kg3 hg3
    have hGg3 := kG_call hG kg3 (by decide +kernel)
    refine ko_steps mi_in199 6 _ (39, [(5, .int vg3), (0, .ref 116), (1, .int x1), (2, .int x2), (3, .int x3), (4, .int x4)], [.int x4, .int x3, .int x2, .int x1, .ref 116], (0, 0), ks ig3 ag3 qg3 rg3) (by rfl) ?_
    refine ko_callI mi_in199 (pc := 39) (ls := [(5, .int vg3), (0, .ref 116), (1, .int x1), (2, .int x2), (3, .int x3), (4, .int x4)]) (st := [.int x4, .int x3, .int x2, .int x1, .ref 116]) (h := ks ig3 ag3 qg3 rg3) (i := (.invokevirtual 337, 3, 198, 0, 9, 0, 452)) (by rfl) (by rfl) (cy := mi_c198) rfl rfl (h198 _ _ _ _ hGg3.I hGg3.R x1 x2 x3 x4 (oz687 hp0.1 hp0.2.1 hp0.2.2) (oz688 hp1) (oz181 hp2.1 hp2.2) (oz181 hp3.1 hp3.2) (oz689 c1 hp0.2.1) (kCode_of (i1 := ig3) hE_code (hGg3.fi 7432 rfl) (hGg3.fa 120 rfl) (hGg3.fa 121 rfl) (hGg3.fa 122 rfl) (hGg3.fa 123 rfl))) (kj_d1 (by decide)) ?_
    intro vg4 ig4 ag4 qg4 rg4 kg4 hg4
    have hGg4 := kG_call hGg3 kg4 (by decide +kernel)
    have s5 : (x1 - x1 / 2 * 2).toInt = (x1.toInt % 2) := kd_rem 2 kn2 (by decide) (oz3 hp0.1)
    refine ko_steps mi_in199 4 _ (47, [(6, .int vg4), (5, .int vg3), (0, .ref 116), (1, .int x1), (2, .int x2), (3, .int x3), (4, .int x4)], [.int (x1 - x1 / 2 * 2)], (0, 0), ks ig4 ag4 qg4 rg4) (by rfl) ?_
    refine ko_if mi_in199 ((x1 - x1 / 2 * 2) != 0) 60 50 ([(6, .int vg4), (5, .int vg3), (0, .ref 116), (1, .int x1), (2, .int x2), (3, .int x3), (4, .int x4)], [], (0, 0), ks ig4 ag4 qg4 rg4) (by rfl) (fun c => ?_) (fun c => ?_)
    ·
      have c6 : (x1 - x1 / 2 * 2).toInt ≠ (0 : Int32).toInt := kd_ne c; clear c
      refine ko_steps mi_in199 2 _ (64, [(6, .int vg4), (5, .int vg3), (0, .ref 116), (1, .int x1), (2, .int x2), (3, .int x3), (4, .int x4)], [.int vg4, .int vg3], (0, 0), ks ig4 ag4 qg4 rg4) (by rfl) ?_
      have m8 : (((bif decide (vg4 < vg3) then vg4 else vg3).toInt ≤ vg3.toInt) ∧ ((bif decide (vg4 < vg3) then vg4 else vg3).toInt ≤ vg4.toInt)) ∧ ((bif decide (vg4 < vg3) then vg4 else vg3).toInt = vg3.toInt ∨ (bif decide (vg4 < vg3) then vg4 else vg3).toInt = vg4.toInt) := kd_min
      refine ko_steps mi_in199 1 _ (67, [(6, .int vg4), (5, .int vg3), (0, .ref 116), (1, .int x1), (2, .int x2), (3, .int x3), (4, .int x4)], [.int (bif decide (vg4 < vg3) then vg4 else vg3)], (0, 0), ks ig4 ag4 qg4 rg4) (by rfl) ?_
      generalize (bif decide (vg4 < vg3) then vg4 else vg3) = m7 at m8 ⊢
      exact ko_ret mi_in199 (by rfl) (hP m7 _ _ _ _ hGg4 trivial)
    ·
      have c9 : (x1 - x1 / 2 * 2).toInt = (0 : Int32).toInt := kd_neF c; clear c
      refine ko_steps mi_in199 2 _ (54, [(6, .int vg4), (5, .int vg3), (0, .ref 116), (1, .int x1), (2, .int x2), (3, .int x3), (4, .int x4)], [.int vg4, .int vg3], (0, 0), ks ig4 ag4 qg4 rg4) (by rfl) ?_
      have m11 : ((vg3.toInt ≤ (bif decide (vg3 < vg4) then vg4 else vg3).toInt) ∧ (vg4.toInt ≤ (bif decide (vg3 < vg4) then vg4 else vg3).toInt)) ∧ ((bif decide (vg3 < vg4) then vg4 else vg3).toInt = vg3.toInt ∨ (bif decide (vg3 < vg4) then vg4 else vg3).toInt = vg4.toInt) := kd_max
      refine ko_steps mi_in199 1 _ (57, [(6, .int vg4), (5, .int vg3), (0, .ref 116), (1, .int x1), (2, .int x2), (3, .int x3), (4, .int x4)], [.int (bif decide (vg3 < vg4) then vg4 else vg3)], (0, 0), ks ig4 ag4 qg4 rg4) (by rfl) ?_
      generalize (bif decide (vg3 < vg4) then vg4 else vg3) = m10 at m11 ⊢
      refine ko_steps mi_in199 1 _ (67, [(6, .int vg4), (5, .int vg3), (0, .ref 116), (1, .int x1), (2, .int x2), (3, .int x3), (4, .int x4)], [.int m10], (0, 0), ks ig4 ag4 qg4 rg4) (by rfl) ?_
      exact ko_ret mi_in199 (by rfl) (hP m10 _ _ _ _ hGg4 trivial)
  ·
    have c12 : x1.toInt = x2.toInt := kd_neF c; clear c
    refine ko_steps mi_in199 3 _ (10, [(0, .ref 116), (1, .int x1), (2, .int x2), (3, .int x3), (4, .int x4)], [.int x3, .ref 118], (0, 0), ks i a q r) (by rfl) ?_
    refine ko_iald3 mi_in199 (n := 31) (c := 31) (ax := (0, 0, 0, 0, 0)) (by rfl) (by rfl) (ksG118 _ _ _ _) (hG.I.2.1 118) rfl (oz3 hp2.1) (oz65 hp2.2) ?_
    have r13 : ((x3.toInt = 18 → (0 : Int) ≤ ((a 118).getD x3.toNatClampNeg 0).toInt ∧ ((a 118).getD x3.toNatClampNeg 0).toInt ≤ 5)) ∧ ((19 ≤ x3.toInt → x3.toInt ≤ 24 → (0 : Int) ≤ ((a 118).getD x3.toNatClampNeg 0).toInt ∧ ((a 118).getD x3.toNatClampNeg 0).toInt ≤ 7)) := kE_ncond (p := 118) hG.I (by decide) (j := x3) (oz3 hp2.1)
    refine ko_steps mi_in199 3 _ (17, [(0, .ref 116), (1, .int x1), (2, .int x2), (3, .int x3), (4, .int x4)], [.int x4, .ref 118, .int ((a 118).getD x3.toNatClampNeg 0)], (0, 0), ks i a q r) (by rfl) ?_
    refine ko_iald3 mi_in199 (n := 31) (c := 31) (ax := (0, 0, 0, 0, 0)) (by rfl) (by rfl) (ksG118 _ _ _ _) (hG.I.2.1 118) rfl (oz3 hp3.1) (oz65 hp3.2) ?_
    have r14 : ((x4.toInt = 18 → (0 : Int) ≤ ((a 118).getD x4.toNatClampNeg 0).toInt ∧ ((a 118).getD x4.toNatClampNeg 0).toInt ≤ 5)) ∧ ((19 ≤ x4.toInt → x4.toInt ≤ 24 → (0 : Int) ≤ ((a 118).getD x4.toNatClampNeg 0).toInt ∧ ((a 118).getD x4.toNatClampNeg 0).toInt ≤ 7)) := kE_ncond (p := 118) hG.I (by decide) (j := x4) (oz3 hp3.1)
    have b15 : ((-2147483648 : Int) ≤ ((a 118).getD x3.toNatClampNeg 0).toInt) ∧ (((a 118).getD x3.toNatClampNeg 0).toInt ≤ 2147483647) := kd_bd ((a 118).getD x3.toNatClampNeg 0)
    have b16 : ((-2147483648 : Int) ≤ ((a 118).getD x4.toNatClampNeg 0).toInt) ∧ (((a 118).getD x4.toNatClampNeg 0).toInt ≤ 2147483647) := kd_bd ((a 118).getD x4.toNatClampNeg 0)
    refine ko_steps mi_in199 1 _ (19, [(0, .ref 116), (1, .int x1), (2, .int x2), (3, .int x3), (4, .int x4)], [.int (((a 118).getD x3.toNatClampNeg 0) - ((a 118).getD x4.toNatClampNeg 0))], (0, 0), ks i a q r) (by rfl) ?_
    exact ko_ret mi_in199 (by rfl) (hP (((a 118).getD x3.toNatClampNeg 0) - ((a 118).getD x4.toNatClampNeg 0)) _ _ _ _ hG trivial)
theorem kLallU : ∀ n : Nat, kLU_199 n ∧ kLU_198 n
  | 0 => by
    have ih : ∀ m, 0 = m + 1 → kLU_199 m ∧ kLU_198 m := fun m h => by omega
    have h198 := kLsU_198 0  ih
    have h199 := kLsU_199 0 h198 ih
    exact ⟨h199, h198⟩
  | n + 1 => by
    have ih : ∀ m, n + 1 = m + 1 → kLU_199 m ∧ kLU_198 m := fun m h => by
      have e : n = m := by omega
      subst e
      exact kLallU n
    have h198 := kLsU_198 (n + 1)  ih
    have h199 := kLsU_199 (n + 1) h198 ih
    exact ⟨h199, h198⟩
set_option maxRecDepth 100000 in
theorem kc226 {i : Nat → Int32} {a : Nat → List Int32} {q : Nat → List Int64} {r : Nat → Nat} (hI : kI i a q) (hr : kr r) (x1 : Int32) : km 1 226 [.int x1] (ks i a q r) (kPI (ks i a q r) (fun v => v.toInt = (kbc x1).toInt)) := by
  refine km_ofPI (q := (mi_h226, mi_c226)) rfl (by decide) (Nat.le_of_ble_eq_true rfl) ?_
  intro P hP
  refine ko_steps mi_in226 8 _ (10, [(0, .int (kb1 x1))], [], (0, 0), ks i a q r) (by rfl) ?_
  refine ko_steps mi_in226 9 _ (24, [(0, .int (kb2 (kb1 x1)))], [], (0, 0), ks i a q r) (by rfl) ?_
  refine ko_steps mi_in226 8 _ (34, [(0, .int (kb3 (kb2 (kb1 x1))))], [], (0, 0), ks i a q r) (by rfl) ?_
  refine ko_steps mi_in226 6 _ (41, [(0, .int (kb4 (kb3 (kb2 (kb1 x1)))))], [], (0, 0), ks i a q r) (by rfl) ?_
  refine ko_steps mi_in226 6 _ (48, [(0, .int (kb5 (kb4 (kb3 (kb2 (kb1 x1))))))], [], (0, 0), ks i a q r) (by rfl) ?_
  refine ko_steps mi_in226 3 _ (52, [(0, .int (kb5 (kb4 (kb3 (kb2 (kb1 x1))))))], [.int (kbc x1)], (0, 0), ks i a q r) (by rfl) ?_
  exact ko_ret mi_in226 (by rfl) (hP (kbc x1) rfl)
def w185_116 : kW := ([7464, 7465, 7466, 7467, 7469, 7476], [118, 128, 129, 139, 141, 142, 143, 144, 145, 146, 147], [], [])
set_option maxRecDepth 100000 in
theorem kc185_116 {i : Nat → Int32} {a : Nat → List Int32} {q : Nat → List Int64} {r : Nat → Nat} (hI : kI i a q) (hr : kr r) (x1 : Int32) (x2 : Int32) (x3 : Int32) (hE_code : kCode i a) : km 63 185 [.ref 116, .int x1, .int x2, .int x3] (ks i a q r) (kVI w185_116 i a q r (fun v i1 a1 q1 r1 => True)) := by
  have hG := kG_self w185_116 hI hr
  refine km_ofI (q := (mi_h185, mi_c185)) rfl (by decide) (Nat.le_of_ble_eq_true rfl) ?_
  intro P hP
  have fi_7424 : ((0 : Int) ≤ (i 7424).toInt) ∧ ((i 7424).toInt ≤ 8) := hG.I.1 7424
  have s1 : ((1 : Int) ≤ (1 <<< ((i 7424) &&& 31)).toInt) ∧ ((1 <<< ((i 7424) &&& 31)).toInt ≤ 256) := kd_shl1 (oz3 fi_7424.1) (oz559 fi_7424.2)
  have s2 : ((1 <<< ((i 7424) &&& 31)) - 1).toInt = (1 <<< ((i 7424) &&& 31)).toInt - (1 : Int32).toInt := kd_sub (oz341 s1.1 kn1) (oz690 s1.2 kn1)
  refine ko_steps mi_in185 8 _ (10, [(0, .ref 116), (1, .int x1), (2, .int x2), (3, .int x3)], [.int ((1 <<< ((i 7424) &&& 31)) - 1), .int 0, .int x1], (0, 0), ks i a q r) (by rfl) ?_
  refine ko_callPI mi_in185 (pc := 10) (ls := [(0, .ref 116), (1, .int x1), (2, .int x2), (3, .int x3)]) (st := [.int ((1 <<< ((i 7424) &&& 31)) - 1), .int 0, .int x1]) (h := ks i a q r) (i := (.invokestatic 119, 3, 131, 0, 9, 0, 379)) (by rfl) (by rfl) (cy := mi_c131) rfl rfl (kc131 hG.I hG.R x1 0 ((1 <<< ((i 7424) &&& 31)) - 1)) (by decide) ?_
  intro vg3 hg3
  rcases hg3 with ⟨eg3, hg3⟩ | ⟨eg3, hg3⟩
  ·
    subst eg3
    have z4 : ((0 : Int32).toInt ≤ x1.toInt) ∧ (x1.toInt ≤ ((1 <<< ((i 7424) &&& 31)) - 1).toInt) := hg3
    refine ko_steps mi_in185 3 _ (18, [(0, .ref 116), (1, .int x1), (2, .int x2), (3, .int x3)], [.int x2, .ref 116], (0, 0), ks i a q r) (by rfl) ?_
    refine ko_callPI mi_in185 (pc := 18) (ls := [(0, .ref 116), (1, .int x1), (2, .int x2), (3, .int x3)]) (st := [.int x2, .ref 116]) (h := ks i a q r) (i := (.invokevirtual 137, 3, 132, 0, 9, 0, 387)) (by rfl) (by rfl) (cy := mi_c132) rfl rfl (kc132_116 hG.I hG.R x2) (by decide) ?_
    intro vg5 hg5
    rcases hg5 with ⟨eg5, hg5⟩ | ⟨eg5, hg5⟩
    ·
      subst eg5
      have z6 : ((0 : Int) ≤ x2.toInt) ∧ (x2.toInt < (i 7424).toInt) := hg5
      refine ko_steps mi_in185 3 _ (26, [(0, .ref 116), (1, .int x1), (2, .int x2), (3, .int x3)], [.int (-1), .int x3], (0, 0), ks i a q r) (by rfl) ?_
      refine ko_if mi_in185 (decide ((-1) ≤ x3)) 31 29 ([(0, .ref 116), (1, .int x1), (2, .int x2), (3, .int x3)], [], (0, 0), ks i a q r) (by rfl) (fun c => ?_) (fun c => ?_)
      ·
        have c7 : ((-1) : Int32).toInt ≤ x3.toInt := kd_le c; clear c
        have kb8 : (0 : Int) ≤ (kbc x1).toInt := kbc_nn (oz389 z4.1 kn0) (oz691 s1.2 s2 z4.2 kn1)
        refine ko_steps mi_in185 1 _ (32, [(0, .ref 116), (1, .int x1), (2, .int x2), (3, .int x3)], [.int x1], (0, 0), ks i a q r) (by rfl) ?_
        refine ko_callPI mi_in185 (pc := 32) (ls := [(0, .ref 116), (1, .int x1), (2, .int x2), (3, .int x3)]) (st := [.int x1]) (h := ks i a q r) (i := (.invokestatic 303, 3, 226, 0, 9, 0, 435)) (by rfl) (by rfl) (cy := mi_c226) rfl rfl (kc226 hG.I hG.R x1) (by decide) ?_
        intro vg9 hg9
        have z10 : vg9.toInt = (kbc x1).toInt := hg9
        refine ko_steps mi_in185 1 _ (36, [(0, .ref 116), (1, .int x1), (2, .int x2), (3, .int x3)], [.int 5, .int vg9], (0, 0), ks i a q r) (by rfl) ?_
        refine ko_if mi_in185 (decide (vg9 ≤ 5)) 42 39 ([(0, .ref 116), (1, .int x1), (2, .int x2), (3, .int x3)], [], (0, 0), ks i a q r) (by rfl) (fun c => ?_) (fun c => ?_)
        ·
          have c11 : vg9.toInt ≤ (5 : Int32).toInt := kd_le c; clear c
          refine ko_steps mi_in185 2 _ (44, [(0, .ref 116), (1, .int x1), (2, .int x2), (3, .int x3)], [.int x1, .int x3], (0, 0), ks i a q r) (by rfl) ?_
          refine ko_callPI mi_in185 (pc := 44) (ls := [(0, .ref 116), (1, .int x1), (2, .int x2), (3, .int x3)]) (st := [.int x1, .int x3]) (h := ks i a q r) (i := (.invokestatic 303, 3, 226, 0, 9, 0, 435)) (by rfl) (by rfl) (cy := mi_c226) rfl rfl (kc226 hG.I hG.R x1) (by decide) ?_
          intro vg12 hg12
          have z13 : vg12.toInt = (kbc x1).toInt := hg12
          refine ko_if mi_in185 (decide (x3 < vg12)) 53 50 ([(0, .ref 116), (1, .int x1), (2, .int x2), (3, .int x3)], [], (0, 0), ks i a q r) (by rfl) (fun c => ?_) (fun c => ?_)
          ·
            have c14 : x3.toInt < vg12.toInt := kd_lt c; clear c
            have hJ15 := kG_i hG 7476 rfl (v := (-1)) (kd_bd _)
            refine ko_steps mi_in185 7 _ (62, [(0, .ref 116), (1, .int x1), (2, .int x2), (3, .int x3)], [.int x2, .int x1, .int 0, .ref 116], (0, 0), ks (ku i 7476 (-1)) a q r) (by rfl) ?_
            have nn0 := kn0
            have nn0 := kn0
            refine ko_callN mi_in185 (pc := 62) (ls := [(0, .ref 116), (1, .int x1), (2, .int x2), (3, .int x3)]) (st := [.int x2, .int x1, .int 0, .ref 116]) (h := ks (ku i 7476 (-1)) a q r) (i := (.invokevirtual 300, 3, 184, 0, 9, 0, 436)) (by rfl) (by rfl) (cy := mi_c184) rfl rfl ((kLallO ((kbc x1).toInt.toNat)) _ _ _ _ hJ15.I hJ15.R 0 x1 x2 (oz46 kn0) (oz692 s1.2 s2 z4.1 z4.2 kn1 kn0) (oz423 fi_7424.2 z6.1 z6.2) (oz693 c11 z10 kn5 kn0) (by have := knm1; have := kn0; have := kn1; have := kn5; omega) (kCode_of (i1 := ku i 7476 (-1)) hE_code (hJ15.fi 7432 rfl) (hJ15.fa 120 rfl) (hJ15.fa 121 rfl) (hJ15.fa 122 rfl) (hJ15.fa 123 rfl))) (by omega) ?_
            intro ig16 ag16 qg16 rg16 kg16 hg16
            have hGg16 := kG_call hJ15 kg16 (by decide +kernel)
            refine ko_steps mi_in185 2 _ (67, [(0, .ref 116), (1, .int x1), (2, .int x2), (3, .int x3)], [.int (-1), .int x3], (0, 0), ks ig16 ag16 qg16 rg16) (by rfl) ?_
            refine ko_if mi_in185 (x3 != (-1)) 77 70 ([(0, .ref 116), (1, .int x1), (2, .int x2), (3, .int x3)], [], (0, 0), ks ig16 ag16 qg16 rg16) (by rfl) (fun c => ?_) (fun c => ?_)
            ·
              have c17 : x3.toInt ≠ ((-1) : Int32).toInt := kd_ne c; clear c
              refine ko_steps mi_in185 3 _ (82, [(0, .ref 116), (1, .int x1), (2, .int x2), (3, .int x3)], [.int x3, .ref 147], (0, 0), ks ig16 ag16 qg16 rg16) (by rfl) ?_
              refine ko_iald3 mi_in185 (n := 5) (c := 5) (ax := (0, 0, 0, 0, 0)) (by rfl) (by rfl) (ksG147 _ _ _ _) (hGg16.I.2.1 147) rfl (oz694 c17 c7 knm1) (oz695 c11 c14 z10 z13 kn5) ?_
              exact ko_ret mi_in185 (by rfl) (hP ((ag16 147).getD x3.toNatClampNeg 0) _ _ _ _ hGg16 trivial)
            ·
              have c18 : x3.toInt = ((-1) : Int32).toInt := kd_neF c; clear c
              refine ko_steps mi_in185 3 _ (83, [(0, .ref 116), (1, .int x1), (2, .int x2), (3, .int x3)], [.int (ig16 7476)], (0, 0), ks ig16 ag16 qg16 rg16) (by rfl) ?_
              exact ko_ret mi_in185 (by rfl) (hP (ig16 7476) _ _ _ _ hGg16 trivial)
          ·
            have c19 : vg12.toInt ≤ x3.toInt := kd_ltF c; clear c
            refine ko_steps mi_in185 1 _ (52, [(0, .ref 116), (1, .int x1), (2, .int x2), (3, .int x3)], [.int (-2)], (0, 0), ks i a q r) (by rfl) ?_
            exact ko_ret mi_in185 (by rfl) (hP (-2) _ _ _ _ hG trivial)
        ·
          have c20 : (5 : Int32).toInt < vg9.toInt := kd_leF c; clear c
          refine ko_steps mi_in185 1 _ (41, [(0, .ref 116), (1, .int x1), (2, .int x2), (3, .int x3)], [.int (-5)], (0, 0), ks i a q r) (by rfl) ?_
          exact ko_ret mi_in185 (by rfl) (hP (-5) _ _ _ _ hG trivial)
      ·
        have c21 : x3.toInt < ((-1) : Int32).toInt := kd_leF c; clear c
        refine ko_steps mi_in185 1 _ (30, [(0, .ref 116), (1, .int x1), (2, .int x2), (3, .int x3)], [.int (-1)], (0, 0), ks i a q r) (by rfl) ?_
        exact ko_ret mi_in185 (by rfl) (hP (-1) _ _ _ _ hG trivial)
    ·
      subst eg5
      have z22 : ¬ (((0 : Int) ≤ x2.toInt) ∧ (x2.toInt < (i 7424).toInt)) := hg5
      refine ko_steps mi_in185 2 _ (30, [(0, .ref 116), (1, .int x1), (2, .int x2), (3, .int x3)], [.int (-1)], (0, 0), ks i a q r) (by rfl) ?_
      exact ko_ret mi_in185 (by rfl) (hP (-1) _ _ _ _ hG trivial)
  ·
    subst eg3
    have z23 : ¬ (((0 : Int32).toInt ≤ x1.toInt) ∧ (x1.toInt ≤ ((1 <<< ((i 7424) &&& 31)) - 1).toInt)) := hg3
    refine ko_steps mi_in185 2 _ (30, [(0, .ref 116), (1, .int x1), (2, .int x2), (3, .int x3)], [.int (-1)], (0, 0), ks i a q r) (by rfl) ?_
    exact ko_ret mi_in185 (by rfl) (hP (-1) _ _ _ _ hG trivial)
def w200_116 : kW := ([7464, 7465, 7466, 7467], [118, 128, 129, 140, 141], [], [])
set_option maxRecDepth 100000 in
theorem kc200_116 {i : Nat → Int32} {a : Nat → List Int32} {q : Nat → List Int64} {r : Nat → Nat} (hI : kI i a q) (hr : kr r) (x1 : Int32) (x2 : Int32) (x3 : Int32) (hE_code : kCode i a) : km 64 200 [.ref 116, .int x1, .int x2, .int x3] (ks i a q r) (kVI w200_116 i a q r (fun v i1 a1 q1 r1 => True)) := by
  have hG := kG_self w200_116 hI hr
  refine km_ofI (q := (mi_h200, mi_c200)) rfl (by decide) (Nat.le_of_ble_eq_true rfl) ?_
  intro P hP
  refine ko_steps mi_in200 2 _ (2, [(0, .ref 116), (1, .int x1), (2, .int x2), (3, .int x3)], [.int x1, .ref 116], (0, 0), ks i a q r) (by rfl) ?_
  refine ko_callPI mi_in200 (pc := 2) (ls := [(0, .ref 116), (1, .int x1), (2, .int x2), (3, .int x3)]) (st := [.int x1, .ref 116]) (h := ks i a q r) (i := (.invokevirtual 308, 3, 186, 0, 9, 0, 438)) (by rfl) (by rfl) (cy := mi_c186) rfl rfl (kc186_116 hG.I hG.R x1) (by decide) ?_
  intro vg1 hg1
  rcases hg1 with ⟨eg1, hg1⟩ | ⟨eg1, hg1⟩
  ·
    subst eg1
    have fi_7424 : ((0 : Int) ≤ (i 7424).toInt) ∧ ((i 7424).toInt ≤ 8) := hG.I.1 7424
    have z2 : ((0 : Int) ≤ x1.toInt) ∧ (((x1.toInt / 10) < (i 7424).toInt) ∧ ((x1.toInt % 10) < (i 7424).toInt)) ∧ ((x1.toInt / 10) ≠ (x1.toInt % 10)) := hg1
    refine ko_steps mi_in200 4 _ (11, [(0, .ref 116), (1, .int x1), (2, .int x2), (3, .int x3)], [.int 5, .int 1, .int x2], (0, 0), ks i a q r) (by rfl) ?_
    refine ko_callPI mi_in200 (pc := 11) (ls := [(0, .ref 116), (1, .int x1), (2, .int x2), (3, .int x3)]) (st := [.int 5, .int 1, .int x2]) (h := ks i a q r) (i := (.invokestatic 119, 3, 131, 0, 9, 0, 379)) (by rfl) (by rfl) (cy := mi_c131) rfl rfl (kc131 hG.I hG.R x2 1 5) (by decide) ?_
    intro vg3 hg3
    rcases hg3 with ⟨eg3, hg3⟩ | ⟨eg3, hg3⟩
    ·
      subst eg3
      have z4 : ((1 : Int32).toInt ≤ x2.toInt) ∧ (x2.toInt ≤ (5 : Int32).toInt) := hg3
      refine ko_steps mi_in200 4 _ (20, [(0, .ref 116), (1, .int x1), (2, .int x2), (3, .int x3)], [.int 1, .int 0, .int x3], (0, 0), ks i a q r) (by rfl) ?_
      refine ko_callPI mi_in200 (pc := 20) (ls := [(0, .ref 116), (1, .int x1), (2, .int x2), (3, .int x3)]) (st := [.int 1, .int 0, .int x3]) (h := ks i a q r) (i := (.invokestatic 119, 3, 131, 0, 9, 0, 379)) (by rfl) (by rfl) (cy := mi_c131) rfl rfl (kc131 hG.I hG.R x3 0 1) (by decide) ?_
      intro vg5 hg5
      rcases hg5 with ⟨eg5, hg5⟩ | ⟨eg5, hg5⟩
      ·
        subst eg5
        have z6 : ((0 : Int32).toInt ≤ x3.toInt) ∧ (x3.toInt ≤ (1 : Int32).toInt) := hg5
        have s7 : (x1 / 10).toInt = (x1.toInt / 10) := kd_div 10 kn10 (by decide) (oz3 z2.1)
        have s8 : (x1 - x1 / 10 * 10).toInt = (x1.toInt % 10) := kd_rem 10 kn10 (by decide) (oz3 z2.1)
        refine ko_steps mi_in200 10 _ (41, [(0, .ref 116), (1, .int x1), (2, .int x2), (3, .int x3)], [.int (x1 - x1 / 10 * 10), .int (x1 / 10), .int x2, .int 1, .ref 116], (0, 0), ks i a q r) (by rfl) ?_
        have nn1 := kn1
        have nn0 := kn0
        refine ko_callI mi_in200 (pc := 41) (ls := [(0, .ref 116), (1, .int x1), (2, .int x2), (3, .int x3)]) (st := [.int (x1 - x1 / 10 * 10), .int (x1 / 10), .int x2, .int 1, .ref 116]) (h := ks i a q r) (i := (.invokevirtual 333, 3, 199, 0, 9, 0, 451)) (by rfl) (by rfl) (cy := mi_c199) rfl rfl ((kLallU ((x2.toInt - (1 : Int32).toInt).toNat)).1 _ _ _ _ hG.I hG.R 1 x2 (x1 / 10) (x1 - x1 / 10 * 10) (oz696 z4.1 z4.2 kn1 kn5) (by have := kn0; have := kn1; have := kn5; omega) (oz697 fi_7424.2 s7 z2.1 z2.2.1.1 z2.2.1.2 z2.2.2) (oz698 fi_7424.2 s8 z2.2.1.2) (kCode_of (i1 := i) hE_code (hG.fi 7432 rfl) (hG.fa 120 rfl) (hG.fa 121 rfl) (hG.fa 122 rfl) (hG.fa 123 rfl))) (by omega) ?_
        intro vg9 ig9 ag9 qg9 rg9 kg9 hg9
        have hGg9 := kG_call hG kg9 (by decide +kernel)
        refine ko_steps mi_in200 10 _ (57, [(4, .int vg9), (0, .ref 116), (1, .int x1), (2, .int x2), (3, .int x3)], [.int (x1 - x1 / 10 * 10), .int (x1 / 10), .int x2, .int 0, .ref 116], (0, 0), ks ig9 ag9 qg9 rg9) (by rfl) ?_
        have nn0 := kn0
        have nn0 := kn0
        refine ko_callI mi_in200 (pc := 57) (ls := [(4, .int vg9), (0, .ref 116), (1, .int x1), (2, .int x2), (3, .int x3)]) (st := [.int (x1 - x1 / 10 * 10), .int (x1 / 10), .int x2, .int 0, .ref 116]) (h := ks ig9 ag9 qg9 rg9) (i := (.invokevirtual 337, 3, 198, 0, 9, 0, 452)) (by rfl) (by rfl) (cy := mi_c198) rfl rfl ((kLallU ((x2.toInt - (0 : Int32).toInt).toNat)).2 _ _ _ _ hGg9.I hGg9.R 0 x2 (x1 / 10) (x1 - x1 / 10 * 10) (oz699 z4.1 z4.2 kn1 kn5 kn0) (by have := kn0; have := kn1; have := kn5; omega) (oz697 fi_7424.2 s7 z2.1 z2.2.1.1 z2.2.1.2 z2.2.2) (oz698 fi_7424.2 s8 z2.2.1.2) (oz700 z4.1 kn1 kn0) (kCode_of (i1 := ig9) hE_code (hGg9.fi 7432 rfl) (hGg9.fa 120 rfl) (hGg9.fa 121 rfl) (hGg9.fa 122 rfl) (hGg9.fa 123 rfl))) (by omega) ?_
        intro vg10 ig10 ag10 qg10 rg10 kg10 hg10
        have hGg10 := kG_call hGg9 kg10 (by decide +kernel)
        refine ko_steps mi_in200 2 _ (63, [(5, .int vg10), (4, .int vg9), (0, .ref 116), (1, .int x1), (2, .int x2), (3, .int x3)], [.int x3], (0, 0), ks ig10 ag10 qg10 rg10) (by rfl) ?_
        refine ko_if mi_in200 (x3 != 0) 76 66 ([(5, .int vg10), (4, .int vg9), (0, .ref 116), (1, .int x1), (2, .int x2), (3, .int x3)], [], (0, 0), ks ig10 ag10 qg10 rg10) (by rfl) (fun c => ?_) (fun c => ?_)
        ·
          have c11 : x3.toInt ≠ (0 : Int32).toInt := kd_ne c; clear c
          refine ko_steps mi_in200 2 _ (80, [(5, .int vg10), (4, .int vg9), (0, .ref 116), (1, .int x1), (2, .int x2), (3, .int x3)], [.int vg9, .int vg10], (0, 0), ks ig10 ag10 qg10 rg10) (by rfl) ?_
          refine ko_if mi_in200 (decide (vg10 ≤ vg9)) 87 83 ([(5, .int vg10), (4, .int vg9), (0, .ref 116), (1, .int x1), (2, .int x2), (3, .int x3)], [], (0, 0), ks ig10 ag10 qg10 rg10) (by rfl) (fun c => ?_) (fun c => ?_)
          ·
            have c12 : vg10.toInt ≤ vg9.toInt := kd_le c; clear c
            refine ko_steps mi_in200 1 _ (88, [(5, .int vg10), (4, .int vg9), (0, .ref 116), (1, .int x1), (2, .int x2), (3, .int x3)], [.int 0], (0, 0), ks ig10 ag10 qg10 rg10) (by rfl) ?_
            exact ko_ret mi_in200 (by rfl) (hP 0 _ _ _ _ hGg10 trivial)
          ·
            have c13 : vg9.toInt < vg10.toInt := kd_leF c; clear c
            refine ko_steps mi_in200 2 _ (88, [(5, .int vg10), (4, .int vg9), (0, .ref 116), (1, .int x1), (2, .int x2), (3, .int x3)], [.int 1], (0, 0), ks ig10 ag10 qg10 rg10) (by rfl) ?_
            exact ko_ret mi_in200 (by rfl) (hP 1 _ _ _ _ hGg10 trivial)
        ·
          have c14 : x3.toInt = (0 : Int32).toInt := kd_neF c; clear c
          refine ko_steps mi_in200 2 _ (70, [(5, .int vg10), (4, .int vg9), (0, .ref 116), (1, .int x1), (2, .int x2), (3, .int x3)], [.int vg10, .int vg9], (0, 0), ks ig10 ag10 qg10 rg10) (by rfl) ?_
          have m16 : ((vg9.toInt ≤ (bif decide (vg9 < vg10) then vg10 else vg9).toInt) ∧ (vg10.toInt ≤ (bif decide (vg9 < vg10) then vg10 else vg9).toInt)) ∧ ((bif decide (vg9 < vg10) then vg10 else vg9).toInt = vg9.toInt ∨ (bif decide (vg9 < vg10) then vg10 else vg9).toInt = vg10.toInt) := kd_max
          refine ko_steps mi_in200 1 _ (73, [(5, .int vg10), (4, .int vg9), (0, .ref 116), (1, .int x1), (2, .int x2), (3, .int x3)], [.int (bif decide (vg9 < vg10) then vg10 else vg9)], (0, 0), ks ig10 ag10 qg10 rg10) (by rfl) ?_
          generalize (bif decide (vg9 < vg10) then vg10 else vg9) = m15 at m16 ⊢
          refine ko_steps mi_in200 1 _ (88, [(5, .int vg10), (4, .int vg9), (0, .ref 116), (1, .int x1), (2, .int x2), (3, .int x3)], [.int m15], (0, 0), ks ig10 ag10 qg10 rg10) (by rfl) ?_
          exact ko_ret mi_in200 (by rfl) (hP m15 _ _ _ _ hGg10 trivial)
      ·
        subst eg5
        have z17 : ¬ (((0 : Int32).toInt ≤ x3.toInt) ∧ (x3.toInt ≤ (1 : Int32).toInt)) := hg5
        refine ko_steps mi_in200 2 _ (29, [(0, .ref 116), (1, .int x1), (2, .int x2), (3, .int x3)], [.int (-2000000000)], (0, 0), ks i a q r) (by rfl) ?_
        exact ko_ret mi_in200 (by rfl) (hP (-2000000000) _ _ _ _ hG trivial)
    ·
      subst eg3
      have z18 : ¬ (((1 : Int32).toInt ≤ x2.toInt) ∧ (x2.toInt ≤ (5 : Int32).toInt)) := hg3
      refine ko_steps mi_in200 2 _ (29, [(0, .ref 116), (1, .int x1), (2, .int x2), (3, .int x3)], [.int (-2000000000)], (0, 0), ks i a q r) (by rfl) ?_
      exact ko_ret mi_in200 (by rfl) (hP (-2000000000) _ _ _ _ hG trivial)
  ·
    subst eg1
    have fi_7424 : ((0 : Int) ≤ (i 7424).toInt) ∧ ((i 7424).toInt ≤ 8) := hG.I.1 7424
    have z19 : ¬ (((0 : Int) ≤ x1.toInt) ∧ (((x1.toInt / 10) < (i 7424).toInt) ∧ ((x1.toInt % 10) < (i 7424).toInt)) ∧ ((x1.toInt / 10) ≠ (x1.toInt % 10))) := hg1
    refine ko_steps mi_in200 2 _ (29, [(0, .ref 116), (1, .int x1), (2, .int x2), (3, .int x3)], [.int (-2000000000)], (0, 0), ks i a q r) (by rfl) ?_
    exact ko_ret mi_in200 (by rfl) (hP (-2000000000) _ _ _ _ hG trivial)
set_option maxRecDepth 100000 in
theorem kc147_116 {i : Nat → Int32} {a : Nat → List Int32} {q : Nat → List Int64} {r : Nat → Nat} (hI : kI i a q) (hr : kr r)  : km 1 147 [.ref 116] (ks i a q r) (kPI (ks i a q r) (fun v => ((v.toInt = (-1)) ∧ ((i 7429).toInt ≤ (i 7437).toInt)) ∨ (((i 7437).toInt < (i 7429).toInt) ∧ (v.toInt = ((a 119).getD (i 7437).toNatClampNeg 0).toInt)))) := by
  have hG := kG_self kW0 hI hr
  refine km_ofPI (q := (mi_h147, mi_c147)) rfl (by decide) (Nat.le_of_ble_eq_true rfl) ?_
  intro P hP
  have fi_7437 : ((0 : Int) ≤ (i 7437).toInt) ∧ ((i 7437).toInt ≤ 120) := hG.I.1 7437
  have fi_7429 : ((0 : Int) ≤ (i 7429).toInt) ∧ ((i 7429).toInt ≤ 120) := hG.I.1 7429
  refine ko_steps mi_in147 4 _ (8, [(0, .ref 116)], [.int (i 7429), .int (i 7437)], (0, 0), ks i a q r) (by rfl) ?_
  refine ko_if mi_in147 (decide ((i 7429) ≤ (i 7437))) 23 11 ([(0, .ref 116)], [], (0, 0), ks i a q r) (by rfl) (fun c => ?_) (fun c => ?_)
  ·
    have c1 : (i 7429).toInt ≤ (i 7437).toInt := kd_le c; clear c
    refine ko_steps mi_in147 1 _ (24, [(0, .ref 116)], [.int (-1)], (0, 0), ks i a q r) (by rfl) ?_
    exact ko_ret mi_in147 (by rfl) (hP (-1) (oz701 c1 knm1))
  ·
    have c2 : (i 7437).toInt < (i 7429).toInt := kd_leF c; clear c
    refine ko_steps mi_in147 4 _ (19, [(0, .ref 116)], [.int (i 7437), .ref 119], (0, 0), ks i a q r) (by rfl) ?_
    refine ko_iald3 mi_in147 (n := 120) (c := 120) (ax := (0, 0, 0, 0, 0)) (by rfl) (by rfl) (ksG119 _ _ _ _) (hG.I.2.1 119) rfl (oz3 fi_7437.1) (oz702 c2 fi_7429.2) ?_
    refine ko_steps mi_in147 1 _ (24, [(0, .ref 116)], [.int ((a 119).getD (i 7437).toNatClampNeg 0)], (0, 0), ks i a q r) (by rfl) ?_
    exact ko_ret mi_in147 (by rfl) (hP ((a 119).getD (i 7437).toNatClampNeg 0) (oz703 c2))
set_option maxRecDepth 100000 in
theorem kc150_116 {i : Nat → Int32} {a : Nat → List Int32} {q : Nat → List Int64} {r : Nat → Nat} (hI : kI i a q) (hr : kr r)  : km 3 150 [.ref 116] (ks i a q r) (kPI (ks i a q r) (fun v => (v = 1 ∧ (((i 7437).toInt < (i 7429).toInt) ∧ ((48 : Int) ≤ ((a 119).getD (i 7437).toNatClampNeg 0).toInt) ∧ (((a 119).getD (i 7437).toNatClampNeg 0).toInt ≤ 57))) ∨ (v = 0 ∧ (¬ (((i 7437).toInt < (i 7429).toInt) ∧ ((48 : Int) ≤ ((a 119).getD (i 7437).toNatClampNeg 0).toInt) ∧ (((a 119).getD (i 7437).toNatClampNeg 0).toInt ≤ 57)))))) := by
  have hG := kG_self kW0 hI hr
  refine km_ofPI (q := (mi_h150, mi_c150)) rfl (by decide) (Nat.le_of_ble_eq_true rfl) ?_
  intro P hP
  refine ko_steps mi_in150 1 _ (1, [(0, .ref 116)], [.ref 116], (0, 0), ks i a q r) (by rfl) ?_
  refine ko_callPI mi_in150 (pc := 1) (ls := [(0, .ref 116)]) (st := [.ref 116]) (h := ks i a q r) (i := (.invokevirtual 166, 3, 147, 0, 9, 0, 404)) (by rfl) (by rfl) (cy := mi_c147) rfl rfl (kc147_116 hG.I hG.R ) (by decide) ?_
  intro vg1 hg1
  have fi_7429 : ((0 : Int) ≤ (i 7429).toInt) ∧ ((i 7429).toInt ≤ 120) := hG.I.1 7429
  have fi_7437 : ((0 : Int) ≤ (i 7437).toInt) ∧ ((i 7437).toInt ≤ 120) := hG.I.1 7437
  have z2 : ((vg1.toInt = (-1)) ∧ ((i 7429).toInt ≤ (i 7437).toInt)) ∨ (((i 7437).toInt < (i 7429).toInt) ∧ (vg1.toInt = ((a 119).getD (i 7437).toNatClampNeg 0).toInt)) := hg1
  refine ko_steps mi_in150 1 _ (6, [(0, .ref 116)], [.int 48, .int vg1], (0, 0), ks i a q r) (by rfl) ?_
  refine ko_if mi_in150 (decide (vg1 < 48)) 22 9 ([(0, .ref 116)], [], (0, 0), ks i a q r) (by rfl) (fun c => ?_) (fun c => ?_)
  ·
    have c3 : vg1.toInt < (48 : Int32).toInt := kd_lt c; clear c
    refine ko_steps mi_in150 1 _ (23, [(0, .ref 116)], [.int 0], (0, 0), ks i a q r) (by rfl) ?_
    exact ko_ret mi_in150 (by rfl) (hP 0 (Or.inr ⟨rfl, (oz704 c3 z2 kn48)⟩))
  ·
    have c4 : (48 : Int32).toInt ≤ vg1.toInt := kd_ltF c; clear c
    refine ko_steps mi_in150 1 _ (10, [(0, .ref 116)], [.ref 116], (0, 0), ks i a q r) (by rfl) ?_
    refine ko_callPI mi_in150 (pc := 10) (ls := [(0, .ref 116)]) (st := [.ref 116]) (h := ks i a q r) (i := (.invokevirtual 166, 3, 147, 0, 9, 0, 404)) (by rfl) (by rfl) (cy := mi_c147) rfl rfl (kc147_116 hG.I hG.R ) (by decide) ?_
    intro vg5 hg5
    have z6 : ((vg5.toInt = (-1)) ∧ ((i 7429).toInt ≤ (i 7437).toInt)) ∨ (((i 7437).toInt < (i 7429).toInt) ∧ (vg5.toInt = ((a 119).getD (i 7437).toNatClampNeg 0).toInt)) := hg5
    refine ko_steps mi_in150 1 _ (15, [(0, .ref 116)], [.int 57, .int vg5], (0, 0), ks i a q r) (by rfl) ?_
    refine ko_if mi_in150 (decide (57 < vg5)) 22 18 ([(0, .ref 116)], [], (0, 0), ks i a q r) (by rfl) (fun c => ?_) (fun c => ?_)
    ·
      have c7 : (57 : Int32).toInt < vg5.toInt := kd_lt c; clear c
      refine ko_steps mi_in150 1 _ (23, [(0, .ref 116)], [.int 0], (0, 0), ks i a q r) (by rfl) ?_
      exact ko_ret mi_in150 (by rfl) (hP 0 (Or.inr ⟨rfl, (oz705 c7 z6 kn57)⟩))
    ·
      have c8 : vg5.toInt ≤ (57 : Int32).toInt := kd_ltF c; clear c
      refine ko_steps mi_in150 2 _ (23, [(0, .ref 116)], [.int 1], (0, 0), ks i a q r) (by rfl) ?_
      exact ko_ret mi_in150 (by rfl) (hP 1 (Or.inl ⟨rfl, (oz706 c4 c8 z2 z6 kn48 kn57)⟩))
set_option maxRecDepth 100000 in
theorem kc151 {i : Nat → Int32} {a : Nat → List Int32} {q : Nat → List Int64} {r : Nat → Nat} (hI : kI i a q) (hr : kr r) (x1 : Int32) : km 1 151 [.int x1] (ks i a q r) (kPI (ks i a q r) (fun v => (((-1) : Int) ≤ v.toInt) ∧ (v.toInt ≤ 5) ∧ ((v.toInt = (-1)) ∨ ((100 : Int) ≤ x1.toInt)))) := by
  have hG := kG_self kW0 hI hr
  refine km_ofPI (q := (mi_h151, mi_c151)) rfl (by decide) (Nat.le_of_ble_eq_true rfl) ?_
  intro P hP
  refine ko_steps mi_in151 1 _ (1, [(0, .int x1)], [.int x1], (0, 0), ks i a q r) (by rfl) ?_
  by_cases w1 : x1.toInt = 100
  ·
    refine ko_eq (x1 := (1, [(0, .int x1)], [.int 100], (0, 0), ks i a q r)) (by rw [(kj_eq w1 (by decide) : x1 = 100)]) ?_
    refine ko_steps mi_in151 2 _ (107, [(0, .int x1)], [.int 5], (0, 0), ks i a q r) (by rfl) ?_
    exact ko_ret mi_in151 (by rfl) (hP 5 (oz730 w1 kn5))
  by_cases w2 : x1.toInt = 101
  ·
    refine ko_eq (x1 := (1, [(0, .int x1)], [.int 101], (0, 0), ks i a q r)) (by rw [(kj_eq w2 (by decide) : x1 = 101)]) ?_
    refine ko_steps mi_in151 2 _ (109, [(0, .int x1)], [.int (-1)], (0, 0), ks i a q r) (by rfl) ?_
    exact ko_ret mi_in151 (by rfl) (hP (-1) (oz731 knm1))
  by_cases w3 : x1.toInt = 102
  ·
    refine ko_eq (x1 := (1, [(0, .int x1)], [.int 102], (0, 0), ks i a q r)) (by rw [(kj_eq w3 (by decide) : x1 = 102)]) ?_
    refine ko_steps mi_in151 2 _ (109, [(0, .int x1)], [.int (-1)], (0, 0), ks i a q r) (by rfl) ?_
    exact ko_ret mi_in151 (by rfl) (hP (-1) (oz731 knm1))
  by_cases w4 : x1.toInt = 103
  ·
    refine ko_eq (x1 := (1, [(0, .int x1)], [.int 103], (0, 0), ks i a q r)) (by rw [(kj_eq w4 (by decide) : x1 = 103)]) ?_
    refine ko_steps mi_in151 2 _ (109, [(0, .int x1)], [.int (-1)], (0, 0), ks i a q r) (by rfl) ?_
    exact ko_ret mi_in151 (by rfl) (hP (-1) (oz731 knm1))
  by_cases w5 : x1.toInt = 104
  ·
    refine ko_eq (x1 := (1, [(0, .int x1)], [.int 104], (0, 0), ks i a q r)) (by rw [(kj_eq w5 (by decide) : x1 = 104)]) ?_
    refine ko_steps mi_in151 2 _ (101, [(0, .int x1)], [.int 2], (0, 0), ks i a q r) (by rfl) ?_
    exact ko_ret mi_in151 (by rfl) (hP 2 (oz732 w5 kn2))
  by_cases w6 : x1.toInt = 105
  ·
    refine ko_eq (x1 := (1, [(0, .int x1)], [.int 105], (0, 0), ks i a q r)) (by rw [(kj_eq w6 (by decide) : x1 = 105)]) ?_
    refine ko_steps mi_in151 2 _ (109, [(0, .int x1)], [.int (-1)], (0, 0), ks i a q r) (by rfl) ?_
    exact ko_ret mi_in151 (by rfl) (hP (-1) (oz731 knm1))
  by_cases w7 : x1.toInt = 106
  ·
    refine ko_eq (x1 := (1, [(0, .int x1)], [.int 106], (0, 0), ks i a q r)) (by rw [(kj_eq w7 (by decide) : x1 = 106)]) ?_
    refine ko_steps mi_in151 2 _ (109, [(0, .int x1)], [.int (-1)], (0, 0), ks i a q r) (by rfl) ?_
    exact ko_ret mi_in151 (by rfl) (hP (-1) (oz731 knm1))
  by_cases w8 : x1.toInt = 107
  ·
    refine ko_eq (x1 := (1, [(0, .int x1)], [.int 107], (0, 0), ks i a q r)) (by rw [(kj_eq w8 (by decide) : x1 = 107)]) ?_
    refine ko_steps mi_in151 2 _ (109, [(0, .int x1)], [.int (-1)], (0, 0), ks i a q r) (by rfl) ?_
    exact ko_ret mi_in151 (by rfl) (hP (-1) (oz731 knm1))
  by_cases w9 : x1.toInt = 108
  ·
    refine ko_eq (x1 := (1, [(0, .int x1)], [.int 108], (0, 0), ks i a q r)) (by rw [(kj_eq w9 (by decide) : x1 = 108)]) ?_
    refine ko_steps mi_in151 2 _ (109, [(0, .int x1)], [.int (-1)], (0, 0), ks i a q r) (by rfl) ?_
    exact ko_ret mi_in151 (by rfl) (hP (-1) (oz731 knm1))
  by_cases w10 : x1.toInt = 109
  ·
    refine ko_eq (x1 := (1, [(0, .int x1)], [.int 109], (0, 0), ks i a q r)) (by rw [(kj_eq w10 (by decide) : x1 = 109)]) ?_
    refine ko_steps mi_in151 2 _ (109, [(0, .int x1)], [.int (-1)], (0, 0), ks i a q r) (by rfl) ?_
    exact ko_ret mi_in151 (by rfl) (hP (-1) (oz731 knm1))
  by_cases w11 : x1.toInt = 110
  ·
    refine ko_eq (x1 := (1, [(0, .int x1)], [.int 110], (0, 0), ks i a q r)) (by rw [(kj_eq w11 (by decide) : x1 = 110)]) ?_
    refine ko_steps mi_in151 2 _ (103, [(0, .int x1)], [.int 3], (0, 0), ks i a q r) (by rfl) ?_
    exact ko_ret mi_in151 (by rfl) (hP 3 (oz733 w11 kn3))
  by_cases w12 : x1.toInt = 111
  ·
    refine ko_eq (x1 := (1, [(0, .int x1)], [.int 111], (0, 0), ks i a q r)) (by rw [(kj_eq w12 (by decide) : x1 = 111)]) ?_
    refine ko_steps mi_in151 2 _ (105, [(0, .int x1)], [.int 4], (0, 0), ks i a q r) (by rfl) ?_
    exact ko_ret mi_in151 (by rfl) (hP 4 (oz734 w12 kn4))
  by_cases w13 : x1.toInt = 112
  ·
    refine ko_eq (x1 := (1, [(0, .int x1)], [.int 112], (0, 0), ks i a q r)) (by rw [(kj_eq w13 (by decide) : x1 = 112)]) ?_
    refine ko_steps mi_in151 2 _ (99, [(0, .int x1)], [.int 1], (0, 0), ks i a q r) (by rfl) ?_
    exact ko_ret mi_in151 (by rfl) (hP 1 (oz735 w13 kn1))
  by_cases w14 : x1.toInt = 113
  ·
    refine ko_eq (x1 := (1, [(0, .int x1)], [.int 113], (0, 0), ks i a q r)) (by rw [(kj_eq w14 (by decide) : x1 = 113)]) ?_
    refine ko_steps mi_in151 2 _ (109, [(0, .int x1)], [.int (-1)], (0, 0), ks i a q r) (by rfl) ?_
    exact ko_ret mi_in151 (by rfl) (hP (-1) (oz731 knm1))
  by_cases w15 : x1.toInt = 114
  ·
    refine ko_eq (x1 := (1, [(0, .int x1)], [.int 114], (0, 0), ks i a q r)) (by rw [(kj_eq w15 (by decide) : x1 = 114)]) ?_
    refine ko_steps mi_in151 2 _ (109, [(0, .int x1)], [.int (-1)], (0, 0), ks i a q r) (by rfl) ?_
    exact ko_ret mi_in151 (by rfl) (hP (-1) (oz731 knm1))
  by_cases w16 : x1.toInt = 115
  ·
    refine ko_eq (x1 := (1, [(0, .int x1)], [.int 115], (0, 0), ks i a q r)) (by rw [(kj_eq w16 (by decide) : x1 = 115)]) ?_
    refine ko_steps mi_in151 2 _ (109, [(0, .int x1)], [.int (-1)], (0, 0), ks i a q r) (by rfl) ?_
    exact ko_ret mi_in151 (by rfl) (hP (-1) (oz731 knm1))
  by_cases w17 : x1.toInt = 116
  ·
    refine ko_eq (x1 := (1, [(0, .int x1)], [.int 116], (0, 0), ks i a q r)) (by rw [(kj_eq w17 (by decide) : x1 = 116)]) ?_
    refine ko_steps mi_in151 2 _ (109, [(0, .int x1)], [.int (-1)], (0, 0), ks i a q r) (by rfl) ?_
    exact ko_ret mi_in151 (by rfl) (hP (-1) (oz731 knm1))
  by_cases w18 : x1.toInt = 117
  ·
    refine ko_eq (x1 := (1, [(0, .int x1)], [.int 117], (0, 0), ks i a q r)) (by rw [(kj_eq w18 (by decide) : x1 = 117)]) ?_
    refine ko_steps mi_in151 2 _ (109, [(0, .int x1)], [.int (-1)], (0, 0), ks i a q r) (by rfl) ?_
    exact ko_ret mi_in151 (by rfl) (hP (-1) (oz731 knm1))
  by_cases w19 : x1.toInt = 118
  ·
    refine ko_eq (x1 := (1, [(0, .int x1)], [.int 118], (0, 0), ks i a q r)) (by rw [(kj_eq w19 (by decide) : x1 = 118)]) ?_
    refine ko_steps mi_in151 2 _ (109, [(0, .int x1)], [.int (-1)], (0, 0), ks i a q r) (by rfl) ?_
    exact ko_ret mi_in151 (by rfl) (hP (-1) (oz731 knm1))
  by_cases w20 : x1.toInt = 119
  ·
    refine ko_eq (x1 := (1, [(0, .int x1)], [.int 119], (0, 0), ks i a q r)) (by rw [(kj_eq w20 (by decide) : x1 = 119)]) ?_
    refine ko_steps mi_in151 2 _ (97, [(0, .int x1)], [.int 0], (0, 0), ks i a q r) (by rfl) ?_
    exact ko_ret mi_in151 (by rfl) (hP 0 (oz736 w20 kn0))
  refine ko_sw (ls := [(0, .int x1)]) (r := []) (h := ks i a q r) mi_in151 (v := x1) (i := (.tableswitch 107 100 119 #[105, 107, 107, 107, 99, 107, 107, 107, 107, 107, 101, 103, 97, 107, 107, 107, 107, 107, 107, 95], 95, 0, 0, 0, 0, 0)) (by rfl) rfl (oz737 w1 w2 w3 w4 w5 w6 w7 w8 w9 w10 w11 w12 w13 w14 w15 w16 w17 w18 w19 w20) 108 (by rfl) ?_
  refine ko_steps mi_in151 1 _ (109, [(0, .int x1)], [.int (-1)], (0, 0), ks i a q r) (by rfl) ?_
  exact ko_ret mi_in151 (by rfl) (hP (-1) (oz731 knm1))
def w148_116 : kW := ([7437], [], [], [])
set_option maxRecDepth 100000 in
theorem kc148_116 {i : Nat → Int32} {a : Nat → List Int32} {q : Nat → List Int64} {r : Nat → Nat} (hI : kI i a q) (hr : kr r) (x1 : Int32) (hp0 : (0 : Int) ≤ x1.toInt) : km 3 148 [.ref 116, .int x1] (ks i a q r) (kVI w148_116 i a q r (fun v i1 a1 q1 r1 => (v = 1 ∧ (((i1 7437).toInt = ((i 7437).toInt + 1)) ∧ ((i1 7437).toInt ≤ (i1 7429).toInt))) ∨ (v = 0 ∧ ((i1 7437).toInt = (i 7437).toInt)))) := by
  have hG := kG_self w148_116 hI hr
  refine km_ofI (q := (mi_h148, mi_c148)) rfl (by decide) (Nat.le_of_ble_eq_true rfl) ?_
  intro P hP
  refine ko_steps mi_in148 1 _ (1, [(0, .ref 116), (1, .int x1)], [.ref 116], (0, 0), ks i a q r) (by rfl) ?_
  refine ko_callPI mi_in148 (pc := 1) (ls := [(0, .ref 116), (1, .int x1)]) (st := [.ref 116]) (h := ks i a q r) (i := (.invokevirtual 166, 3, 147, 0, 9, 0, 404)) (by rfl) (by rfl) (cy := mi_c147) rfl rfl (kc147_116 hG.I hG.R ) (by decide) ?_
  intro vg1 hg1
  have fi_7429 : ((0 : Int) ≤ (i 7429).toInt) ∧ ((i 7429).toInt ≤ 120) := hG.I.1 7429
  have fi_7437 : ((0 : Int) ≤ (i 7437).toInt) ∧ ((i 7437).toInt ≤ 120) := hG.I.1 7437
  have z2 : ((vg1.toInt = (-1)) ∧ ((i 7429).toInt ≤ (i 7437).toInt)) ∨ (((i 7437).toInt < (i 7429).toInt) ∧ (vg1.toInt = ((a 119).getD (i 7437).toNatClampNeg 0).toInt)) := hg1
  refine ko_steps mi_in148 1 _ (5, [(0, .ref 116), (1, .int x1)], [.int x1, .int vg1], (0, 0), ks i a q r) (by rfl) ?_
  refine ko_if mi_in148 (vg1 == x1) 10 8 ([(0, .ref 116), (1, .int x1)], [], (0, 0), ks i a q r) (by rfl) (fun c => ?_) (fun c => ?_)
  ·
    have c3 : vg1.toInt = x1.toInt := kd_eq c; clear c
    have s4 : ((i 7437) + 1).toInt = (i 7437).toInt + (1 : Int32).toInt := kd_add (oz12 fi_7437.1 kn1) (oz192 fi_7437.2 kn1)
    have hJ5 := kG_i hG 7437 rfl (v := ((i 7437) + 1)) ⟨(oz14 fi_7437.1 s4 kn1), (oz740 c3 fi_7429.2 hp0 s4 z2 kn1)⟩
    refine ko_steps mi_in148 7 _ (21, [(0, .ref 116), (1, .int x1)], [.int 1], (0, 0), ks (ku i 7437 ((i 7437) + 1)) a q r) (by rfl) ?_
    exact ko_ret mi_in148 (by rfl) (hP 1 _ _ _ _ hJ5 (Or.inl ⟨rfl, (oz741 c3 hp0 s4 z2 kn1)⟩))
  ·
    have c6 : vg1.toInt ≠ x1.toInt := kd_eqF c; clear c
    refine ko_steps mi_in148 1 _ (9, [(0, .ref 116), (1, .int x1)], [.int 0], (0, 0), ks i a q r) (by rfl) ?_
    exact ko_ret mi_in148 (by rfl) (hP 0 _ _ _ _ hG (Or.inr ⟨rfl, oz34⟩))
def w149_116 : kW := ([7439], [127], [], [])
set_option maxRecDepth 100000 in
theorem kc149_116 {i : Nat → Int32} {a : Nat → List Int32} {q : Nat → List Int64} {r : Nat → Nat} (hI : kI i a q) (hr : kr r) (x1 : Int32) (hp0 : ((0 : Int) ≤ (i 7439).toInt) ∧ ((i 7439).toInt ≤ 199)) : km 1 149 [.ref 116, .int x1] (ks i a q r) (kVI w149_116 i a q r (fun v i1 a1 q1 r1 => (v = 1 ∧ (((i1 7439).toInt = ((i 7439).toInt + 1)) ∧ a1 127 = (a 127).set (i 7439).toNatClampNeg x1)) ∨ (v = 0 ∧ ((2 : Int) ≤ 1)))) := by
  have hG := kG_self w149_116 hI hr
  refine km_ofI (q := (mi_h149, mi_c149)) rfl (by decide) (Nat.le_of_ble_eq_true rfl) ?_
  intro P hP
  have fi_7439 : ((0 : Int) ≤ (i 7439).toInt) ∧ ((i 7439).toInt ≤ 200) := hG.I.1 7439
  have s1 : ((i 7439) + 1).toInt = (i 7439).toInt + (1 : Int32).toInt := kd_add (oz12 fi_7439.1 kn1) (oz271 fi_7439.2 kn1)
  have hJ2 := kG_i hG 7439 rfl (v := ((i 7439) + 1)) ⟨(oz14 fi_7439.1 s1 kn1), (oz746 hp0.2 s1 kn1)⟩
  refine ko_steps mi_in149 10 _ (16, [(0, .ref 116), (1, .int x1)], [.int x1, .int (i 7439), .ref 127], (0, 0), ks (ku i 7439 ((i 7439) + 1)) a q r) (by rfl) ?_
  refine ko_iast3 mi_in149 (n := 200) (c := 200) (ax := (0, 0, 0, 0, 0)) (by rfl) (by rfl) (ksG127 _ _ _ _) (ksA127 _ _ _ _) (hJ2.I.2.1 127) rfl (oz3 fi_7439.1) (oz747 hp0.2) ?_
  intro a3 ea3 fa3
  have hJ3 := kG_a3 hJ2 127 rfl ea3 fa3 (kd_bd _)
  refine ko_steps mi_in149 1 _ (18, [(0, .ref 116), (1, .int x1)], [.int 1], (0, 0), ks (ku i 7439 ((i 7439) + 1)) a3 q r) (by rfl) ?_
  exact ko_ret mi_in149 (by rfl) (hP 1 _ _ _ _ hJ3 (Or.inl ⟨rfl, ⟨(oz748 s1 kn1), ea3⟩⟩))
def wR : kW := ([7437, 7438, 7439], [127], [], [])
def w152_116_L11 : kW := ([7437], [], [], [])
def kLR_152 (n : Nat) : Prop := ∀ (i : Nat → Int32) (a : Nat → List Int32) (q : Nat → List Int64) (r : Nat → Nat), kI i a q → kr r → ((i 7438).toInt + (n : Int)) = 6 → (i 7439).toInt ≤ (i 7437).toInt → (i 7437).toInt ≤ (i 7429).toInt → km (6 * n + 10) 152 [.ref 116] (ks i a q r) (kVI wR i a q r (fun v i1 a1 q1 r1 => (v = 1 ∧ ((((i1 7438).toInt = (i 7438).toInt) ∧ ((i 7437).toInt ≤ (i1 7437).toInt) ∧ ((i1 7437).toInt ≤ (i1 7429).toInt) ∧ (((i1 7439).toInt - (i1 7437).toInt) ≤ ((i 7439).toInt - (i 7437).toInt)) ∧ ((i 7439).toInt ≤ (i1 7439).toInt) ∧ (((i 7437).toInt + 1) ≤ (i1 7437).toInt)) ∧ kRun (a 127) (a1 127) (i 7439).toInt.toNat (i1 7439).toInt.toNat 1)) ∨ (v = 0 ∧ (((i1 7438).toInt = (i 7438).toInt) ∧ ((i 7437).toInt ≤ (i1 7437).toInt) ∧ ((i1 7437).toInt ≤ (i1 7429).toInt) ∧ (((i1 7439).toInt - (i1 7437).toInt) ≤ ((i 7439).toInt - (i 7437).toInt)) ∧ ((i 7439).toInt ≤ (i1 7439).toInt)))))
def w153_116_L9 : kW := ([7437, 7438, 7439], [127], [], [])
def kLR_153 (n : Nat) : Prop := ∀ (i : Nat → Int32) (a : Nat → List Int32) (q : Nat → List Int64) (r : Nat → Nat), kI i a q → kr r → ((i 7438).toInt + (n : Int)) = 6 → (i 7439).toInt ≤ (i 7437).toInt → (i 7437).toInt ≤ (i 7429).toInt → km (6 * n + 11) 153 [.ref 116] (ks i a q r) (kVI wR i a q r (fun v i1 a1 q1 r1 => (v = 1 ∧ ((((i1 7438).toInt = (i 7438).toInt) ∧ ((i 7437).toInt ≤ (i1 7437).toInt) ∧ ((i1 7437).toInt ≤ (i1 7429).toInt) ∧ (((i1 7439).toInt - (i1 7437).toInt) ≤ ((i 7439).toInt - (i 7437).toInt)) ∧ ((i 7439).toInt ≤ (i1 7439).toInt) ∧ (((i 7437).toInt + 1) ≤ (i1 7437).toInt)) ∧ kRun (a 127) (a1 127) (i 7439).toInt.toNat (i1 7439).toInt.toNat 1)) ∨ (v = 0 ∧ (((i1 7438).toInt = (i 7438).toInt) ∧ ((i 7437).toInt ≤ (i1 7437).toInt) ∧ ((i1 7437).toInt ≤ (i1 7429).toInt) ∧ (((i1 7439).toInt - (i1 7437).toInt) ≤ ((i 7439).toInt - (i 7437).toInt)) ∧ ((i 7439).toInt ≤ (i1 7439).toInt)))))
def w154_116_L9 : kW := ([7437, 7438, 7439], [127], [], [])
def kLR_154 (n : Nat) : Prop := ∀ (i : Nat → Int32) (a : Nat → List Int32) (q : Nat → List Int64) (r : Nat → Nat), kI i a q → kr r → ((i 7438).toInt + (n : Int)) = 6 → (i 7439).toInt ≤ (i 7437).toInt → (i 7437).toInt ≤ (i 7429).toInt → km (6 * n + 12) 154 [.ref 116] (ks i a q r) (kVI wR i a q r (fun v i1 a1 q1 r1 => (v = 1 ∧ ((((i1 7438).toInt = (i 7438).toInt) ∧ ((i 7437).toInt ≤ (i1 7437).toInt) ∧ ((i1 7437).toInt ≤ (i1 7429).toInt) ∧ (((i1 7439).toInt - (i1 7437).toInt) ≤ ((i 7439).toInt - (i 7437).toInt)) ∧ ((i 7439).toInt ≤ (i1 7439).toInt) ∧ (((i 7437).toInt + 1) ≤ (i1 7437).toInt)) ∧ kRun (a 127) (a1 127) (i 7439).toInt.toNat (i1 7439).toInt.toNat 1)) ∨ (v = 0 ∧ (((i1 7438).toInt = (i 7438).toInt) ∧ ((i 7437).toInt ≤ (i1 7437).toInt) ∧ ((i1 7437).toInt ≤ (i1 7429).toInt) ∧ (((i1 7439).toInt - (i1 7437).toInt) ≤ ((i 7439).toInt - (i 7437).toInt)) ∧ ((i 7439).toInt ≤ (i1 7439).toInt)))))
def kLR_155 (n : Nat) : Prop := ∀ (i : Nat → Int32) (a : Nat → List Int32) (q : Nat → List Int64) (r : Nat → Nat), kI i a q → kr r → ((i 7438).toInt + (n : Int)) = 6 → (i 7439).toInt ≤ (i 7437).toInt → (i 7437).toInt ≤ (i 7429).toInt → km (6 * n + 13) 155 [.ref 116] (ks i a q r) (kVI wR i a q r (fun v i1 a1 q1 r1 => (v = 1 ∧ ((((i1 7438).toInt = (i 7438).toInt) ∧ ((i 7437).toInt ≤ (i1 7437).toInt) ∧ ((i1 7437).toInt ≤ (i1 7429).toInt) ∧ (((i1 7439).toInt - (i1 7437).toInt) ≤ ((i 7439).toInt - (i 7437).toInt)) ∧ ((i 7439).toInt ≤ (i1 7439).toInt) ∧ (((i 7437).toInt + 1) ≤ (i1 7437).toInt)) ∧ kRun (a 127) (a1 127) (i 7439).toInt.toNat (i1 7439).toInt.toNat 1)) ∨ (v = 0 ∧ (((i1 7438).toInt = (i 7438).toInt) ∧ ((i 7437).toInt ≤ (i1 7437).toInt) ∧ ((i1 7437).toInt ≤ (i1 7429).toInt) ∧ (((i1 7439).toInt - (i1 7437).toInt) ≤ ((i 7439).toInt - (i 7437).toInt)) ∧ ((i 7439).toInt ≤ (i1 7439).toInt)))))
def w156_116_L9 : kW := ([7437, 7438, 7439], [127], [], [])
def kLR_156 (n : Nat) : Prop := ∀ (i : Nat → Int32) (a : Nat → List Int32) (q : Nat → List Int64) (r : Nat → Nat), kI i a q → kr r → ((i 7438).toInt + (n : Int)) = 6 → (i 7439).toInt ≤ (i 7437).toInt → (i 7437).toInt ≤ (i 7429).toInt → km (6 * n + 14) 156 [.ref 116] (ks i a q r) (kVI wR i a q r (fun v i1 a1 q1 r1 => (v = 1 ∧ ((((i1 7438).toInt = (i 7438).toInt) ∧ ((i 7437).toInt ≤ (i1 7437).toInt) ∧ ((i1 7437).toInt ≤ (i1 7429).toInt) ∧ (((i1 7439).toInt - (i1 7437).toInt) ≤ ((i 7439).toInt - (i 7437).toInt)) ∧ ((i 7439).toInt ≤ (i1 7439).toInt) ∧ (((i 7437).toInt + 1) ≤ (i1 7437).toInt)) ∧ kRun (a 127) (a1 127) (i 7439).toInt.toNat (i1 7439).toInt.toNat 1)) ∨ (v = 0 ∧ (((i1 7438).toInt = (i 7438).toInt) ∧ ((i 7437).toInt ≤ (i1 7437).toInt) ∧ ((i1 7437).toInt ≤ (i1 7429).toInt) ∧ (((i1 7439).toInt - (i1 7437).toInt) ≤ ((i 7439).toInt - (i 7437).toInt)) ∧ ((i 7439).toInt ≤ (i1 7439).toInt)))))
def w157_116_L9 : kW := ([7437, 7438, 7439], [127], [], [])
def kLR_157 (n : Nat) : Prop := ∀ (i : Nat → Int32) (a : Nat → List Int32) (q : Nat → List Int64) (r : Nat → Nat), kI i a q → kr r → ((i 7438).toInt + (n : Int)) = 6 → (i 7439).toInt ≤ (i 7437).toInt → (i 7437).toInt ≤ (i 7429).toInt → km (6 * n + 15) 157 [.ref 116] (ks i a q r) (kVI wR i a q r (fun v i1 a1 q1 r1 => (v = 1 ∧ ((((i1 7438).toInt = (i 7438).toInt) ∧ ((i 7437).toInt ≤ (i1 7437).toInt) ∧ ((i1 7437).toInt ≤ (i1 7429).toInt) ∧ (((i1 7439).toInt - (i1 7437).toInt) ≤ ((i 7439).toInt - (i 7437).toInt)) ∧ ((i 7439).toInt ≤ (i1 7439).toInt) ∧ (((i 7437).toInt + 1) ≤ (i1 7437).toInt)) ∧ kRun (a 127) (a1 127) (i 7439).toInt.toNat (i1 7439).toInt.toNat 1)) ∨ (v = 0 ∧ (((i1 7438).toInt = (i 7438).toInt) ∧ ((i 7437).toInt ≤ (i1 7437).toInt) ∧ ((i1 7437).toInt ≤ (i1 7429).toInt) ∧ (((i1 7439).toInt - (i1 7437).toInt) ≤ ((i 7439).toInt - (i 7437).toInt)) ∧ ((i 7439).toInt ≤ (i1 7439).toInt)))))
set_option maxRecDepth 100000 in
theorem kLsR_152 (n : Nat)  (ih : ∀ m, n = m + 1 → kLR_157 m ∧ kLR_152 m) : kLR_152 n := by
  intro i a q r hI hr hp0 hp1 hp2
  have hG := kG_self wR hI hr
  refine km_ofI (q := (mi_h152, mi_c152)) rfl (by decide) (Nat.le_of_ble_eq_true rfl) ?_
  intro P hP
  have fi_7439 : ((0 : Int) ≤ (i 7439).toInt) ∧ ((i 7439).toInt ≤ 200) := hG.I.1 7439
  have fi_7437 : ((0 : Int) ≤ (i 7437).toInt) ∧ ((i 7437).toInt ≤ 120) := hG.I.1 7437
  have fi_7429 : ((0 : Int) ≤ (i 7429).toInt) ∧ ((i 7429).toInt ≤ 120) := hG.I.1 7429
  have hn0 : (0 : Int) ≤ (n : Int) := Int.natCast_nonneg n
  have hR0 := kRun_start (a 127) ((i 7439).toInt.toNat)
  refine ko_steps mi_in152 1 _ (1, [(0, .ref 116)], [.ref 116], (0, 0), ks i a q r) (by rfl) ?_
  refine ko_callPI mi_in152 (pc := 1) (ls := [(0, .ref 116)]) (st := [.ref 116]) (h := ks i a q r) (i := (.invokevirtual 173, 3, 150, 0, 9, 0, 403)) (by rfl) (by rfl) (cy := mi_c150) rfl rfl (kc150_116 hG.I hG.R ) (kj_d3 (by decide)) ?_
  intro vg1 hg1
  rcases hg1 with ⟨eg1, hg1⟩ | ⟨eg1, hg1⟩
  ·
    subst eg1
    have z2 : ((i 7437).toInt < (i 7429).toInt) ∧ ((48 : Int) ≤ ((a 119).getD (i 7437).toNatClampNeg 0).toInt) ∧ (((a 119).getD (i 7437).toNatClampNeg 0).toInt ≤ 57) := hg1
    refine ko_steps mi_in152 5 _ (11, [(2, .int 0), (1, .int 0), (0, .ref 116)], [], (0, 0), ks i a q r) (by rfl) ?_
    have lp3 : ∀ (n : Nat) (i3 : Nat → Int32) (a3 : Nat → List Int32) (q3 : Nat → List Int64) (r3 : Nat → Nat) (l2_3 : Int32) (l1_3 : Int32), kG w152_116_L11 i a q r i3 a3 q3 r3 → ((l2_3.toInt = 0) ∧ (l1_3.toInt = 0)) ∨ ((l2_3.toInt = 1) ∧ ((0 : Int) ≤ l1_3.toInt) ∧ (l1_3.toInt ≤ 9)) ∨ ((l2_3.toInt = 2) ∧ ((0 : Int) ≤ l1_3.toInt) ∧ (l1_3.toInt ≤ 99)) ∨ ((l2_3.toInt = 3) ∧ ((0 : Int) ≤ l1_3.toInt) ∧ (l1_3.toInt ≤ 999)) ∨ ((l2_3.toInt = 4) ∧ ((0 : Int) ≤ l1_3.toInt) ∧ (l1_3.toInt ≤ 9999)) → (i3 7438).toInt = (i 7438).toInt → ((i 7437).toInt + l2_3.toInt) ≤ (i3 7437).toInt → (i3 7437).toInt ≤ (i3 7429).toInt → ((1 : Int) ≤ l2_3.toInt) ∨ ((i3 7437).toInt = (i 7437).toInt) → ((4 - l2_3.toInt)).toNat < n → ko (6 * n + 10) (mi_h152, mi_c152) P (11, [(2, .int l2_3), (1, .int l1_3), (0, .ref 116)], [], (0, 0), ks i3 a3 q3 r3) := by
      intro n
      induction n with
      | zero =>
        intro _ _ _ _ _ _ _ _ _ _ _ _ hm
        exact absurd hm (Nat.not_lt_zero _)
      | succ n ih3 =>
        intro i3 a3 q3 r3 l2_3 l1_3 hL3 p3_0 p3_1 p3_2 p3_3 p3_4 hm3
        have efi3_7438 : (i3 7438).toInt = (i 7438).toInt := hL3.ti 7438 rfl
        have fi3_7437 : ((0 : Int) ≤ (i3 7437).toInt) ∧ ((i3 7437).toInt ≤ 120) := hL3.I.1 7437
        have fi3_7429 : ((0 : Int) ≤ (i3 7429).toInt) ∧ ((i3 7429).toInt ≤ 120) := hL3.I.1 7429
        have efi3_7429 : (i3 7429).toInt = (i 7429).toInt := hL3.ti 7429 rfl
        have q4 : ((i3 7437).toInt = (i 7437).toInt → ((a3 119).getD (i3 7437).toNatClampNeg 0).toInt = ((a 119).getD (i 7437).toNatClampNeg 0).toInt) := fun h => by rw [Int32.toInt_inj.mp h, hL3.fa 119 rfl]
        refine ko_steps mi_in152 2 _ (13, [(2, .int l2_3), (1, .int l1_3), (0, .ref 116)], [.int 4, .int l2_3], (0, 0), ks i3 a3 q3 r3) (by rfl) ?_
        refine ko_if mi_in152 (decide (4 ≤ l2_3)) 57 16 ([(2, .int l2_3), (1, .int l1_3), (0, .ref 116)], [], (0, 0), ks i3 a3 q3 r3) (by rfl) (fun c => ?_) (fun c => ?_)
        ·
          have c5 : (4 : Int32).toInt ≤ l2_3.toInt := kd_le c; clear c
          have hG6 := kG_call hG hL3 (by decide +kernel)
          have s7 : (18 + l1_3).toInt = (18 : Int32).toInt + l1_3.toInt := kd_add (oz790 c5 p3_0 kn4 kn18) (oz791 c5 p3_0 kn4 kn18)
          refine ko_steps mi_in152 4 _ (62, [(2, .int l2_3), (1, .int l1_3), (0, .ref 116)], [.int (18 + l1_3), .ref 116], (0, 0), ks i3 a3 q3 r3) (by rfl) ?_
          have fi3_7439 : ((0 : Int) ≤ (i3 7439).toInt) ∧ ((i3 7439).toInt ≤ 200) := hG6.I.1 7439
          have efi3_7439 : (i3 7439).toInt = (i 7439).toInt := hL3.ti 7439 rfl
          refine ko_callI mi_in152 (pc := 62) (ls := [(2, .int l2_3), (1, .int l1_3), (0, .ref 116)]) (st := [.int (18 + l1_3), .ref 116]) (h := ks i3 a3 q3 r3) (i := (.invokevirtual 177, 3, 149, 0, 9, 0, 405)) (by rfl) (by rfl) (cy := mi_c149) rfl rfl (kc149_116 hG6.I hG6.R (18 + l1_3) (oz792 efi3_7439 fi3_7439.1 fi_7437.2 hp1)) (kj_d3 (by decide)) ?_
          intro vg8 ig8 ag8 qg8 rg8 kg8 hg8
          have hGg8 := kG_call hG6 kg8 (by decide +kernel)
          rcases hg8 with ⟨eg8, hg8⟩ | ⟨eg8, hg8⟩
          ·
            subst eg8
            obtain ⟨hg8, og8⟩ := hg8
            have fig8_7439 : ((0 : Int) ≤ (ig8 7439).toInt) ∧ ((ig8 7439).toInt ≤ 200) := hGg8.I.1 7439
            have z9 : (ig8 7439).toInt = ((i3 7439).toInt + 1) := hg8
            have hR10 := kRun_code (x := (i3 7439)) (d := (ig8 7439).toInt.toNat) (kRun_cast hR0 (hL3.fa 127 rfl) (congrArg Int.toNat (oz719 efi3_7439))) rfl (kj_len (n := 200) (c := 200) (hG6.I.2.1 127) rfl (oz750 fig8_7439.2 z9) (by decide)) og8 (kEff_push 0 (Or.inl (oz793 c5 p3_0 s7 kn4 kn18))) (kj_tn (oz751 z9) (oz3 fi3_7439.1))
            have efig8_7438 : (ig8 7438).toInt = (i3 7438).toInt := kg8.ti 7438 rfl
            have fig8_7437 : ((0 : Int) ≤ (ig8 7437).toInt) ∧ ((ig8 7437).toInt ≤ 120) := hGg8.I.1 7437
            have efig8_7437 : (ig8 7437).toInt = (i3 7437).toInt := kg8.ti 7437 rfl
            have fig8_7429 : ((0 : Int) ≤ (ig8 7429).toInt) ∧ ((ig8 7429).toInt ≤ 120) := hGg8.I.1 7429
            have efig8_7429 : (ig8 7429).toInt = (i3 7429).toInt := kg8.ti 7429 rfl
            exact ko_ret mi_in152 (by rfl) (hP 1 _ _ _ _ hGg8 (Or.inl ⟨rfl, ⟨(oz794 c5 efi3_7438 efi3_7439 efig8_7429 efig8_7437 efig8_7438 p3_2 p3_3 z9 kn4), (kRun_cast hR10 rfl (congrArg Int.toNat oz34))⟩⟩))
          ·
            subst eg8
            have z11 : (2 : Int) ≤ 1 := hg8
            exact (oz755 z11).elim
        ·
          have c12 : l2_3.toInt < (4 : Int32).toInt := kd_leF c; clear c
          refine ko_steps mi_in152 1 _ (17, [(2, .int l2_3), (1, .int l1_3), (0, .ref 116)], [.ref 116], (0, 0), ks i3 a3 q3 r3) (by rfl) ?_
          refine ko_callPI mi_in152 (pc := 17) (ls := [(2, .int l2_3), (1, .int l1_3), (0, .ref 116)]) (st := [.ref 116]) (h := ks i3 a3 q3 r3) (i := (.invokevirtual 173, 3, 150, 0, 9, 0, 403)) (by rfl) (by rfl) (cy := mi_c150) rfl rfl (kc150_116 hL3.I hL3.R ) (kj_d3 (by decide)) ?_
          intro vg13 hg13
          rcases hg13 with ⟨eg13, hg13⟩ | ⟨eg13, hg13⟩
          ·
            subst eg13
            have z14 : ((i3 7437).toInt < (i3 7429).toInt) ∧ ((48 : Int) ≤ ((a3 119).getD (i3 7437).toNatClampNeg 0).toInt) ∧ (((a3 119).getD (i3 7437).toNatClampNeg 0).toInt ≤ 57) := hg13
            have s15 : (10 * l1_3).toInt = 10 * l1_3.toInt := kd_cmul 10 kn10 (oz795 c12 p3_0 kn4) (oz796 c12 p3_0 kn4)
            refine ko_steps mi_in152 8 _ (35, [(2, .int l2_3), (1, .int l1_3), (0, .ref 116)], [.int (i3 7437), .ref 119, .int (10 * l1_3)], (0, 0), ks i3 a3 q3 r3) (by rfl) ?_
            refine ko_iald3 mi_in152 (n := 120) (c := 120) (ax := (0, 0, 0, 0, 0)) (by rfl) (by rfl) (ksG119 _ _ _ _) (hL3.I.2.1 119) rfl (oz3 fi3_7437.1) (oz710 fi3_7429.2 z14.1) ?_
            have s16 : ((10 * l1_3) + ((a3 119).getD (i3 7437).toNatClampNeg 0)).toInt = (10 * l1_3).toInt + ((a3 119).getD (i3 7437).toNatClampNeg 0).toInt := kd_add (oz797 c12 p3_0 s15 z14.2.1 kn4) (oz798 c12 p3_0 s15 z14.2.2 kn4)
            have s17 : (((10 * l1_3) + ((a3 119).getD (i3 7437).toNatClampNeg 0)) - 48).toInt = ((10 * l1_3) + ((a3 119).getD (i3 7437).toNatClampNeg 0)).toInt - (48 : Int32).toInt := kd_sub (oz799 c12 p3_0 s15 s16 z14.2.1 kn4 kn48) (oz800 c12 p3_0 s15 s16 z14.2.2 kn4 kn48)
            have s18 : ((i3 7437) + 1).toInt = (i3 7437).toInt + (1 : Int32).toInt := kd_add (oz12 fi3_7437.1 kn1) (oz192 fi3_7437.2 kn1)
            have hJ19 := kG_i hL3 7437 rfl (v := ((i3 7437) + 1)) ⟨(oz14 fi3_7437.1 s18 kn1), (oz715 fi3_7429.2 s18 z14.1 kn1)⟩
            have s20 : (l2_3 + 1).toInt = l2_3.toInt + (1 : Int32).toInt := kd_add (oz716 p3_0 kn1) (oz717 c12 kn4 kn1)
            refine ko_steps mi_in152 12 _ (11, [(2, .int (l2_3 + 1)), (1, .int (((10 * l1_3) + ((a3 119).getD (i3 7437).toNatClampNeg 0)) - 48)), (0, .ref 116)], [], (0, 0), ks (ku i3 7437 ((i3 7437) + 1)) a3 q3 r3) (by rfl) ?_
            exact ih3 _ _ _ _ _ _ hJ19 (oz801 c12 p3_0 s15 s16 s17 s20 z14.2.1 z14.2.2 kn4 kn48 kn1) (oz719 efi3_7438) (oz720 p3_2 s18 s20 kn1) (oz721 s18 z14.1 kn1) (oz722 p3_0 s20 kn1) (kj_meas (oz723 s20 kn1) (oz724 c12 kn4) hm3)
          ·
            subst eg13
            have z21 : ¬ (((i3 7437).toInt < (i3 7429).toInt) ∧ ((48 : Int) ≤ ((a3 119).getD (i3 7437).toNatClampNeg 0).toInt) ∧ (((a3 119).getD (i3 7437).toNatClampNeg 0).toInt ≤ 57)) := hg13
            refine ko_steps mi_in152 1 _ (57, [(2, .int l2_3), (1, .int l1_3), (0, .ref 116)], [], (0, 0), ks i3 a3 q3 r3) (by rfl) ?_
            have hG22 := kG_call hG hL3 (by decide +kernel)
            have s23 : (18 + l1_3).toInt = (18 : Int32).toInt + l1_3.toInt := kd_add (oz802 c12 p3_0 kn4 kn18) (oz803 c12 p3_0 kn4 kn18)
            refine ko_steps mi_in152 4 _ (62, [(2, .int l2_3), (1, .int l1_3), (0, .ref 116)], [.int (18 + l1_3), .ref 116], (0, 0), ks i3 a3 q3 r3) (by rfl) ?_
            have fi3_7439 : ((0 : Int) ≤ (i3 7439).toInt) ∧ ((i3 7439).toInt ≤ 200) := hG22.I.1 7439
            have efi3_7439 : (i3 7439).toInt = (i 7439).toInt := hL3.ti 7439 rfl
            refine ko_callI mi_in152 (pc := 62) (ls := [(2, .int l2_3), (1, .int l1_3), (0, .ref 116)]) (st := [.int (18 + l1_3), .ref 116]) (h := ks i3 a3 q3 r3) (i := (.invokevirtual 177, 3, 149, 0, 9, 0, 405)) (by rfl) (by rfl) (cy := mi_c149) rfl rfl (kc149_116 hG22.I hG22.R (18 + l1_3) (oz792 efi3_7439 fi3_7439.1 fi_7437.2 hp1)) (kj_d3 (by decide)) ?_
            intro vg24 ig24 ag24 qg24 rg24 kg24 hg24
            have hGg24 := kG_call hG22 kg24 (by decide +kernel)
            rcases hg24 with ⟨eg24, hg24⟩ | ⟨eg24, hg24⟩
            ·
              subst eg24
              obtain ⟨hg24, og24⟩ := hg24
              have fig24_7439 : ((0 : Int) ≤ (ig24 7439).toInt) ∧ ((ig24 7439).toInt ≤ 200) := hGg24.I.1 7439
              have z25 : (ig24 7439).toInt = ((i3 7439).toInt + 1) := hg24
              have hR26 := kRun_code (x := (i3 7439)) (d := (ig24 7439).toInt.toNat) (kRun_cast hR0 (hL3.fa 127 rfl) (congrArg Int.toNat (oz719 efi3_7439))) rfl (kj_len (n := 200) (c := 200) (hG22.I.2.1 127) rfl (oz750 fig24_7439.2 z25) (by decide)) og24 (kEff_push 0 (Or.inl (oz804 c12 p3_0 s23 kn4 kn18))) (kj_tn (oz751 z25) (oz3 fi3_7439.1))
              have efig24_7438 : (ig24 7438).toInt = (i3 7438).toInt := kg24.ti 7438 rfl
              have fig24_7437 : ((0 : Int) ≤ (ig24 7437).toInt) ∧ ((ig24 7437).toInt ≤ 120) := hGg24.I.1 7437
              have efig24_7437 : (ig24 7437).toInt = (i3 7437).toInt := kg24.ti 7437 rfl
              have fig24_7429 : ((0 : Int) ≤ (ig24 7429).toInt) ∧ ((ig24 7429).toInt ≤ 120) := hGg24.I.1 7429
              have efig24_7429 : (ig24 7429).toInt = (i3 7429).toInt := kg24.ti 7429 rfl
              exact ko_ret mi_in152 (by rfl) (hP 1 _ _ _ _ hGg24 (Or.inl ⟨rfl, ⟨(oz805 efi3_7429 efi3_7438 efi3_7439 efig24_7429 efig24_7437 efig24_7438 p3_2 p3_3 p3_4 q4 z2.1 z2.2.1 z2.2.2 z21 z25), (kRun_cast hR26 rfl (congrArg Int.toNat oz34))⟩⟩))
            ·
              subst eg24
              have z27 : (2 : Int) ≤ 1 := hg24
              exact (oz755 z27).elim
    exact lp3 _ _ _ _ _ _ _ (kG_self _ hG.I hG.R) (oz726 kn0) oz34 (oz727 kn0) (oz728 z2.1) (oz729 kn0) (Nat.lt_succ_self _)
  ·
    subst eg1
    have z28 : ¬ (((i 7437).toInt < (i 7429).toInt) ∧ ((48 : Int) ≤ ((a 119).getD (i 7437).toNatClampNeg 0).toInt) ∧ (((a 119).getD (i 7437).toNatClampNeg 0).toInt ≤ 57)) := hg1
    refine ko_steps mi_in152 2 _ (67, [(0, .ref 116)], [.ref 116], (0, 0), ks i a q r) (by rfl) ?_
    refine ko_callPI mi_in152 (pc := 67) (ls := [(0, .ref 116)]) (st := [.ref 116]) (h := ks i a q r) (i := (.invokevirtual 166, 3, 147, 0, 9, 0, 404)) (by rfl) (by rfl) (cy := mi_c147) rfl rfl (kc147_116 hG.I hG.R ) (kj_d3 (by decide)) ?_
    intro vg29 hg29
    have z30 : ((vg29.toInt = (-1)) ∧ ((i 7429).toInt ≤ (i 7437).toInt)) ∨ (((i 7437).toInt < (i 7429).toInt) ∧ (vg29.toInt = ((a 119).getD (i 7437).toNatClampNeg 0).toInt)) := hg29
    refine ko_callPI mi_in152 (pc := 70) (ls := [(0, .ref 116)]) (st := [.int vg29]) (h := ks i a q r) (i := (.invokestatic 180, 3, 151, 0, 9, 0, 406)) (by rfl) (by rfl) (cy := mi_c151) rfl rfl (kc151 hG.I hG.R vg29) (kj_d3 (by decide)) ?_
    intro vg31 hg31
    have z32 : (((-1) : Int) ≤ vg31.toInt) ∧ (vg31.toInt ≤ 5) ∧ ((vg31.toInt = (-1)) ∨ ((100 : Int) ≤ vg29.toInt)) := hg31
    refine ko_steps mi_in152 2 _ (75, [(1, .int vg31), (0, .ref 116)], [.int vg31], (0, 0), ks i a q r) (by rfl) ?_
    refine ko_if mi_in152 (decide (vg31 < 0)) 94 78 ([(1, .int vg31), (0, .ref 116)], [], (0, 0), ks i a q r) (by rfl) (fun c => ?_) (fun c => ?_)
    ·
      have c33 : vg31.toInt < (0 : Int32).toInt := kd_lt c; clear c
      refine ko_steps mi_in152 3 _ (100, [(1, .int vg31), (0, .ref 116)], [.int 6, .int (i 7438)], (0, 0), ks i a q r) (by rfl) ?_
      refine ko_if mi_in152 ((i 7438) != 6) 105 103 ([(1, .int vg31), (0, .ref 116)], [], (0, 0), ks i a q r) (by rfl) (fun c => ?_) (fun c => ?_)
      ·
        have c34 : (i 7438).toInt ≠ (6 : Int32).toInt := kd_ne c; clear c
        have b35 : ((-2147483648 : Int) ≤ (i 7438).toInt) ∧ ((i 7438).toInt ≤ 2147483647) := kd_bd (i 7438)
        have s36 : ((i 7438) + 1).toInt = (i 7438).toInt + (1 : Int32).toInt := kd_add (oz738 b35.1 kn1) (oz739 hn0 hp0 kn1)
        have hJ37 := kG_i hG 7438 rfl (v := ((i 7438) + 1)) (kd_bd _)
        refine ko_steps mi_in152 8 _ (118, [(1, .int vg31), (0, .ref 116)], [.int 33, .ref 116], (0, 0), ks (ku i 7438 ((i 7438) + 1)) a q r) (by rfl) ?_
        refine ko_callI mi_in152 (pc := 118) (ls := [(1, .int vg31), (0, .ref 116)]) (st := [.int 33, .ref 116]) (h := ks (ku i 7438 ((i 7438) + 1)) a q r) (i := (.invokevirtual 187, 3, 148, 0, 9, 0, 407)) (by rfl) (by rfl) (cy := mi_c148) rfl rfl (kc148_116 hJ37.I hJ37.R 33 (oz742 kn33)) (kj_d3 (by decide)) ?_
        intro vg38 ig38 ag38 qg38 rg38 kg38 hg38
        have hGg38 := kG_call hJ37 kg38 (by decide +kernel)
        rcases hg38 with ⟨eg38, hg38⟩ | ⟨eg38, hg38⟩
        ·
          subst eg38
          have fig38_7437 : ((0 : Int) ≤ (ig38 7437).toInt) ∧ ((ig38 7437).toInt ≤ 120) := hGg38.I.1 7437
          have fig38_7429 : ((0 : Int) ≤ (ig38 7429).toInt) ∧ ((ig38 7429).toInt ≤ 120) := hGg38.I.1 7429
          have efig38_7429 : (ig38 7429).toInt = (i 7429).toInt := kg38.ti 7429 rfl
          have z39 : ((ig38 7437).toInt = ((i 7437).toInt + 1)) ∧ ((ig38 7437).toInt ≤ (ig38 7429).toInt) := hg38
          refine ko_steps mi_in152 2 _ (125, [(1, .int vg31), (0, .ref 116)], [.ref 116], (0, 0), ks ig38 ag38 qg38 rg38) (by rfl) ?_
          obtain ⟨m, hm, hmI⟩ := kj_pred (oz743 c34 hn0 hp0 kn6)
          have efig38_7438 : (ig38 7438).toInt = ((i 7438) + 1).toInt := kg38.ti 7438 rfl
          have fig38_7439 : ((0 : Int) ≤ (ig38 7439).toInt) ∧ ((ig38 7439).toInt ≤ 200) := hGg38.I.1 7439
          have efig38_7439 : (ig38 7439).toInt = (i 7439).toInt := kg38.ti 7439 rfl
          refine ko_callI mi_in152 (pc := 125) (ls := [(1, .int vg31), (0, .ref 116)]) (st := [.ref 116]) (h := ks ig38 ag38 qg38 rg38) (i := (.invokevirtual 190, 3, 152, 0, 9, 0, 402)) (by rfl) (by rfl) (cy := mi_c152) rfl rfl ((ih m hm).2 _ _ _ _ hGg38.I hGg38.R (oz744 efig38_7438 hmI hp0 s36 kn1) (oz745 efig38_7439 hp1 z39.1) (oz173 z39.2)) (kj_d2 hm (by decide)) ?_
          intro vg40 ig40 ag40 qg40 rg40 kg40 hg40
          have hGg40 := kG_call hGg38 kg40 (by decide +kernel)
          rcases hg40 with ⟨eg40, hg40⟩ | ⟨eg40, hg40⟩
          ·
            subst eg40
            obtain ⟨hg40, og40⟩ := hg40
            have fig40_7437 : ((0 : Int) ≤ (ig40 7437).toInt) ∧ ((ig40 7437).toInt ≤ 120) := hGg40.I.1 7437
            have fig40_7429 : ((0 : Int) ≤ (ig40 7429).toInt) ∧ ((ig40 7429).toInt ≤ 120) := hGg40.I.1 7429
            have efig40_7429 : (ig40 7429).toInt = (ig38 7429).toInt := kg40.ti 7429 rfl
            have fig40_7439 : ((0 : Int) ≤ (ig40 7439).toInt) ∧ ((ig40 7439).toInt ≤ 200) := hGg40.I.1 7439
            have z41 : ((ig40 7438).toInt = (ig38 7438).toInt) ∧ ((ig38 7437).toInt ≤ (ig40 7437).toInt) ∧ ((ig40 7437).toInt ≤ (ig40 7429).toInt) ∧ (((ig40 7439).toInt - (ig40 7437).toInt) ≤ ((ig38 7439).toInt - (ig38 7437).toInt)) ∧ ((ig38 7439).toInt ≤ (ig40 7439).toInt) ∧ (((ig38 7437).toInt + 1) ≤ (ig40 7437).toInt) := hg40
            have hR42 := kRun_sub (kRun_cast hR0 (kg38.fa 127 rfl) (congrArg Int.toNat (oz719 efig38_7439))) og40
            refine ko_steps mi_in152 3 _ (134, [(1, .int vg31), (0, .ref 116)], [.int 16, .ref 116], (0, 0), ks ig40 ag40 qg40 rg40) (by rfl) ?_
            refine ko_callI mi_in152 (pc := 134) (ls := [(1, .int vg31), (0, .ref 116)]) (st := [.int 16, .ref 116]) (h := ks ig40 ag40 qg40 rg40) (i := (.invokevirtual 177, 3, 149, 0, 9, 0, 405)) (by rfl) (by rfl) (cy := mi_c149) rfl rfl (kc149_116 hGg40.I hGg40.R 16 (oz806 efig38_7439 fig40_7437.2 fig40_7439.1 hp1 z39.1 z41.2.2.2.1)) (kj_d3 (by decide)) ?_
            intro vg43 ig43 ag43 qg43 rg43 kg43 hg43
            have hGg43 := kG_call hGg40 kg43 (by decide +kernel)
            rcases hg43 with ⟨eg43, hg43⟩ | ⟨eg43, hg43⟩
            ·
              subst eg43
              obtain ⟨hg43, og43⟩ := hg43
              have fig43_7439 : ((0 : Int) ≤ (ig43 7439).toInt) ∧ ((ig43 7439).toInt ≤ 200) := hGg43.I.1 7439
              have z44 : (ig43 7439).toInt = ((ig40 7439).toInt + 1) := hg43
              have hR45 := kRun_code (x := (ig40 7439)) (d := (ig43 7439).toInt.toNat) (kRun_cast hR42 rfl (congrArg Int.toNat oz34)) rfl (kj_len (n := 200) (c := 200) (hGg40.I.2.1 127) rfl (oz750 fig43_7439.2 z44) (by decide)) og43 (kEff_un (Or.inl kn16) (by decide)) (kj_tn (oz751 z44) (oz3 fig40_7439.1))
              have efig43_7438 : (ig43 7438).toInt = (ig40 7438).toInt := kg43.ti 7438 rfl
              have s46 : ((ig43 7438) - 1).toInt = (ig43 7438).toInt - (1 : Int32).toInt := kd_sub (oz752 b35.1 efig38_7438 efig43_7438 s36 z41.1 kn1) (oz753 efig38_7438 efig43_7438 hn0 hp0 s36 z41.1 kn1)
              have hJ47 := kG_i hGg43 7438 rfl (v := ((ig43 7438) - 1)) (kd_bd _)
              refine ko_steps mi_in152 12 _ (225, [(2, .int 1), (1, .int vg31), (0, .ref 116)], [.int 1], (0, 0), ks (ku ig43 7438 ((ig43 7438) - 1)) ag43 qg43 rg43) (by rfl) ?_
              have fig43_7437 : ((0 : Int) ≤ (ig43 7437).toInt) ∧ ((ig43 7437).toInt ≤ 120) := hJ47.I.1 7437
              have efig43_7437 : (ig43 7437).toInt = (ig40 7437).toInt := kg43.ti 7437 rfl
              have fig43_7429 : ((0 : Int) ≤ (ig43 7429).toInt) ∧ ((ig43 7429).toInt ≤ 120) := hJ47.I.1 7429
              have efig43_7429 : (ig43 7429).toInt = (ig40 7429).toInt := kg43.ti 7429 rfl
              exact ko_ret mi_in152 (by rfl) (hP 1 _ _ _ _ hJ47 (Or.inl ⟨rfl, ⟨(oz807 efig38_7438 efig38_7439 efig43_7429 efig43_7437 efig43_7438 s36 s46 z39.1 z41.1 z41.2.2.1 z41.2.2.2.1 z41.2.2.2.2.1 z41.2.2.2.2.2 z44 kn1), (kRun_cast hR45 rfl (congrArg Int.toNat oz34))⟩⟩))
            ·
              subst eg43
              have z48 : (2 : Int) ≤ 1 := hg43
              exact (oz755 z48).elim
          ·
            subst eg40
            have fig40_7437 : ((0 : Int) ≤ (ig40 7437).toInt) ∧ ((ig40 7437).toInt ≤ 120) := hGg40.I.1 7437
            have fig40_7429 : ((0 : Int) ≤ (ig40 7429).toInt) ∧ ((ig40 7429).toInt ≤ 120) := hGg40.I.1 7429
            have efig40_7429 : (ig40 7429).toInt = (ig38 7429).toInt := kg40.ti 7429 rfl
            have fig40_7439 : ((0 : Int) ≤ (ig40 7439).toInt) ∧ ((ig40 7439).toInt ≤ 200) := hGg40.I.1 7439
            have z49 : ((ig40 7438).toInt = (ig38 7438).toInt) ∧ ((ig38 7437).toInt ≤ (ig40 7437).toInt) ∧ ((ig40 7437).toInt ≤ (ig40 7429).toInt) ∧ (((ig40 7439).toInt - (ig40 7437).toInt) ≤ ((ig38 7439).toInt - (ig38 7437).toInt)) ∧ ((ig38 7439).toInt ≤ (ig40 7439).toInt) := hg40
            have s50 : ((ig40 7438) - 1).toInt = (ig40 7438).toInt - (1 : Int32).toInt := kd_sub (oz756 b35.1 efig38_7438 s36 z49.1 kn1) (oz757 efig38_7438 hn0 hp0 s36 z49.1 kn1)
            have hJ51 := kG_i hGg40 7438 rfl (v := ((ig40 7438) - 1)) (kd_bd _)
            refine ko_steps mi_in152 11 _ (225, [(2, .int 0), (1, .int vg31), (0, .ref 116)], [.int 0], (0, 0), ks (ku ig40 7438 ((ig40 7438) - 1)) ag40 qg40 rg40) (by rfl) ?_
            exact ko_ret mi_in152 (by rfl) (hP 0 _ _ _ _ hJ51 (Or.inr ⟨rfl, (oz758 efig38_7438 efig38_7439 s36 s50 z39.1 z49.1 z49.2.1 z49.2.2.1 z49.2.2.2.1 z49.2.2.2.2 kn1)⟩))
        ·
          subst eg38
          have fig38_7437 : ((0 : Int) ≤ (ig38 7437).toInt) ∧ ((ig38 7437).toInt ≤ 120) := hGg38.I.1 7437
          have z52 : (ig38 7437).toInt = (i 7437).toInt := hg38
          refine ko_steps mi_in152 3 _ (152, [(1, .int vg31), (0, .ref 116)], [.int 45, .ref 116], (0, 0), ks ig38 ag38 qg38 rg38) (by rfl) ?_
          refine ko_callI mi_in152 (pc := 152) (ls := [(1, .int vg31), (0, .ref 116)]) (st := [.int 45, .ref 116]) (h := ks ig38 ag38 qg38 rg38) (i := (.invokevirtual 187, 3, 148, 0, 9, 0, 407)) (by rfl) (by rfl) (cy := mi_c148) rfl rfl (kc148_116 hGg38.I hGg38.R 45 (oz759 kn45)) (kj_d3 (by decide)) ?_
          intro vg53 ig53 ag53 qg53 rg53 kg53 hg53
          have hGg53 := kG_call hGg38 kg53 (by decide +kernel)
          rcases hg53 with ⟨eg53, hg53⟩ | ⟨eg53, hg53⟩
          ·
            subst eg53
            have fig53_7437 : ((0 : Int) ≤ (ig53 7437).toInt) ∧ ((ig53 7437).toInt ≤ 120) := hGg53.I.1 7437
            have fig53_7429 : ((0 : Int) ≤ (ig53 7429).toInt) ∧ ((ig53 7429).toInt ≤ 120) := hGg53.I.1 7429
            have fig38_7429 : ((0 : Int) ≤ (ig38 7429).toInt) ∧ ((ig38 7429).toInt ≤ 120) := hGg38.I.1 7429
            have efig38_7429 : (ig38 7429).toInt = (i 7429).toInt := kg38.ti 7429 rfl
            have efig53_7429 : (ig53 7429).toInt = (ig38 7429).toInt := kg53.ti 7429 rfl
            have z54 : ((ig53 7437).toInt = ((ig38 7437).toInt + 1)) ∧ ((ig53 7437).toInt ≤ (ig53 7429).toInt) := hg53
            refine ko_steps mi_in152 2 _ (159, [(1, .int vg31), (0, .ref 116)], [.ref 116], (0, 0), ks ig53 ag53 qg53 rg53) (by rfl) ?_
            obtain ⟨m, hm, hmI⟩ := kj_pred (oz743 c34 hn0 hp0 kn6)
            have efig38_7438 : (ig38 7438).toInt = ((i 7438) + 1).toInt := kg38.ti 7438 rfl
            have efig53_7438 : (ig53 7438).toInt = (ig38 7438).toInt := kg53.ti 7438 rfl
            have fig53_7439 : ((0 : Int) ≤ (ig53 7439).toInt) ∧ ((ig53 7439).toInt ≤ 200) := hGg53.I.1 7439
            have fig38_7439 : ((0 : Int) ≤ (ig38 7439).toInt) ∧ ((ig38 7439).toInt ≤ 200) := hGg38.I.1 7439
            have efig38_7439 : (ig38 7439).toInt = (i 7439).toInt := kg38.ti 7439 rfl
            have efig53_7439 : (ig53 7439).toInt = (ig38 7439).toInt := kg53.ti 7439 rfl
            refine ko_callI mi_in152 (pc := 159) (ls := [(1, .int vg31), (0, .ref 116)]) (st := [.ref 116]) (h := ks ig53 ag53 qg53 rg53) (i := (.invokevirtual 190, 3, 152, 0, 9, 0, 402)) (by rfl) (by rfl) (cy := mi_c152) rfl rfl ((ih m hm).2 _ _ _ _ hGg53.I hGg53.R (oz760 efig38_7438 efig53_7438 hmI hp0 s36 kn1) (oz761 efig38_7439 efig53_7439 hp1 z52 z54.1) (oz173 z54.2)) (kj_d2 hm (by decide)) ?_
            intro vg55 ig55 ag55 qg55 rg55 kg55 hg55
            have hGg55 := kG_call hGg53 kg55 (by decide +kernel)
            rcases hg55 with ⟨eg55, hg55⟩ | ⟨eg55, hg55⟩
            ·
              subst eg55
              obtain ⟨hg55, og55⟩ := hg55
              have fig55_7437 : ((0 : Int) ≤ (ig55 7437).toInt) ∧ ((ig55 7437).toInt ≤ 120) := hGg55.I.1 7437
              have fig55_7429 : ((0 : Int) ≤ (ig55 7429).toInt) ∧ ((ig55 7429).toInt ≤ 120) := hGg55.I.1 7429
              have efig55_7429 : (ig55 7429).toInt = (ig53 7429).toInt := kg55.ti 7429 rfl
              have fig55_7439 : ((0 : Int) ≤ (ig55 7439).toInt) ∧ ((ig55 7439).toInt ≤ 200) := hGg55.I.1 7439
              have z56 : ((ig55 7438).toInt = (ig53 7438).toInt) ∧ ((ig53 7437).toInt ≤ (ig55 7437).toInt) ∧ ((ig55 7437).toInt ≤ (ig55 7429).toInt) ∧ (((ig55 7439).toInt - (ig55 7437).toInt) ≤ ((ig53 7439).toInt - (ig53 7437).toInt)) ∧ ((ig53 7439).toInt ≤ (ig55 7439).toInt) ∧ (((ig53 7437).toInt + 1) ≤ (ig55 7437).toInt) := hg55
              have hR57 := kRun_sub (kRun_cast hR0 ((kg53.fa 127 rfl).trans (kg38.fa 127 rfl)) (congrArg Int.toNat (oz762 efig38_7439 efig53_7439))) og55
              refine ko_steps mi_in152 3 _ (168, [(1, .int vg31), (0, .ref 116)], [.int 17, .ref 116], (0, 0), ks ig55 ag55 qg55 rg55) (by rfl) ?_
              refine ko_callI mi_in152 (pc := 168) (ls := [(1, .int vg31), (0, .ref 116)]) (st := [.int 17, .ref 116]) (h := ks ig55 ag55 qg55 rg55) (i := (.invokevirtual 177, 3, 149, 0, 9, 0, 405)) (by rfl) (by rfl) (cy := mi_c149) rfl rfl (kc149_116 hGg55.I hGg55.R 17 (oz763 efig38_7439 efig53_7439 fig55_7437.2 fig55_7439.1 hp1 z52 z54.1 z56.2.2.2.1)) (kj_d3 (by decide)) ?_
              intro vg58 ig58 ag58 qg58 rg58 kg58 hg58
              have hGg58 := kG_call hGg55 kg58 (by decide +kernel)
              rcases hg58 with ⟨eg58, hg58⟩ | ⟨eg58, hg58⟩
              ·
                subst eg58
                obtain ⟨hg58, og58⟩ := hg58
                have fig58_7439 : ((0 : Int) ≤ (ig58 7439).toInt) ∧ ((ig58 7439).toInt ≤ 200) := hGg58.I.1 7439
                have z59 : (ig58 7439).toInt = ((ig55 7439).toInt + 1) := hg58
                have hR60 := kRun_code (x := (ig55 7439)) (d := (ig58 7439).toInt.toNat) (kRun_cast hR57 rfl (congrArg Int.toNat oz34)) rfl (kj_len (n := 200) (c := 200) (hGg55.I.2.1 127) rfl (oz750 fig58_7439.2 z59) (by decide)) og58 (kEff_un (Or.inr kn17) (by decide)) (kj_tn (oz751 z59) (oz3 fig55_7439.1))
                have efig58_7438 : (ig58 7438).toInt = (ig55 7438).toInt := kg58.ti 7438 rfl
                have s61 : ((ig58 7438) - 1).toInt = (ig58 7438).toInt - (1 : Int32).toInt := kd_sub (oz764 b35.1 efig38_7438 efig53_7438 efig58_7438 s36 z56.1 kn1) (oz765 efig38_7438 efig53_7438 efig58_7438 hn0 hp0 s36 z56.1 kn1)
                have hJ62 := kG_i hGg58 7438 rfl (v := ((ig58 7438) - 1)) (kd_bd _)
                refine ko_steps mi_in152 12 _ (225, [(2, .int 1), (1, .int vg31), (0, .ref 116)], [.int 1], (0, 0), ks (ku ig58 7438 ((ig58 7438) - 1)) ag58 qg58 rg58) (by rfl) ?_
                have fig58_7437 : ((0 : Int) ≤ (ig58 7437).toInt) ∧ ((ig58 7437).toInt ≤ 120) := hJ62.I.1 7437
                have efig58_7437 : (ig58 7437).toInt = (ig55 7437).toInt := kg58.ti 7437 rfl
                have fig58_7429 : ((0 : Int) ≤ (ig58 7429).toInt) ∧ ((ig58 7429).toInt ≤ 120) := hJ62.I.1 7429
                have efig58_7429 : (ig58 7429).toInt = (ig55 7429).toInt := kg58.ti 7429 rfl
                exact ko_ret mi_in152 (by rfl) (hP 1 _ _ _ _ hJ62 (Or.inl ⟨rfl, ⟨(oz766 efig38_7438 efig38_7439 efig53_7438 efig53_7439 efig58_7429 efig58_7437 efig58_7438 s36 s61 z52 z54.1 z56.1 z56.2.2.1 z56.2.2.2.1 z56.2.2.2.2.1 z56.2.2.2.2.2 z59 kn1), (kRun_cast hR60 rfl (congrArg Int.toNat oz34))⟩⟩))
              ·
                subst eg58
                have z63 : (2 : Int) ≤ 1 := hg58
                exact (oz755 z63).elim
            ·
              subst eg55
              have fig55_7437 : ((0 : Int) ≤ (ig55 7437).toInt) ∧ ((ig55 7437).toInt ≤ 120) := hGg55.I.1 7437
              have fig55_7429 : ((0 : Int) ≤ (ig55 7429).toInt) ∧ ((ig55 7429).toInt ≤ 120) := hGg55.I.1 7429
              have efig55_7429 : (ig55 7429).toInt = (ig53 7429).toInt := kg55.ti 7429 rfl
              have fig55_7439 : ((0 : Int) ≤ (ig55 7439).toInt) ∧ ((ig55 7439).toInt ≤ 200) := hGg55.I.1 7439
              have z64 : ((ig55 7438).toInt = (ig53 7438).toInt) ∧ ((ig53 7437).toInt ≤ (ig55 7437).toInt) ∧ ((ig55 7437).toInt ≤ (ig55 7429).toInt) ∧ (((ig55 7439).toInt - (ig55 7437).toInt) ≤ ((ig53 7439).toInt - (ig53 7437).toInt)) ∧ ((ig53 7439).toInt ≤ (ig55 7439).toInt) := hg55
              have s65 : ((ig55 7438) - 1).toInt = (ig55 7438).toInt - (1 : Int32).toInt := kd_sub (oz767 b35.1 efig38_7438 efig53_7438 s36 z64.1 kn1) (oz768 efig38_7438 efig53_7438 hn0 hp0 s36 z64.1 kn1)
              have hJ66 := kG_i hGg55 7438 rfl (v := ((ig55 7438) - 1)) (kd_bd _)
              refine ko_steps mi_in152 11 _ (225, [(2, .int 0), (1, .int vg31), (0, .ref 116)], [.int 0], (0, 0), ks (ku ig55 7438 ((ig55 7438) - 1)) ag55 qg55 rg55) (by rfl) ?_
              exact ko_ret mi_in152 (by rfl) (hP 0 _ _ _ _ hJ66 (Or.inr ⟨rfl, (oz769 efig38_7438 efig38_7439 efig53_7438 efig53_7439 s36 s65 z52 z54.1 z64.1 z64.2.1 z64.2.2.1 z64.2.2.2.1 z64.2.2.2.2 kn1)⟩))
          ·
            subst eg53
            have fig53_7437 : ((0 : Int) ≤ (ig53 7437).toInt) ∧ ((ig53 7437).toInt ≤ 120) := hGg53.I.1 7437
            have z67 : (ig53 7437).toInt = (ig38 7437).toInt := hg53
            refine ko_steps mi_in152 3 _ (186, [(1, .int vg31), (0, .ref 116)], [.int 40, .ref 116], (0, 0), ks ig53 ag53 qg53 rg53) (by rfl) ?_
            refine ko_callI mi_in152 (pc := 186) (ls := [(1, .int vg31), (0, .ref 116)]) (st := [.int 40, .ref 116]) (h := ks ig53 ag53 qg53 rg53) (i := (.invokevirtual 187, 3, 148, 0, 9, 0, 407)) (by rfl) (by rfl) (cy := mi_c148) rfl rfl (kc148_116 hGg53.I hGg53.R 40 (oz770 kn40)) (kj_d3 (by decide)) ?_
            intro vg68 ig68 ag68 qg68 rg68 kg68 hg68
            have hGg68 := kG_call hGg53 kg68 (by decide +kernel)
            rcases hg68 with ⟨eg68, hg68⟩ | ⟨eg68, hg68⟩
            ·
              subst eg68
              have fig68_7437 : ((0 : Int) ≤ (ig68 7437).toInt) ∧ ((ig68 7437).toInt ≤ 120) := hGg68.I.1 7437
              have fig68_7429 : ((0 : Int) ≤ (ig68 7429).toInt) ∧ ((ig68 7429).toInt ≤ 120) := hGg68.I.1 7429
              have fig53_7429 : ((0 : Int) ≤ (ig53 7429).toInt) ∧ ((ig53 7429).toInt ≤ 120) := hGg53.I.1 7429
              have fig38_7429 : ((0 : Int) ≤ (ig38 7429).toInt) ∧ ((ig38 7429).toInt ≤ 120) := hGg38.I.1 7429
              have efig38_7429 : (ig38 7429).toInt = (i 7429).toInt := kg38.ti 7429 rfl
              have efig53_7429 : (ig53 7429).toInt = (ig38 7429).toInt := kg53.ti 7429 rfl
              have efig68_7429 : (ig68 7429).toInt = (ig53 7429).toInt := kg68.ti 7429 rfl
              have z69 : ((ig68 7437).toInt = ((ig53 7437).toInt + 1)) ∧ ((ig68 7437).toInt ≤ (ig68 7429).toInt) := hg68
              refine ko_steps mi_in152 2 _ (193, [(1, .int vg31), (0, .ref 116)], [.ref 116], (0, 0), ks ig68 ag68 qg68 rg68) (by rfl) ?_
              obtain ⟨m, hm, hmI⟩ := kj_pred (oz743 c34 hn0 hp0 kn6)
              have efig38_7438 : (ig38 7438).toInt = ((i 7438) + 1).toInt := kg38.ti 7438 rfl
              have efig53_7438 : (ig53 7438).toInt = (ig38 7438).toInt := kg53.ti 7438 rfl
              have efig68_7438 : (ig68 7438).toInt = (ig53 7438).toInt := kg68.ti 7438 rfl
              have fig68_7439 : ((0 : Int) ≤ (ig68 7439).toInt) ∧ ((ig68 7439).toInt ≤ 200) := hGg68.I.1 7439
              have fig53_7439 : ((0 : Int) ≤ (ig53 7439).toInt) ∧ ((ig53 7439).toInt ≤ 200) := hGg53.I.1 7439
              have fig38_7439 : ((0 : Int) ≤ (ig38 7439).toInt) ∧ ((ig38 7439).toInt ≤ 200) := hGg38.I.1 7439
              have efig38_7439 : (ig38 7439).toInt = (i 7439).toInt := kg38.ti 7439 rfl
              have efig53_7439 : (ig53 7439).toInt = (ig38 7439).toInt := kg53.ti 7439 rfl
              have efig68_7439 : (ig68 7439).toInt = (ig53 7439).toInt := kg68.ti 7439 rfl
              refine ko_callI mi_in152 (pc := 193) (ls := [(1, .int vg31), (0, .ref 116)]) (st := [.ref 116]) (h := ks ig68 ag68 qg68 rg68) (i := (.invokevirtual 193, 3, 157, 0, 9, 0, 397)) (by rfl) (by rfl) (cy := mi_c157) rfl rfl ((ih m hm).1 _ _ _ _ hGg68.I hGg68.R (oz771 efig38_7438 efig53_7438 efig68_7438 hmI hp0 s36 kn1) (oz772 efig38_7439 efig53_7439 efig68_7439 hp1 z52 z67 z69.1) (oz173 z69.2)) (kj_d2 hm (by decide)) ?_
              intro vg70 ig70 ag70 qg70 rg70 kg70 hg70
              have hGg70 := kG_call hGg68 kg70 (by decide +kernel)
              rcases hg70 with ⟨eg70, hg70⟩ | ⟨eg70, hg70⟩
              ·
                subst eg70
                obtain ⟨hg70, og70⟩ := hg70
                have fig70_7437 : ((0 : Int) ≤ (ig70 7437).toInt) ∧ ((ig70 7437).toInt ≤ 120) := hGg70.I.1 7437
                have fig70_7429 : ((0 : Int) ≤ (ig70 7429).toInt) ∧ ((ig70 7429).toInt ≤ 120) := hGg70.I.1 7429
                have efig70_7429 : (ig70 7429).toInt = (ig68 7429).toInt := kg70.ti 7429 rfl
                have fig70_7439 : ((0 : Int) ≤ (ig70 7439).toInt) ∧ ((ig70 7439).toInt ≤ 200) := hGg70.I.1 7439
                have z71 : ((ig70 7438).toInt = (ig68 7438).toInt) ∧ ((ig68 7437).toInt ≤ (ig70 7437).toInt) ∧ ((ig70 7437).toInt ≤ (ig70 7429).toInt) ∧ (((ig70 7439).toInt - (ig70 7437).toInt) ≤ ((ig68 7439).toInt - (ig68 7437).toInt)) ∧ ((ig68 7439).toInt ≤ (ig70 7439).toInt) ∧ (((ig68 7437).toInt + 1) ≤ (ig70 7437).toInt) := hg70
                have hR72 := kRun_sub (kRun_cast hR0 (((kg68.fa 127 rfl).trans (kg53.fa 127 rfl)).trans (kg38.fa 127 rfl)) (congrArg Int.toNat (oz773 efig38_7439 efig53_7439 efig68_7439))) og70
                refine ko_steps mi_in152 3 _ (202, [(1, .int vg31), (0, .ref 116)], [.int 41, .ref 116], (0, 0), ks ig70 ag70 qg70 rg70) (by rfl) ?_
                refine ko_callI mi_in152 (pc := 202) (ls := [(1, .int vg31), (0, .ref 116)]) (st := [.int 41, .ref 116]) (h := ks ig70 ag70 qg70 rg70) (i := (.invokevirtual 187, 3, 148, 0, 9, 0, 407)) (by rfl) (by rfl) (cy := mi_c148) rfl rfl (kc148_116 hGg70.I hGg70.R 41 (oz774 kn41)) (kj_d3 (by decide)) ?_
                intro vg73 ig73 ag73 qg73 rg73 kg73 hg73
                have hGg73 := kG_call hGg70 kg73 (by decide +kernel)
                rcases hg73 with ⟨eg73, hg73⟩ | ⟨eg73, hg73⟩
                ·
                  subst eg73
                  have fig73_7437 : ((0 : Int) ≤ (ig73 7437).toInt) ∧ ((ig73 7437).toInt ≤ 120) := hGg73.I.1 7437
                  have fig73_7429 : ((0 : Int) ≤ (ig73 7429).toInt) ∧ ((ig73 7429).toInt ≤ 120) := hGg73.I.1 7429
                  have efig73_7429 : (ig73 7429).toInt = (ig70 7429).toInt := kg73.ti 7429 rfl
                  have z74 : ((ig73 7437).toInt = ((ig70 7437).toInt + 1)) ∧ ((ig73 7437).toInt ≤ (ig73 7429).toInt) := hg73
                  have efig73_7438 : (ig73 7438).toInt = (ig70 7438).toInt := kg73.ti 7438 rfl
                  have s75 : ((ig73 7438) - 1).toInt = (ig73 7438).toInt - (1 : Int32).toInt := kd_sub (oz775 b35.1 efig38_7438 efig53_7438 efig68_7438 efig73_7438 s36 z71.1 kn1) (oz776 efig38_7438 efig53_7438 efig68_7438 efig73_7438 hn0 hp0 s36 z71.1 kn1)
                  have hJ76 := kG_i hGg73 7438 rfl (v := ((ig73 7438) - 1)) (kd_bd _)
                  refine ko_steps mi_in152 11 _ (225, [(2, .int 1), (1, .int vg31), (0, .ref 116)], [.int 1], (0, 0), ks (ku ig73 7438 ((ig73 7438) - 1)) ag73 qg73 rg73) (by rfl) ?_
                  have fig73_7439 : ((0 : Int) ≤ (ig73 7439).toInt) ∧ ((ig73 7439).toInt ≤ 200) := hJ76.I.1 7439
                  have efig73_7439 : (ig73 7439).toInt = (ig70 7439).toInt := kg73.ti 7439 rfl
                  exact ko_ret mi_in152 (by rfl) (hP 1 _ _ _ _ hJ76 (Or.inl ⟨rfl, ⟨(oz777 efig38_7438 efig38_7439 efig53_7438 efig53_7439 efig68_7438 efig68_7439 efig73_7438 efig73_7439 s36 s75 z52 z67 z69.1 z71.1 z71.2.2.2.1 z71.2.2.2.2.1 z71.2.2.2.2.2 z74.1 z74.2 kn1), (kRun_cast hR72 (kg73.fa 127 rfl) (congrArg Int.toNat (oz719 efig73_7439)))⟩⟩))
                ·
                  subst eg73
                  have fig73_7437 : ((0 : Int) ≤ (ig73 7437).toInt) ∧ ((ig73 7437).toInt ≤ 120) := hGg73.I.1 7437
                  have z77 : (ig73 7437).toInt = (ig70 7437).toInt := hg73
                  have efig73_7438 : (ig73 7438).toInt = (ig70 7438).toInt := kg73.ti 7438 rfl
                  have s78 : ((ig73 7438) - 1).toInt = (ig73 7438).toInt - (1 : Int32).toInt := kd_sub (oz775 b35.1 efig38_7438 efig53_7438 efig68_7438 efig73_7438 s36 z71.1 kn1) (oz776 efig38_7438 efig53_7438 efig68_7438 efig73_7438 hn0 hp0 s36 z71.1 kn1)
                  have hJ79 := kG_i hGg73 7438 rfl (v := ((ig73 7438) - 1)) (kd_bd _)
                  refine ko_steps mi_in152 10 _ (225, [(2, .int 0), (1, .int vg31), (0, .ref 116)], [.int 0], (0, 0), ks (ku ig73 7438 ((ig73 7438) - 1)) ag73 qg73 rg73) (by rfl) ?_
                  have fig73_7429 : ((0 : Int) ≤ (ig73 7429).toInt) ∧ ((ig73 7429).toInt ≤ 120) := hJ79.I.1 7429
                  have efig73_7429 : (ig73 7429).toInt = (ig70 7429).toInt := kg73.ti 7429 rfl
                  have fig73_7439 : ((0 : Int) ≤ (ig73 7439).toInt) ∧ ((ig73 7439).toInt ≤ 200) := hJ79.I.1 7439
                  have efig73_7439 : (ig73 7439).toInt = (ig70 7439).toInt := kg73.ti 7439 rfl
                  exact ko_ret mi_in152 (by rfl) (hP 0 _ _ _ _ hJ79 (Or.inr ⟨rfl, (oz778 efig38_7438 efig38_7439 efig53_7438 efig53_7439 efig68_7438 efig68_7439 efig73_7429 efig73_7438 efig73_7439 s36 s78 z52 z67 z69.1 z71.1 z71.2.2.1 z71.2.2.2.1 z71.2.2.2.2.1 z71.2.2.2.2.2 z77 kn1)⟩))
              ·
                subst eg70
                have fig70_7437 : ((0 : Int) ≤ (ig70 7437).toInt) ∧ ((ig70 7437).toInt ≤ 120) := hGg70.I.1 7437
                have fig70_7429 : ((0 : Int) ≤ (ig70 7429).toInt) ∧ ((ig70 7429).toInt ≤ 120) := hGg70.I.1 7429
                have efig70_7429 : (ig70 7429).toInt = (ig68 7429).toInt := kg70.ti 7429 rfl
                have fig70_7439 : ((0 : Int) ≤ (ig70 7439).toInt) ∧ ((ig70 7439).toInt ≤ 200) := hGg70.I.1 7439
                have z80 : ((ig70 7438).toInt = (ig68 7438).toInt) ∧ ((ig68 7437).toInt ≤ (ig70 7437).toInt) ∧ ((ig70 7437).toInt ≤ (ig70 7429).toInt) ∧ (((ig70 7439).toInt - (ig70 7437).toInt) ≤ ((ig68 7439).toInt - (ig68 7437).toInt)) ∧ ((ig68 7439).toInt ≤ (ig70 7439).toInt) := hg70
                have s81 : ((ig70 7438) - 1).toInt = (ig70 7438).toInt - (1 : Int32).toInt := kd_sub (oz779 b35.1 efig38_7438 efig53_7438 efig68_7438 s36 z80.1 kn1) (oz780 efig38_7438 efig53_7438 efig68_7438 hn0 hp0 s36 z80.1 kn1)
                have hJ82 := kG_i hGg70 7438 rfl (v := ((ig70 7438) - 1)) (kd_bd _)
                refine ko_steps mi_in152 10 _ (225, [(2, .int 0), (1, .int vg31), (0, .ref 116)], [.int 0], (0, 0), ks (ku ig70 7438 ((ig70 7438) - 1)) ag70 qg70 rg70) (by rfl) ?_
                exact ko_ret mi_in152 (by rfl) (hP 0 _ _ _ _ hJ82 (Or.inr ⟨rfl, (oz781 efig38_7438 efig38_7439 efig53_7438 efig53_7439 efig68_7438 efig68_7439 s36 s81 z52 z67 z69.1 z80.1 z80.2.1 z80.2.2.1 z80.2.2.2.1 z80.2.2.2.2 kn1)⟩))
            ·
              subst eg68
              have fig68_7437 : ((0 : Int) ≤ (ig68 7437).toInt) ∧ ((ig68 7437).toInt ≤ 120) := hGg68.I.1 7437
              have z83 : (ig68 7437).toInt = (ig53 7437).toInt := hg68
              have efig38_7438 : (ig38 7438).toInt = ((i 7438) + 1).toInt := kg38.ti 7438 rfl
              have efig53_7438 : (ig53 7438).toInt = (ig38 7438).toInt := kg53.ti 7438 rfl
              have efig68_7438 : (ig68 7438).toInt = (ig53 7438).toInt := kg68.ti 7438 rfl
              have s84 : ((ig68 7438) - 1).toInt = (ig68 7438).toInt - (1 : Int32).toInt := kd_sub (oz782 b35.1 efig38_7438 efig53_7438 efig68_7438 s36 kn1) (oz783 efig38_7438 efig53_7438 efig68_7438 hn0 hp0 s36 kn1)
              have hJ85 := kG_i hGg68 7438 rfl (v := ((ig68 7438) - 1)) (kd_bd _)
              refine ko_steps mi_in152 10 _ (225, [(2, .int 0), (1, .int vg31), (0, .ref 116)], [.int 0], (0, 0), ks (ku ig68 7438 ((ig68 7438) - 1)) ag68 qg68 rg68) (by rfl) ?_
              have fig68_7429 : ((0 : Int) ≤ (ig68 7429).toInt) ∧ ((ig68 7429).toInt ≤ 120) := hJ85.I.1 7429
              have fig53_7429 : ((0 : Int) ≤ (ig53 7429).toInt) ∧ ((ig53 7429).toInt ≤ 120) := hGg53.I.1 7429
              have fig38_7429 : ((0 : Int) ≤ (ig38 7429).toInt) ∧ ((ig38 7429).toInt ≤ 120) := hGg38.I.1 7429
              have efig38_7429 : (ig38 7429).toInt = (i 7429).toInt := kg38.ti 7429 rfl
              have efig53_7429 : (ig53 7429).toInt = (ig38 7429).toInt := kg53.ti 7429 rfl
              have efig68_7429 : (ig68 7429).toInt = (ig53 7429).toInt := kg68.ti 7429 rfl
              have fig68_7439 : ((0 : Int) ≤ (ig68 7439).toInt) ∧ ((ig68 7439).toInt ≤ 200) := hJ85.I.1 7439
              have fig53_7439 : ((0 : Int) ≤ (ig53 7439).toInt) ∧ ((ig53 7439).toInt ≤ 200) := hGg53.I.1 7439
              have fig38_7439 : ((0 : Int) ≤ (ig38 7439).toInt) ∧ ((ig38 7439).toInt ≤ 200) := hGg38.I.1 7439
              have efig38_7439 : (ig38 7439).toInt = (i 7439).toInt := kg38.ti 7439 rfl
              have efig53_7439 : (ig53 7439).toInt = (ig38 7439).toInt := kg53.ti 7439 rfl
              have efig68_7439 : (ig68 7439).toInt = (ig53 7439).toInt := kg68.ti 7439 rfl
              exact ko_ret mi_in152 (by rfl) (hP 0 _ _ _ _ hJ85 (Or.inr ⟨rfl, (oz784 efig38_7429 efig38_7438 efig38_7439 efig53_7429 efig53_7438 efig53_7439 efig68_7429 efig68_7438 efig68_7439 hp2 s36 s84 z52 z67 z83 kn1)⟩))
      ·
        have c86 : (i 7438).toInt = (6 : Int32).toInt := kd_neF c; clear c
        refine ko_steps mi_in152 1 _ (104, [(1, .int vg31), (0, .ref 116)], [.int 0], (0, 0), ks i a q r) (by rfl) ?_
        exact ko_ret mi_in152 (by rfl) (hP 0 _ _ _ _ hG (Or.inr ⟨rfl, (oz785 hp2)⟩))
    ·
      have c87 : (0 : Int32).toInt ≤ vg31.toInt := kd_ltF c; clear c
      have s88 : ((i 7437) + 1).toInt = (i 7437).toInt + (1 : Int32).toInt := kd_add (oz12 fi_7437.1 kn1) (oz192 fi_7437.2 kn1)
      have hJ89 := kG_i hG 7437 rfl (v := ((i 7437) + 1)) ⟨(oz14 fi_7437.1 s88 kn1), (oz786 c87 fi_7429.2 s88 z30 z32.2.2 kn0 kn1)⟩
      refine ko_steps mi_in152 8 _ (90, [(1, .int vg31), (0, .ref 116)], [.int vg31, .ref 116], (0, 0), ks (ku i 7437 ((i 7437) + 1)) a q r) (by rfl) ?_
      refine ko_callI mi_in152 (pc := 90) (ls := [(1, .int vg31), (0, .ref 116)]) (st := [.int vg31, .ref 116]) (h := ks (ku i 7437 ((i 7437) + 1)) a q r) (i := (.invokevirtual 177, 3, 149, 0, 9, 0, 405)) (by rfl) (by rfl) (cy := mi_c149) rfl rfl (kc149_116 hJ89.I hJ89.R vg31 (oz787 fi_7437.2 fi_7439.1 hp1)) (kj_d3 (by decide)) ?_
      intro vg90 ig90 ag90 qg90 rg90 kg90 hg90
      have hGg90 := kG_call hJ89 kg90 (by decide +kernel)
      rcases hg90 with ⟨eg90, hg90⟩ | ⟨eg90, hg90⟩
      ·
        subst eg90
        obtain ⟨hg90, og90⟩ := hg90
        have fig90_7439 : ((0 : Int) ≤ (ig90 7439).toInt) ∧ ((ig90 7439).toInt ≤ 200) := hGg90.I.1 7439
        have z91 : (ig90 7439).toInt = ((i 7439).toInt + 1) := hg90
        have hR92 := kRun_code (x := (i 7439)) (d := (ig90 7439).toInt.toNat) (kRun_cast hR0 rfl (congrArg Int.toNat oz34)) rfl (kj_len (n := 200) (c := 200) (hJ89.I.2.1 127) rfl (oz788 fi_7437.2 hp1) (by decide)) og90 (kEff_push 0 (Or.inr ⟨(oz389 c87 kn0), (oz527 z32.2.1)⟩)) (kj_tn (oz751 z91) (oz3 fi_7439.1))
        have efig90_7438 : (ig90 7438).toInt = (i 7438).toInt := kg90.ti 7438 rfl
        have fig90_7437 : ((0 : Int) ≤ (ig90 7437).toInt) ∧ ((ig90 7437).toInt ≤ 120) := hGg90.I.1 7437
        have efig90_7437 : (ig90 7437).toInt = ((i 7437) + 1).toInt := kg90.ti 7437 rfl
        have fig90_7429 : ((0 : Int) ≤ (ig90 7429).toInt) ∧ ((ig90 7429).toInt ≤ 120) := hGg90.I.1 7429
        have efig90_7429 : (ig90 7429).toInt = (i 7429).toInt := kg90.ti 7429 rfl
        exact ko_ret mi_in152 (by rfl) (hP 1 _ _ _ _ hGg90 (Or.inl ⟨rfl, ⟨(oz789 c87 efig90_7429 efig90_7437 efig90_7438 s88 z30 z32.2.2 z91 kn0 kn1), (kRun_cast hR92 rfl (congrArg Int.toNat oz34))⟩⟩))
      ·
        subst eg90
        have z93 : (2 : Int) ≤ 1 := hg90
        exact (oz755 z93).elim
set_option maxRecDepth 100000 in
theorem kLsR_153 (n : Nat) (h152 : kLR_152 n) : kLR_153 n := by
  intro i a q r hI hr hp0 hp1 hp2
  have hG := kG_self wR hI hr
  refine km_ofI (q := (mi_h153, mi_c153)) rfl (by decide) (Nat.le_of_ble_eq_true rfl) ?_
  intro P hP
  have fi_7439 : ((0 : Int) ≤ (i 7439).toInt) ∧ ((i 7439).toInt ≤ 200) := hG.I.1 7439
  have fi_7437 : ((0 : Int) ≤ (i 7437).toInt) ∧ ((i 7437).toInt ≤ 120) := hG.I.1 7437
  have fi_7429 : ((0 : Int) ≤ (i 7429).toInt) ∧ ((i 7429).toInt ≤ 120) := hG.I.1 7429
  have hn0 : (0 : Int) ≤ (n : Int) := Int.natCast_nonneg n
  have hR0 := kRun_start (a 127) ((i 7439).toInt.toNat)
  refine ko_steps mi_in153 1 _ (1, [(0, .ref 116)], [.ref 116], (0, 0), ks i a q r) (by rfl) ?_
  refine ko_callI mi_in153 (pc := 1) (ls := [(0, .ref 116)]) (st := [.ref 116]) (h := ks i a q r) (i := (.invokevirtual 190, 3, 152, 0, 9, 0, 402)) (by rfl) (by rfl) (cy := mi_c152) rfl rfl (h152 _ _ _ _ hG.I hG.R (oz808 hp0) (oz173 hp1) (oz173 hp2)) (kj_d1 (by decide)) ?_
  intro vg1 ig1 ag1 qg1 rg1 kg1 hg1
  have hGg1 := kG_call hG kg1 (by decide +kernel)
  rcases hg1 with ⟨eg1, hg1⟩ | ⟨eg1, hg1⟩
  ·
    subst eg1
    obtain ⟨hg1, og1⟩ := hg1
    have fig1_7437 : ((0 : Int) ≤ (ig1 7437).toInt) ∧ ((ig1 7437).toInt ≤ 120) := hGg1.I.1 7437
    have fig1_7429 : ((0 : Int) ≤ (ig1 7429).toInt) ∧ ((ig1 7429).toInt ≤ 120) := hGg1.I.1 7429
    have efig1_7429 : (ig1 7429).toInt = (i 7429).toInt := kg1.ti 7429 rfl
    have fig1_7439 : ((0 : Int) ≤ (ig1 7439).toInt) ∧ ((ig1 7439).toInt ≤ 200) := hGg1.I.1 7439
    have z2 : ((ig1 7438).toInt = (i 7438).toInt) ∧ ((i 7437).toInt ≤ (ig1 7437).toInt) ∧ ((ig1 7437).toInt ≤ (ig1 7429).toInt) ∧ (((ig1 7439).toInt - (ig1 7437).toInt) ≤ ((i 7439).toInt - (i 7437).toInt)) ∧ ((i 7439).toInt ≤ (ig1 7439).toInt) ∧ (((i 7437).toInt + 1) ≤ (ig1 7437).toInt) := hg1
    have hR3 := kRun_sub (kRun_cast hR0 rfl (congrArg Int.toNat oz34)) og1
    refine ko_steps mi_in153 1 _ (9, [(0, .ref 116)], [], (0, 0), ks ig1 ag1 qg1 rg1) (by rfl) ?_
    have lp4 : ∀ (n : Nat) (i4 : Nat → Int32) (a4 : Nat → List Int32) (q4 : Nat → List Int64) (r4 : Nat → Nat), kG w153_116_L9 ig1 ag1 qg1 rg1 i4 a4 q4 r4 → (i4 7438).toInt = (i 7438).toInt → (i 7437).toInt ≤ (i4 7437).toInt → (i4 7437).toInt ≤ (i4 7429).toInt → ((i4 7439).toInt - (i4 7437).toInt) ≤ ((i 7439).toInt - (i 7437).toInt) → (i 7439).toInt ≤ (i4 7439).toInt → ((i 7437).toInt + 1) ≤ (i4 7437).toInt → kRun (a 127) (a4 127) (i 7439).toInt.toNat (i4 7439).toInt.toNat 1 → (((i4 7429).toInt - (i4 7437).toInt)).toNat < n → ko (6 * n + 11) (mi_h153, mi_c153) P (9, [(0, .ref 116)], [], (0, 0), ks i4 a4 q4 r4) := by
      intro n
      induction n with
      | zero =>
        intro _ _ _ _ _ _ _ _ _ _ _ _ hm
        exact absurd hm (Nat.not_lt_zero _)
      | succ n ih4 =>
        intro i4 a4 q4 r4 hL4 p4_0 p4_1 p4_2 p4_3 p4_4 p4_5 O4_0 hm4
        have fi4_7437 : ((0 : Int) ≤ (i4 7437).toInt) ∧ ((i4 7437).toInt ≤ 120) := hL4.I.1 7437
        have fi4_7429 : ((0 : Int) ≤ (i4 7429).toInt) ∧ ((i4 7429).toInt ≤ 120) := hL4.I.1 7429
        have efi4_7429 : (i4 7429).toInt = (ig1 7429).toInt := hL4.ti 7429 rfl
        have fi4_7439 : ((0 : Int) ≤ (i4 7439).toInt) ∧ ((i4 7439).toInt ≤ 200) := hL4.I.1 7439
        refine ko_steps mi_in153 1 _ (10, [(0, .ref 116)], [.ref 116], (0, 0), ks i4 a4 q4 r4) (by rfl) ?_
        refine ko_callPI mi_in153 (pc := 10) (ls := [(0, .ref 116)]) (st := [.ref 116]) (h := ks i4 a4 q4 r4) (i := (.invokevirtual 166, 3, 147, 0, 9, 0, 404)) (by rfl) (by rfl) (cy := mi_c147) rfl rfl (kc147_116 hL4.I hL4.R ) (kj_d3 (by decide)) ?_
        intro vg5 hg5
        have z6 : ((vg5.toInt = (-1)) ∧ ((i4 7429).toInt ≤ (i4 7437).toInt)) ∨ (((i4 7437).toInt < (i4 7429).toInt) ∧ (vg5.toInt = ((a4 119).getD (i4 7437).toNatClampNeg 0).toInt)) := hg5
        refine ko_steps mi_in153 1 _ (15, [(0, .ref 116)], [.int 42, .int vg5], (0, 0), ks i4 a4 q4 r4) (by rfl) ?_
        refine ko_if mi_in153 (vg5 != 42) 23 18 ([(0, .ref 116)], [], (0, 0), ks i4 a4 q4 r4) (by rfl) (fun c => ?_) (fun c => ?_)
        ·
          have c7 : vg5.toInt ≠ (42 : Int32).toInt := kd_ne c; clear c
          refine ko_steps mi_in153 1 _ (24, [(0, .ref 116)], [.ref 116], (0, 0), ks i4 a4 q4 r4) (by rfl) ?_
          refine ko_callPI mi_in153 (pc := 24) (ls := [(0, .ref 116)]) (st := [.ref 116]) (h := ks i4 a4 q4 r4) (i := (.invokevirtual 166, 3, 147, 0, 9, 0, 404)) (by rfl) (by rfl) (cy := mi_c147) rfl rfl (kc147_116 hL4.I hL4.R ) (kj_d3 (by decide)) ?_
          intro vg8 hg8
          have z9 : ((vg8.toInt = (-1)) ∧ ((i4 7429).toInt ≤ (i4 7437).toInt)) ∨ (((i4 7437).toInt < (i4 7429).toInt) ∧ (vg8.toInt = ((a4 119).getD (i4 7437).toNatClampNeg 0).toInt)) := hg8
          refine ko_steps mi_in153 1 _ (29, [(0, .ref 116)], [.int 47, .int vg8], (0, 0), ks i4 a4 q4 r4) (by rfl) ?_
          refine ko_if mi_in153 (vg8 != 47) 37 32 ([(0, .ref 116)], [], (0, 0), ks i4 a4 q4 r4) (by rfl) (fun c => ?_) (fun c => ?_)
          ·
            have c10 : vg8.toInt ≠ (47 : Int32).toInt := kd_ne c; clear c
            refine ko_steps mi_in153 1 _ (38, [(0, .ref 116)], [.ref 116], (0, 0), ks i4 a4 q4 r4) (by rfl) ?_
            refine ko_callPI mi_in153 (pc := 38) (ls := [(0, .ref 116)]) (st := [.ref 116]) (h := ks i4 a4 q4 r4) (i := (.invokevirtual 166, 3, 147, 0, 9, 0, 404)) (by rfl) (by rfl) (cy := mi_c147) rfl rfl (kc147_116 hL4.I hL4.R ) (kj_d3 (by decide)) ?_
            intro vg11 hg11
            have z12 : ((vg11.toInt = (-1)) ∧ ((i4 7429).toInt ≤ (i4 7437).toInt)) ∨ (((i4 7437).toInt < (i4 7429).toInt) ∧ (vg11.toInt = ((a4 119).getD (i4 7437).toNatClampNeg 0).toInt)) := hg11
            refine ko_steps mi_in153 1 _ (43, [(0, .ref 116)], [.int 37, .int vg11], (0, 0), ks i4 a4 q4 r4) (by rfl) ?_
            refine ko_if mi_in153 (vg11 != 37) 51 46 ([(0, .ref 116)], [], (0, 0), ks i4 a4 q4 r4) (by rfl) (fun c => ?_) (fun c => ?_)
            ·
              have c13 : vg11.toInt ≠ (37 : Int32).toInt := kd_ne c; clear c
              refine ko_steps mi_in153 4 _ (57, [(1, .int (-1)), (0, .ref 116)], [], (0, 0), ks i4 a4 q4 r4) (by rfl) ?_
              have hG14 := kG_call hGg1 hL4 (by decide +kernel)
              refine ko_steps mi_in153 1 _ (58, [(1, .int (-1)), (0, .ref 116)], [.int 1], (0, 0), ks i4 a4 q4 r4) (by rfl) ?_
              exact ko_ret mi_in153 (by rfl) (hP 1 _ _ _ _ hG14 (Or.inl ⟨rfl, ⟨(oz843 p4_0 p4_2 p4_3 p4_4 p4_5), (kRun_cast O4_0 rfl (congrArg Int.toNat oz34))⟩⟩))
            ·
              have c15 : vg11.toInt = (37 : Int32).toInt := kd_neF c; clear c
              have s16 : ((i4 7437) + 1).toInt = (i4 7437).toInt + (1 : Int32).toInt := kd_add (oz12 fi4_7437.1 kn1) (oz192 fi4_7437.2 kn1)
              have hJ17 := kG_i hL4 7437 rfl (v := ((i4 7437) + 1)) ⟨(oz14 fi4_7437.1 s16 kn1), (oz810 c15 fi4_7429.2 s16 z12 kn37 kn1)⟩
              refine ko_steps mi_in153 12 _ (70, [(1, .int 15), (0, .ref 116)], [.ref 116], (0, 0), ks (ku i4 7437 ((i4 7437) + 1)) a4 q4 r4) (by rfl) ?_
              refine ko_callI mi_in153 (pc := 70) (ls := [(1, .int 15), (0, .ref 116)]) (st := [.ref 116]) (h := ks (ku i4 7437 ((i4 7437) + 1)) a4 q4 r4) (i := (.invokevirtual 190, 3, 152, 0, 9, 0, 402)) (by rfl) (by rfl) (cy := mi_c152) rfl rfl (h152 _ _ _ _ hJ17.I hJ17.R (oz844 hp0 p4_0) (oz812 hp1 p4_3 s16 kn1) (oz813 c15 s16 z12 kn37 kn1)) (kj_d1 (by decide)) ?_
              intro vg18 ig18 ag18 qg18 rg18 kg18 hg18
              have hGg18 := kG_call hJ17 kg18 (by decide +kernel)
              rcases hg18 with ⟨eg18, hg18⟩ | ⟨eg18, hg18⟩
              ·
                subst eg18
                obtain ⟨hg18, og18⟩ := hg18
                have fig18_7437 : ((0 : Int) ≤ (ig18 7437).toInt) ∧ ((ig18 7437).toInt ≤ 120) := hGg18.I.1 7437
                have fig18_7429 : ((0 : Int) ≤ (ig18 7429).toInt) ∧ ((ig18 7429).toInt ≤ 120) := hGg18.I.1 7429
                have efig18_7429 : (ig18 7429).toInt = (i4 7429).toInt := kg18.ti 7429 rfl
                have fig18_7439 : ((0 : Int) ≤ (ig18 7439).toInt) ∧ ((ig18 7439).toInt ≤ 200) := hGg18.I.1 7439
                have z19 : ((ig18 7438).toInt = (i4 7438).toInt) ∧ (((i4 7437) + 1).toInt ≤ (ig18 7437).toInt) ∧ ((ig18 7437).toInt ≤ (ig18 7429).toInt) ∧ (((ig18 7439).toInt - (ig18 7437).toInt) ≤ ((i4 7439).toInt - ((i4 7437) + 1).toInt)) ∧ ((i4 7439).toInt ≤ (ig18 7439).toInt) ∧ ((((i4 7437) + 1).toInt + 1) ≤ (ig18 7437).toInt) := hg18
                have hR20 := kRun_sub (kRun_cast O4_0 rfl (congrArg Int.toNat oz34)) og18
                refine ko_steps mi_in153 3 _ (80, [(1, .int 15), (0, .ref 116)], [.int 15, .ref 116], (0, 0), ks ig18 ag18 qg18 rg18) (by rfl) ?_
                refine ko_callI mi_in153 (pc := 80) (ls := [(1, .int 15), (0, .ref 116)]) (st := [.int 15, .ref 116]) (h := ks ig18 ag18 qg18 rg18) (i := (.invokevirtual 177, 3, 149, 0, 9, 0, 405)) (by rfl) (by rfl) (cy := mi_c149) rfl rfl (kc149_116 hGg18.I hGg18.R 15 (oz814 fig18_7437.2 fig18_7439.1 hp1 p4_3 s16 z19.2.2.2.1 kn1)) (kj_d3 (by decide)) ?_
                intro vg21 ig21 ag21 qg21 rg21 kg21 hg21
                have hGg21 := kG_call hGg18 kg21 (by decide +kernel)
                rcases hg21 with ⟨eg21, hg21⟩ | ⟨eg21, hg21⟩
                ·
                  subst eg21
                  obtain ⟨hg21, og21⟩ := hg21
                  have fig21_7439 : ((0 : Int) ≤ (ig21 7439).toInt) ∧ ((ig21 7439).toInt ≤ 200) := hGg21.I.1 7439
                  have z22 : (ig21 7439).toInt = ((ig18 7439).toInt + 1) := hg21
                  have hR23 := kRun_code (x := (ig18 7439)) (d := (ig21 7439).toInt.toNat) (kRun_cast hR20 rfl (congrArg Int.toNat oz34)) rfl (kj_len (n := 200) (c := 200) (hGg18.I.2.1 127) rfl (oz750 fig21_7439.2 z22) (by decide)) og21 (kEff_bin (oz815 kn15) (oz816 kn15) (by decide)) (kj_tn (oz751 z22) (oz3 fig18_7439.1))
                  refine ko_steps mi_in153 2 _ (9, [(1, .int 15), (0, .ref 116)], [], (0, 0), ks ig21 ag21 qg21 rg21) (by rfl) ?_
                  refine ko_perm [(0, .ref 116)] (List.forall_mem_cons.mpr ⟨(List.Mem.tail _ (List.Mem.head _)), (fun _ h => absurd h List.not_mem_nil)⟩) ?_
                  have efig21_7438 : (ig21 7438).toInt = (ig18 7438).toInt := kg21.ti 7438 rfl
                  have fig21_7437 : ((0 : Int) ≤ (ig21 7437).toInt) ∧ ((ig21 7437).toInt ≤ 120) := hGg21.I.1 7437
                  have efig21_7437 : (ig21 7437).toInt = (ig18 7437).toInt := kg21.ti 7437 rfl
                  have fig21_7429 : ((0 : Int) ≤ (ig21 7429).toInt) ∧ ((ig21 7429).toInt ≤ 120) := hGg21.I.1 7429
                  have efig21_7429 : (ig21 7429).toInt = (ig18 7429).toInt := kg21.ti 7429 rfl
                  exact ih4 _ _ _ _ hGg21 (oz845 efig21_7438 p4_0 z19.1) (oz846 efig21_7437 p4_5 s16 z19.2.2.2.2.2 kn1) (oz819 efig21_7429 efig21_7437 z19.2.2.1) (oz847 efig21_7437 p4_3 s16 z19.2.2.2.1 z22 kn1) (oz848 p4_4 z19.2.2.2.2.1 z22) (oz849 efig21_7437 p4_5 s16 z19.2.2.2.2.2 kn1) (kRun_cast hR23 rfl (congrArg Int.toNat oz34)) (kj_meas (oz823 efig18_7429 efig21_7429 efig21_7437 s16 z19.2.2.2.2.2 kn1) (oz824 efig18_7429 s16 z19.2.2.1 z19.2.2.2.2.2 kn1) hm4)
                ·
                  subst eg21
                  have z24 : (2 : Int) ≤ 1 := hg21
                  exact (oz755 z24).elim
              ·
                subst eg18
                have fig18_7437 : ((0 : Int) ≤ (ig18 7437).toInt) ∧ ((ig18 7437).toInt ≤ 120) := hGg18.I.1 7437
                have fig18_7429 : ((0 : Int) ≤ (ig18 7429).toInt) ∧ ((ig18 7429).toInt ≤ 120) := hGg18.I.1 7429
                have efig18_7429 : (ig18 7429).toInt = (i4 7429).toInt := kg18.ti 7429 rfl
                have fig18_7439 : ((0 : Int) ≤ (ig18 7439).toInt) ∧ ((ig18 7439).toInt ≤ 200) := hGg18.I.1 7439
                have z25 : ((ig18 7438).toInt = (i4 7438).toInt) ∧ (((i4 7437) + 1).toInt ≤ (ig18 7437).toInt) ∧ ((ig18 7437).toInt ≤ (ig18 7429).toInt) ∧ (((ig18 7439).toInt - (ig18 7437).toInt) ≤ ((i4 7439).toInt - ((i4 7437) + 1).toInt)) ∧ ((i4 7439).toInt ≤ (ig18 7439).toInt) := hg18
                refine ko_steps mi_in153 1 _ (76, [(1, .int 15), (0, .ref 116)], [], (0, 0), ks ig18 ag18 qg18 rg18) (by rfl) ?_
                have hG26 := kG_call hGg1 hGg18 (by decide +kernel)
                refine ko_steps mi_in153 1 _ (77, [(1, .int 15), (0, .ref 116)], [.int 0], (0, 0), ks ig18 ag18 qg18 rg18) (by rfl) ?_
                exact ko_ret mi_in153 (by rfl) (hP 0 _ _ _ _ hG26 (Or.inr ⟨rfl, (oz850 p4_0 p4_3 p4_4 p4_5 s16 z25.1 z25.2.1 z25.2.2.1 z25.2.2.2.1 z25.2.2.2.2 kn1)⟩))
          ·
            have c27 : vg8.toInt = (47 : Int32).toInt := kd_neF c; clear c
            have s28 : ((i4 7437) + 1).toInt = (i4 7437).toInt + (1 : Int32).toInt := kd_add (oz12 fi4_7437.1 kn1) (oz192 fi4_7437.2 kn1)
            have hJ29 := kG_i hL4 7437 rfl (v := ((i4 7437) + 1)) ⟨(oz14 fi4_7437.1 s28 kn1), (oz826 c27 fi4_7429.2 s28 z9 kn47 kn1)⟩
            refine ko_steps mi_in153 12 _ (70, [(1, .int 14), (0, .ref 116)], [.ref 116], (0, 0), ks (ku i4 7437 ((i4 7437) + 1)) a4 q4 r4) (by rfl) ?_
            refine ko_callI mi_in153 (pc := 70) (ls := [(1, .int 14), (0, .ref 116)]) (st := [.ref 116]) (h := ks (ku i4 7437 ((i4 7437) + 1)) a4 q4 r4) (i := (.invokevirtual 190, 3, 152, 0, 9, 0, 402)) (by rfl) (by rfl) (cy := mi_c152) rfl rfl (h152 _ _ _ _ hJ29.I hJ29.R (oz844 hp0 p4_0) (oz812 hp1 p4_3 s28 kn1) (oz827 c27 s28 z9 kn47 kn1)) (kj_d1 (by decide)) ?_
            intro vg30 ig30 ag30 qg30 rg30 kg30 hg30
            have hGg30 := kG_call hJ29 kg30 (by decide +kernel)
            rcases hg30 with ⟨eg30, hg30⟩ | ⟨eg30, hg30⟩
            ·
              subst eg30
              obtain ⟨hg30, og30⟩ := hg30
              have fig30_7437 : ((0 : Int) ≤ (ig30 7437).toInt) ∧ ((ig30 7437).toInt ≤ 120) := hGg30.I.1 7437
              have fig30_7429 : ((0 : Int) ≤ (ig30 7429).toInt) ∧ ((ig30 7429).toInt ≤ 120) := hGg30.I.1 7429
              have efig30_7429 : (ig30 7429).toInt = (i4 7429).toInt := kg30.ti 7429 rfl
              have fig30_7439 : ((0 : Int) ≤ (ig30 7439).toInt) ∧ ((ig30 7439).toInt ≤ 200) := hGg30.I.1 7439
              have z31 : ((ig30 7438).toInt = (i4 7438).toInt) ∧ (((i4 7437) + 1).toInt ≤ (ig30 7437).toInt) ∧ ((ig30 7437).toInt ≤ (ig30 7429).toInt) ∧ (((ig30 7439).toInt - (ig30 7437).toInt) ≤ ((i4 7439).toInt - ((i4 7437) + 1).toInt)) ∧ ((i4 7439).toInt ≤ (ig30 7439).toInt) ∧ ((((i4 7437) + 1).toInt + 1) ≤ (ig30 7437).toInt) := hg30
              have hR32 := kRun_sub (kRun_cast O4_0 rfl (congrArg Int.toNat oz34)) og30
              refine ko_steps mi_in153 3 _ (80, [(1, .int 14), (0, .ref 116)], [.int 14, .ref 116], (0, 0), ks ig30 ag30 qg30 rg30) (by rfl) ?_
              refine ko_callI mi_in153 (pc := 80) (ls := [(1, .int 14), (0, .ref 116)]) (st := [.int 14, .ref 116]) (h := ks ig30 ag30 qg30 rg30) (i := (.invokevirtual 177, 3, 149, 0, 9, 0, 405)) (by rfl) (by rfl) (cy := mi_c149) rfl rfl (kc149_116 hGg30.I hGg30.R 14 (oz814 fig30_7437.2 fig30_7439.1 hp1 p4_3 s28 z31.2.2.2.1 kn1)) (kj_d3 (by decide)) ?_
              intro vg33 ig33 ag33 qg33 rg33 kg33 hg33
              have hGg33 := kG_call hGg30 kg33 (by decide +kernel)
              rcases hg33 with ⟨eg33, hg33⟩ | ⟨eg33, hg33⟩
              ·
                subst eg33
                obtain ⟨hg33, og33⟩ := hg33
                have fig33_7439 : ((0 : Int) ≤ (ig33 7439).toInt) ∧ ((ig33 7439).toInt ≤ 200) := hGg33.I.1 7439
                have z34 : (ig33 7439).toInt = ((ig30 7439).toInt + 1) := hg33
                have hR35 := kRun_code (x := (ig30 7439)) (d := (ig33 7439).toInt.toNat) (kRun_cast hR32 rfl (congrArg Int.toNat oz34)) rfl (kj_len (n := 200) (c := 200) (hGg30.I.2.1 127) rfl (oz750 fig33_7439.2 z34) (by decide)) og33 (kEff_bin (oz828 kn14) (oz829 kn14) (by decide)) (kj_tn (oz751 z34) (oz3 fig30_7439.1))
                refine ko_steps mi_in153 2 _ (9, [(1, .int 14), (0, .ref 116)], [], (0, 0), ks ig33 ag33 qg33 rg33) (by rfl) ?_
                refine ko_perm [(0, .ref 116)] (List.forall_mem_cons.mpr ⟨(List.Mem.tail _ (List.Mem.head _)), (fun _ h => absurd h List.not_mem_nil)⟩) ?_
                have efig33_7438 : (ig33 7438).toInt = (ig30 7438).toInt := kg33.ti 7438 rfl
                have fig33_7437 : ((0 : Int) ≤ (ig33 7437).toInt) ∧ ((ig33 7437).toInt ≤ 120) := hGg33.I.1 7437
                have efig33_7437 : (ig33 7437).toInt = (ig30 7437).toInt := kg33.ti 7437 rfl
                have fig33_7429 : ((0 : Int) ≤ (ig33 7429).toInt) ∧ ((ig33 7429).toInt ≤ 120) := hGg33.I.1 7429
                have efig33_7429 : (ig33 7429).toInt = (ig30 7429).toInt := kg33.ti 7429 rfl
                exact ih4 _ _ _ _ hGg33 (oz845 efig33_7438 p4_0 z31.1) (oz846 efig33_7437 p4_5 s28 z31.2.2.2.2.2 kn1) (oz819 efig33_7429 efig33_7437 z31.2.2.1) (oz847 efig33_7437 p4_3 s28 z31.2.2.2.1 z34 kn1) (oz848 p4_4 z31.2.2.2.2.1 z34) (oz849 efig33_7437 p4_5 s28 z31.2.2.2.2.2 kn1) (kRun_cast hR35 rfl (congrArg Int.toNat oz34)) (kj_meas (oz823 efig30_7429 efig33_7429 efig33_7437 s28 z31.2.2.2.2.2 kn1) (oz824 efig30_7429 s28 z31.2.2.1 z31.2.2.2.2.2 kn1) hm4)
              ·
                subst eg33
                have z36 : (2 : Int) ≤ 1 := hg33
                exact (oz755 z36).elim
            ·
              subst eg30
              have fig30_7437 : ((0 : Int) ≤ (ig30 7437).toInt) ∧ ((ig30 7437).toInt ≤ 120) := hGg30.I.1 7437
              have fig30_7429 : ((0 : Int) ≤ (ig30 7429).toInt) ∧ ((ig30 7429).toInt ≤ 120) := hGg30.I.1 7429
              have efig30_7429 : (ig30 7429).toInt = (i4 7429).toInt := kg30.ti 7429 rfl
              have fig30_7439 : ((0 : Int) ≤ (ig30 7439).toInt) ∧ ((ig30 7439).toInt ≤ 200) := hGg30.I.1 7439
              have z37 : ((ig30 7438).toInt = (i4 7438).toInt) ∧ (((i4 7437) + 1).toInt ≤ (ig30 7437).toInt) ∧ ((ig30 7437).toInt ≤ (ig30 7429).toInt) ∧ (((ig30 7439).toInt - (ig30 7437).toInt) ≤ ((i4 7439).toInt - ((i4 7437) + 1).toInt)) ∧ ((i4 7439).toInt ≤ (ig30 7439).toInt) := hg30
              refine ko_steps mi_in153 1 _ (76, [(1, .int 14), (0, .ref 116)], [], (0, 0), ks ig30 ag30 qg30 rg30) (by rfl) ?_
              have hG38 := kG_call hGg1 hGg30 (by decide +kernel)
              refine ko_steps mi_in153 1 _ (77, [(1, .int 14), (0, .ref 116)], [.int 0], (0, 0), ks ig30 ag30 qg30 rg30) (by rfl) ?_
              exact ko_ret mi_in153 (by rfl) (hP 0 _ _ _ _ hG38 (Or.inr ⟨rfl, (oz850 p4_0 p4_3 p4_4 p4_5 s28 z37.1 z37.2.1 z37.2.2.1 z37.2.2.2.1 z37.2.2.2.2 kn1)⟩))
        ·
          have c39 : vg5.toInt = (42 : Int32).toInt := kd_neF c; clear c
          have s40 : ((i4 7437) + 1).toInt = (i4 7437).toInt + (1 : Int32).toInt := kd_add (oz12 fi4_7437.1 kn1) (oz192 fi4_7437.2 kn1)
          have hJ41 := kG_i hL4 7437 rfl (v := ((i4 7437) + 1)) ⟨(oz14 fi4_7437.1 s40 kn1), (oz835 c39 fi4_7429.2 s40 z6 kn42 kn1)⟩
          refine ko_steps mi_in153 12 _ (70, [(1, .int 13), (0, .ref 116)], [.ref 116], (0, 0), ks (ku i4 7437 ((i4 7437) + 1)) a4 q4 r4) (by rfl) ?_
          refine ko_callI mi_in153 (pc := 70) (ls := [(1, .int 13), (0, .ref 116)]) (st := [.ref 116]) (h := ks (ku i4 7437 ((i4 7437) + 1)) a4 q4 r4) (i := (.invokevirtual 190, 3, 152, 0, 9, 0, 402)) (by rfl) (by rfl) (cy := mi_c152) rfl rfl (h152 _ _ _ _ hJ41.I hJ41.R (oz844 hp0 p4_0) (oz812 hp1 p4_3 s40 kn1) (oz836 c39 s40 z6 kn42 kn1)) (kj_d1 (by decide)) ?_
          intro vg42 ig42 ag42 qg42 rg42 kg42 hg42
          have hGg42 := kG_call hJ41 kg42 (by decide +kernel)
          rcases hg42 with ⟨eg42, hg42⟩ | ⟨eg42, hg42⟩
          ·
            subst eg42
            obtain ⟨hg42, og42⟩ := hg42
            have fig42_7437 : ((0 : Int) ≤ (ig42 7437).toInt) ∧ ((ig42 7437).toInt ≤ 120) := hGg42.I.1 7437
            have fig42_7429 : ((0 : Int) ≤ (ig42 7429).toInt) ∧ ((ig42 7429).toInt ≤ 120) := hGg42.I.1 7429
            have efig42_7429 : (ig42 7429).toInt = (i4 7429).toInt := kg42.ti 7429 rfl
            have fig42_7439 : ((0 : Int) ≤ (ig42 7439).toInt) ∧ ((ig42 7439).toInt ≤ 200) := hGg42.I.1 7439
            have z43 : ((ig42 7438).toInt = (i4 7438).toInt) ∧ (((i4 7437) + 1).toInt ≤ (ig42 7437).toInt) ∧ ((ig42 7437).toInt ≤ (ig42 7429).toInt) ∧ (((ig42 7439).toInt - (ig42 7437).toInt) ≤ ((i4 7439).toInt - ((i4 7437) + 1).toInt)) ∧ ((i4 7439).toInt ≤ (ig42 7439).toInt) ∧ ((((i4 7437) + 1).toInt + 1) ≤ (ig42 7437).toInt) := hg42
            have hR44 := kRun_sub (kRun_cast O4_0 rfl (congrArg Int.toNat oz34)) og42
            refine ko_steps mi_in153 3 _ (80, [(1, .int 13), (0, .ref 116)], [.int 13, .ref 116], (0, 0), ks ig42 ag42 qg42 rg42) (by rfl) ?_
            refine ko_callI mi_in153 (pc := 80) (ls := [(1, .int 13), (0, .ref 116)]) (st := [.int 13, .ref 116]) (h := ks ig42 ag42 qg42 rg42) (i := (.invokevirtual 177, 3, 149, 0, 9, 0, 405)) (by rfl) (by rfl) (cy := mi_c149) rfl rfl (kc149_116 hGg42.I hGg42.R 13 (oz814 fig42_7437.2 fig42_7439.1 hp1 p4_3 s40 z43.2.2.2.1 kn1)) (kj_d3 (by decide)) ?_
            intro vg45 ig45 ag45 qg45 rg45 kg45 hg45
            have hGg45 := kG_call hGg42 kg45 (by decide +kernel)
            rcases hg45 with ⟨eg45, hg45⟩ | ⟨eg45, hg45⟩
            ·
              subst eg45
              obtain ⟨hg45, og45⟩ := hg45
              have fig45_7439 : ((0 : Int) ≤ (ig45 7439).toInt) ∧ ((ig45 7439).toInt ≤ 200) := hGg45.I.1 7439
              have z46 : (ig45 7439).toInt = ((ig42 7439).toInt + 1) := hg45
              have hR47 := kRun_code (x := (ig42 7439)) (d := (ig45 7439).toInt.toNat) (kRun_cast hR44 rfl (congrArg Int.toNat oz34)) rfl (kj_len (n := 200) (c := 200) (hGg42.I.2.1 127) rfl (oz750 fig45_7439.2 z46) (by decide)) og45 (kEff_bin (oz837 kn13) (oz838 kn13) (by decide)) (kj_tn (oz751 z46) (oz3 fig42_7439.1))
              refine ko_steps mi_in153 2 _ (9, [(1, .int 13), (0, .ref 116)], [], (0, 0), ks ig45 ag45 qg45 rg45) (by rfl) ?_
              refine ko_perm [(0, .ref 116)] (List.forall_mem_cons.mpr ⟨(List.Mem.tail _ (List.Mem.head _)), (fun _ h => absurd h List.not_mem_nil)⟩) ?_
              have efig45_7438 : (ig45 7438).toInt = (ig42 7438).toInt := kg45.ti 7438 rfl
              have fig45_7437 : ((0 : Int) ≤ (ig45 7437).toInt) ∧ ((ig45 7437).toInt ≤ 120) := hGg45.I.1 7437
              have efig45_7437 : (ig45 7437).toInt = (ig42 7437).toInt := kg45.ti 7437 rfl
              have fig45_7429 : ((0 : Int) ≤ (ig45 7429).toInt) ∧ ((ig45 7429).toInt ≤ 120) := hGg45.I.1 7429
              have efig45_7429 : (ig45 7429).toInt = (ig42 7429).toInt := kg45.ti 7429 rfl
              exact ih4 _ _ _ _ hGg45 (oz845 efig45_7438 p4_0 z43.1) (oz846 efig45_7437 p4_5 s40 z43.2.2.2.2.2 kn1) (oz819 efig45_7429 efig45_7437 z43.2.2.1) (oz847 efig45_7437 p4_3 s40 z43.2.2.2.1 z46 kn1) (oz848 p4_4 z43.2.2.2.2.1 z46) (oz849 efig45_7437 p4_5 s40 z43.2.2.2.2.2 kn1) (kRun_cast hR47 rfl (congrArg Int.toNat oz34)) (kj_meas (oz823 efig42_7429 efig45_7429 efig45_7437 s40 z43.2.2.2.2.2 kn1) (oz824 efig42_7429 s40 z43.2.2.1 z43.2.2.2.2.2 kn1) hm4)
            ·
              subst eg45
              have z48 : (2 : Int) ≤ 1 := hg45
              exact (oz755 z48).elim
          ·
            subst eg42
            have fig42_7437 : ((0 : Int) ≤ (ig42 7437).toInt) ∧ ((ig42 7437).toInt ≤ 120) := hGg42.I.1 7437
            have fig42_7429 : ((0 : Int) ≤ (ig42 7429).toInt) ∧ ((ig42 7429).toInt ≤ 120) := hGg42.I.1 7429
            have efig42_7429 : (ig42 7429).toInt = (i4 7429).toInt := kg42.ti 7429 rfl
            have fig42_7439 : ((0 : Int) ≤ (ig42 7439).toInt) ∧ ((ig42 7439).toInt ≤ 200) := hGg42.I.1 7439
            have z49 : ((ig42 7438).toInt = (i4 7438).toInt) ∧ (((i4 7437) + 1).toInt ≤ (ig42 7437).toInt) ∧ ((ig42 7437).toInt ≤ (ig42 7429).toInt) ∧ (((ig42 7439).toInt - (ig42 7437).toInt) ≤ ((i4 7439).toInt - ((i4 7437) + 1).toInt)) ∧ ((i4 7439).toInt ≤ (ig42 7439).toInt) := hg42
            refine ko_steps mi_in153 1 _ (76, [(1, .int 13), (0, .ref 116)], [], (0, 0), ks ig42 ag42 qg42 rg42) (by rfl) ?_
            have hG50 := kG_call hGg1 hGg42 (by decide +kernel)
            refine ko_steps mi_in153 1 _ (77, [(1, .int 13), (0, .ref 116)], [.int 0], (0, 0), ks ig42 ag42 qg42 rg42) (by rfl) ?_
            exact ko_ret mi_in153 (by rfl) (hP 0 _ _ _ _ hG50 (Or.inr ⟨rfl, (oz850 p4_0 p4_3 p4_4 p4_5 s40 z49.1 z49.2.1 z49.2.2.1 z49.2.2.2.1 z49.2.2.2.2 kn1)⟩))
    exact lp4 _ _ _ _ _ (kG_self _ hGg1.I hGg1.R) (oz719 z2.1) (oz839 z2.2.2.2.2.2) (oz173 z2.2.2.1) (oz840 z2.2.2.2.1) (oz173 z2.2.2.2.2.1) (oz841 z2.2.2.2.2.2) (kRun_cast hR3 rfl (congrArg Int.toNat oz34)) (Nat.lt_succ_self _)
  ·
    subst eg1
    have fig1_7437 : ((0 : Int) ≤ (ig1 7437).toInt) ∧ ((ig1 7437).toInt ≤ 120) := hGg1.I.1 7437
    have fig1_7429 : ((0 : Int) ≤ (ig1 7429).toInt) ∧ ((ig1 7429).toInt ≤ 120) := hGg1.I.1 7429
    have efig1_7429 : (ig1 7429).toInt = (i 7429).toInt := kg1.ti 7429 rfl
    have fig1_7439 : ((0 : Int) ≤ (ig1 7439).toInt) ∧ ((ig1 7439).toInt ≤ 200) := hGg1.I.1 7439
    have z51 : ((ig1 7438).toInt = (i 7438).toInt) ∧ ((i 7437).toInt ≤ (ig1 7437).toInt) ∧ ((ig1 7437).toInt ≤ (ig1 7429).toInt) ∧ (((ig1 7439).toInt - (ig1 7437).toInt) ≤ ((i 7439).toInt - (i 7437).toInt)) ∧ ((i 7439).toInt ≤ (ig1 7439).toInt) := hg1
    refine ko_steps mi_in153 2 _ (8, [(0, .ref 116)], [.int 0], (0, 0), ks ig1 ag1 qg1 rg1) (by rfl) ?_
    exact ko_ret mi_in153 (by rfl) (hP 0 _ _ _ _ hGg1 (Or.inr ⟨rfl, (oz842 z51.1 z51.2.1 z51.2.2.1 z51.2.2.2.1 z51.2.2.2.2)⟩))
set_option maxRecDepth 100000 in
theorem kLsR_154 (n : Nat) (h152 : kLR_152 n) (h153 : kLR_153 n) : kLR_154 n := by
  intro i a q r hI hr hp0 hp1 hp2
  have hG := kG_self wR hI hr
  refine km_ofI (q := (mi_h154, mi_c154)) rfl (by decide) (Nat.le_of_ble_eq_true rfl) ?_
  intro P hP
  have fi_7439 : ((0 : Int) ≤ (i 7439).toInt) ∧ ((i 7439).toInt ≤ 200) := hG.I.1 7439
  have fi_7437 : ((0 : Int) ≤ (i 7437).toInt) ∧ ((i 7437).toInt ≤ 120) := hG.I.1 7437
  have fi_7429 : ((0 : Int) ≤ (i 7429).toInt) ∧ ((i 7429).toInt ≤ 120) := hG.I.1 7429
  have hn0 : (0 : Int) ≤ (n : Int) := Int.natCast_nonneg n
  have hR0 := kRun_start (a 127) ((i 7439).toInt.toNat)
  refine ko_steps mi_in154 1 _ (1, [(0, .ref 116)], [.ref 116], (0, 0), ks i a q r) (by rfl) ?_
  refine ko_callI mi_in154 (pc := 1) (ls := [(0, .ref 116)]) (st := [.ref 116]) (h := ks i a q r) (i := (.invokevirtual 196, 3, 153, 0, 9, 0, 401)) (by rfl) (by rfl) (cy := mi_c153) rfl rfl (h153 _ _ _ _ hG.I hG.R (oz808 hp0) (oz173 hp1) (oz173 hp2)) (kj_d1 (by decide)) ?_
  intro vg1 ig1 ag1 qg1 rg1 kg1 hg1
  have hGg1 := kG_call hG kg1 (by decide +kernel)
  rcases hg1 with ⟨eg1, hg1⟩ | ⟨eg1, hg1⟩
  ·
    subst eg1
    obtain ⟨hg1, og1⟩ := hg1
    have fig1_7437 : ((0 : Int) ≤ (ig1 7437).toInt) ∧ ((ig1 7437).toInt ≤ 120) := hGg1.I.1 7437
    have fig1_7429 : ((0 : Int) ≤ (ig1 7429).toInt) ∧ ((ig1 7429).toInt ≤ 120) := hGg1.I.1 7429
    have efig1_7429 : (ig1 7429).toInt = (i 7429).toInt := kg1.ti 7429 rfl
    have fig1_7439 : ((0 : Int) ≤ (ig1 7439).toInt) ∧ ((ig1 7439).toInt ≤ 200) := hGg1.I.1 7439
    have z2 : ((ig1 7438).toInt = (i 7438).toInt) ∧ ((i 7437).toInt ≤ (ig1 7437).toInt) ∧ ((ig1 7437).toInt ≤ (ig1 7429).toInt) ∧ (((ig1 7439).toInt - (ig1 7437).toInt) ≤ ((i 7439).toInt - (i 7437).toInt)) ∧ ((i 7439).toInt ≤ (ig1 7439).toInt) ∧ (((i 7437).toInt + 1) ≤ (ig1 7437).toInt) := hg1
    have hR3 := kRun_sub (kRun_cast hR0 rfl (congrArg Int.toNat oz34)) og1
    refine ko_steps mi_in154 1 _ (9, [(0, .ref 116)], [], (0, 0), ks ig1 ag1 qg1 rg1) (by rfl) ?_
    have lp4 : ∀ (n : Nat) (i4 : Nat → Int32) (a4 : Nat → List Int32) (q4 : Nat → List Int64) (r4 : Nat → Nat), kG w154_116_L9 ig1 ag1 qg1 rg1 i4 a4 q4 r4 → (i4 7438).toInt = (i 7438).toInt → (i 7437).toInt ≤ (i4 7437).toInt → (i4 7437).toInt ≤ (i4 7429).toInt → ((i4 7439).toInt - (i4 7437).toInt) ≤ ((i 7439).toInt - (i 7437).toInt) → (i 7439).toInt ≤ (i4 7439).toInt → ((i 7437).toInt + 1) ≤ (i4 7437).toInt → kRun (a 127) (a4 127) (i 7439).toInt.toNat (i4 7439).toInt.toNat 1 → (((i4 7429).toInt - (i4 7437).toInt)).toNat < n → ko (6 * n + 12) (mi_h154, mi_c154) P (9, [(0, .ref 116)], [], (0, 0), ks i4 a4 q4 r4) := by
      intro n
      induction n with
      | zero =>
        intro _ _ _ _ _ _ _ _ _ _ _ _ hm
        exact absurd hm (Nat.not_lt_zero _)
      | succ n ih4 =>
        intro i4 a4 q4 r4 hL4 p4_0 p4_1 p4_2 p4_3 p4_4 p4_5 O4_0 hm4
        have fi4_7437 : ((0 : Int) ≤ (i4 7437).toInt) ∧ ((i4 7437).toInt ≤ 120) := hL4.I.1 7437
        have fi4_7429 : ((0 : Int) ≤ (i4 7429).toInt) ∧ ((i4 7429).toInt ≤ 120) := hL4.I.1 7429
        have efi4_7429 : (i4 7429).toInt = (ig1 7429).toInt := hL4.ti 7429 rfl
        have fi4_7439 : ((0 : Int) ≤ (i4 7439).toInt) ∧ ((i4 7439).toInt ≤ 200) := hL4.I.1 7439
        refine ko_steps mi_in154 1 _ (10, [(0, .ref 116)], [.ref 116], (0, 0), ks i4 a4 q4 r4) (by rfl) ?_
        refine ko_callPI mi_in154 (pc := 10) (ls := [(0, .ref 116)]) (st := [.ref 116]) (h := ks i4 a4 q4 r4) (i := (.invokevirtual 166, 3, 147, 0, 9, 0, 404)) (by rfl) (by rfl) (cy := mi_c147) rfl rfl (kc147_116 hL4.I hL4.R ) (kj_d3 (by decide)) ?_
        intro vg5 hg5
        have z6 : ((vg5.toInt = (-1)) ∧ ((i4 7429).toInt ≤ (i4 7437).toInt)) ∨ (((i4 7437).toInt < (i4 7429).toInt) ∧ (vg5.toInt = ((a4 119).getD (i4 7437).toNatClampNeg 0).toInt)) := hg5
        refine ko_steps mi_in154 1 _ (15, [(0, .ref 116)], [.int 43, .int vg5], (0, 0), ks i4 a4 q4 r4) (by rfl) ?_
        refine ko_if mi_in154 (vg5 != 43) 23 18 ([(0, .ref 116)], [], (0, 0), ks i4 a4 q4 r4) (by rfl) (fun c => ?_) (fun c => ?_)
        ·
          have c7 : vg5.toInt ≠ (43 : Int32).toInt := kd_ne c; clear c
          refine ko_steps mi_in154 1 _ (24, [(0, .ref 116)], [.ref 116], (0, 0), ks i4 a4 q4 r4) (by rfl) ?_
          refine ko_callPI mi_in154 (pc := 24) (ls := [(0, .ref 116)]) (st := [.ref 116]) (h := ks i4 a4 q4 r4) (i := (.invokevirtual 166, 3, 147, 0, 9, 0, 404)) (by rfl) (by rfl) (cy := mi_c147) rfl rfl (kc147_116 hL4.I hL4.R ) (kj_d3 (by decide)) ?_
          intro vg8 hg8
          have z9 : ((vg8.toInt = (-1)) ∧ ((i4 7429).toInt ≤ (i4 7437).toInt)) ∨ (((i4 7437).toInt < (i4 7429).toInt) ∧ (vg8.toInt = ((a4 119).getD (i4 7437).toNatClampNeg 0).toInt)) := hg8
          refine ko_steps mi_in154 1 _ (29, [(0, .ref 116)], [.int 45, .int vg8], (0, 0), ks i4 a4 q4 r4) (by rfl) ?_
          refine ko_if mi_in154 (vg8 != 45) 37 32 ([(0, .ref 116)], [], (0, 0), ks i4 a4 q4 r4) (by rfl) (fun c => ?_) (fun c => ?_)
          ·
            have c10 : vg8.toInt ≠ (45 : Int32).toInt := kd_ne c; clear c
            refine ko_steps mi_in154 4 _ (43, [(1, .int (-1)), (0, .ref 116)], [], (0, 0), ks i4 a4 q4 r4) (by rfl) ?_
            have hG11 := kG_call hGg1 hL4 (by decide +kernel)
            refine ko_steps mi_in154 1 _ (44, [(1, .int (-1)), (0, .ref 116)], [.int 1], (0, 0), ks i4 a4 q4 r4) (by rfl) ?_
            exact ko_ret mi_in154 (by rfl) (hP 1 _ _ _ _ hG11 (Or.inl ⟨rfl, ⟨(oz843 p4_0 p4_2 p4_3 p4_4 p4_5), (kRun_cast O4_0 rfl (congrArg Int.toNat oz34))⟩⟩))
          ·
            have c12 : vg8.toInt = (45 : Int32).toInt := kd_neF c; clear c
            have s13 : ((i4 7437) + 1).toInt = (i4 7437).toInt + (1 : Int32).toInt := kd_add (oz12 fi4_7437.1 kn1) (oz192 fi4_7437.2 kn1)
            have hJ14 := kG_i hL4 7437 rfl (v := ((i4 7437) + 1)) ⟨(oz14 fi4_7437.1 s13 kn1), (oz851 c12 fi4_7429.2 s13 z9 kn45 kn1)⟩
            refine ko_steps mi_in154 12 _ (56, [(1, .int 12), (0, .ref 116)], [.ref 116], (0, 0), ks (ku i4 7437 ((i4 7437) + 1)) a4 q4 r4) (by rfl) ?_
            refine ko_callI mi_in154 (pc := 56) (ls := [(1, .int 12), (0, .ref 116)]) (st := [.ref 116]) (h := ks (ku i4 7437 ((i4 7437) + 1)) a4 q4 r4) (i := (.invokevirtual 196, 3, 153, 0, 9, 0, 401)) (by rfl) (by rfl) (cy := mi_c153) rfl rfl (h153 _ _ _ _ hJ14.I hJ14.R (oz844 hp0 p4_0) (oz812 hp1 p4_3 s13 kn1) (oz852 c12 s13 z9 kn45 kn1)) (kj_d1 (by decide)) ?_
            intro vg15 ig15 ag15 qg15 rg15 kg15 hg15
            have hGg15 := kG_call hJ14 kg15 (by decide +kernel)
            rcases hg15 with ⟨eg15, hg15⟩ | ⟨eg15, hg15⟩
            ·
              subst eg15
              obtain ⟨hg15, og15⟩ := hg15
              have fig15_7437 : ((0 : Int) ≤ (ig15 7437).toInt) ∧ ((ig15 7437).toInt ≤ 120) := hGg15.I.1 7437
              have fig15_7429 : ((0 : Int) ≤ (ig15 7429).toInt) ∧ ((ig15 7429).toInt ≤ 120) := hGg15.I.1 7429
              have efig15_7429 : (ig15 7429).toInt = (i4 7429).toInt := kg15.ti 7429 rfl
              have fig15_7439 : ((0 : Int) ≤ (ig15 7439).toInt) ∧ ((ig15 7439).toInt ≤ 200) := hGg15.I.1 7439
              have z16 : ((ig15 7438).toInt = (i4 7438).toInt) ∧ (((i4 7437) + 1).toInt ≤ (ig15 7437).toInt) ∧ ((ig15 7437).toInt ≤ (ig15 7429).toInt) ∧ (((ig15 7439).toInt - (ig15 7437).toInt) ≤ ((i4 7439).toInt - ((i4 7437) + 1).toInt)) ∧ ((i4 7439).toInt ≤ (ig15 7439).toInt) ∧ ((((i4 7437) + 1).toInt + 1) ≤ (ig15 7437).toInt) := hg15
              have hR17 := kRun_sub (kRun_cast O4_0 rfl (congrArg Int.toNat oz34)) og15
              refine ko_steps mi_in154 3 _ (66, [(1, .int 12), (0, .ref 116)], [.int 12, .ref 116], (0, 0), ks ig15 ag15 qg15 rg15) (by rfl) ?_
              refine ko_callI mi_in154 (pc := 66) (ls := [(1, .int 12), (0, .ref 116)]) (st := [.int 12, .ref 116]) (h := ks ig15 ag15 qg15 rg15) (i := (.invokevirtual 177, 3, 149, 0, 9, 0, 405)) (by rfl) (by rfl) (cy := mi_c149) rfl rfl (kc149_116 hGg15.I hGg15.R 12 (oz814 fig15_7437.2 fig15_7439.1 hp1 p4_3 s13 z16.2.2.2.1 kn1)) (kj_d3 (by decide)) ?_
              intro vg18 ig18 ag18 qg18 rg18 kg18 hg18
              have hGg18 := kG_call hGg15 kg18 (by decide +kernel)
              rcases hg18 with ⟨eg18, hg18⟩ | ⟨eg18, hg18⟩
              ·
                subst eg18
                obtain ⟨hg18, og18⟩ := hg18
                have fig18_7439 : ((0 : Int) ≤ (ig18 7439).toInt) ∧ ((ig18 7439).toInt ≤ 200) := hGg18.I.1 7439
                have z19 : (ig18 7439).toInt = ((ig15 7439).toInt + 1) := hg18
                have hR20 := kRun_code (x := (ig15 7439)) (d := (ig18 7439).toInt.toNat) (kRun_cast hR17 rfl (congrArg Int.toNat oz34)) rfl (kj_len (n := 200) (c := 200) (hGg15.I.2.1 127) rfl (oz750 fig18_7439.2 z19) (by decide)) og18 (kEff_bin (oz853 kn12) (oz854 kn12) (by decide)) (kj_tn (oz751 z19) (oz3 fig15_7439.1))
                refine ko_steps mi_in154 2 _ (9, [(1, .int 12), (0, .ref 116)], [], (0, 0), ks ig18 ag18 qg18 rg18) (by rfl) ?_
                refine ko_perm [(0, .ref 116)] (List.forall_mem_cons.mpr ⟨(List.Mem.tail _ (List.Mem.head _)), (fun _ h => absurd h List.not_mem_nil)⟩) ?_
                have efig18_7438 : (ig18 7438).toInt = (ig15 7438).toInt := kg18.ti 7438 rfl
                have fig18_7437 : ((0 : Int) ≤ (ig18 7437).toInt) ∧ ((ig18 7437).toInt ≤ 120) := hGg18.I.1 7437
                have efig18_7437 : (ig18 7437).toInt = (ig15 7437).toInt := kg18.ti 7437 rfl
                have fig18_7429 : ((0 : Int) ≤ (ig18 7429).toInt) ∧ ((ig18 7429).toInt ≤ 120) := hGg18.I.1 7429
                have efig18_7429 : (ig18 7429).toInt = (ig15 7429).toInt := kg18.ti 7429 rfl
                exact ih4 _ _ _ _ hGg18 (oz845 efig18_7438 p4_0 z16.1) (oz846 efig18_7437 p4_5 s13 z16.2.2.2.2.2 kn1) (oz819 efig18_7429 efig18_7437 z16.2.2.1) (oz847 efig18_7437 p4_3 s13 z16.2.2.2.1 z19 kn1) (oz848 p4_4 z16.2.2.2.2.1 z19) (oz849 efig18_7437 p4_5 s13 z16.2.2.2.2.2 kn1) (kRun_cast hR20 rfl (congrArg Int.toNat oz34)) (kj_meas (oz823 efig15_7429 efig18_7429 efig18_7437 s13 z16.2.2.2.2.2 kn1) (oz824 efig15_7429 s13 z16.2.2.1 z16.2.2.2.2.2 kn1) hm4)
              ·
                subst eg18
                have z21 : (2 : Int) ≤ 1 := hg18
                exact (oz755 z21).elim
            ·
              subst eg15
              have fig15_7437 : ((0 : Int) ≤ (ig15 7437).toInt) ∧ ((ig15 7437).toInt ≤ 120) := hGg15.I.1 7437
              have fig15_7429 : ((0 : Int) ≤ (ig15 7429).toInt) ∧ ((ig15 7429).toInt ≤ 120) := hGg15.I.1 7429
              have efig15_7429 : (ig15 7429).toInt = (i4 7429).toInt := kg15.ti 7429 rfl
              have fig15_7439 : ((0 : Int) ≤ (ig15 7439).toInt) ∧ ((ig15 7439).toInt ≤ 200) := hGg15.I.1 7439
              have z22 : ((ig15 7438).toInt = (i4 7438).toInt) ∧ (((i4 7437) + 1).toInt ≤ (ig15 7437).toInt) ∧ ((ig15 7437).toInt ≤ (ig15 7429).toInt) ∧ (((ig15 7439).toInt - (ig15 7437).toInt) ≤ ((i4 7439).toInt - ((i4 7437) + 1).toInt)) ∧ ((i4 7439).toInt ≤ (ig15 7439).toInt) := hg15
              refine ko_steps mi_in154 1 _ (62, [(1, .int 12), (0, .ref 116)], [], (0, 0), ks ig15 ag15 qg15 rg15) (by rfl) ?_
              have hG23 := kG_call hGg1 hGg15 (by decide +kernel)
              refine ko_steps mi_in154 1 _ (63, [(1, .int 12), (0, .ref 116)], [.int 0], (0, 0), ks ig15 ag15 qg15 rg15) (by rfl) ?_
              exact ko_ret mi_in154 (by rfl) (hP 0 _ _ _ _ hG23 (Or.inr ⟨rfl, (oz850 p4_0 p4_3 p4_4 p4_5 s13 z22.1 z22.2.1 z22.2.2.1 z22.2.2.2.1 z22.2.2.2.2 kn1)⟩))
        ·
          have c24 : vg5.toInt = (43 : Int32).toInt := kd_neF c; clear c
          have s25 : ((i4 7437) + 1).toInt = (i4 7437).toInt + (1 : Int32).toInt := kd_add (oz12 fi4_7437.1 kn1) (oz192 fi4_7437.2 kn1)
          have hJ26 := kG_i hL4 7437 rfl (v := ((i4 7437) + 1)) ⟨(oz14 fi4_7437.1 s25 kn1), (oz857 c24 fi4_7429.2 s25 z6 kn43 kn1)⟩
          refine ko_steps mi_in154 12 _ (56, [(1, .int 11), (0, .ref 116)], [.ref 116], (0, 0), ks (ku i4 7437 ((i4 7437) + 1)) a4 q4 r4) (by rfl) ?_
          refine ko_callI mi_in154 (pc := 56) (ls := [(1, .int 11), (0, .ref 116)]) (st := [.ref 116]) (h := ks (ku i4 7437 ((i4 7437) + 1)) a4 q4 r4) (i := (.invokevirtual 196, 3, 153, 0, 9, 0, 401)) (by rfl) (by rfl) (cy := mi_c153) rfl rfl (h153 _ _ _ _ hJ26.I hJ26.R (oz844 hp0 p4_0) (oz812 hp1 p4_3 s25 kn1) (oz858 c24 s25 z6 kn43 kn1)) (kj_d1 (by decide)) ?_
          intro vg27 ig27 ag27 qg27 rg27 kg27 hg27
          have hGg27 := kG_call hJ26 kg27 (by decide +kernel)
          rcases hg27 with ⟨eg27, hg27⟩ | ⟨eg27, hg27⟩
          ·
            subst eg27
            obtain ⟨hg27, og27⟩ := hg27
            have fig27_7437 : ((0 : Int) ≤ (ig27 7437).toInt) ∧ ((ig27 7437).toInt ≤ 120) := hGg27.I.1 7437
            have fig27_7429 : ((0 : Int) ≤ (ig27 7429).toInt) ∧ ((ig27 7429).toInt ≤ 120) := hGg27.I.1 7429
            have efig27_7429 : (ig27 7429).toInt = (i4 7429).toInt := kg27.ti 7429 rfl
            have fig27_7439 : ((0 : Int) ≤ (ig27 7439).toInt) ∧ ((ig27 7439).toInt ≤ 200) := hGg27.I.1 7439
            have z28 : ((ig27 7438).toInt = (i4 7438).toInt) ∧ (((i4 7437) + 1).toInt ≤ (ig27 7437).toInt) ∧ ((ig27 7437).toInt ≤ (ig27 7429).toInt) ∧ (((ig27 7439).toInt - (ig27 7437).toInt) ≤ ((i4 7439).toInt - ((i4 7437) + 1).toInt)) ∧ ((i4 7439).toInt ≤ (ig27 7439).toInt) ∧ ((((i4 7437) + 1).toInt + 1) ≤ (ig27 7437).toInt) := hg27
            have hR29 := kRun_sub (kRun_cast O4_0 rfl (congrArg Int.toNat oz34)) og27
            refine ko_steps mi_in154 3 _ (66, [(1, .int 11), (0, .ref 116)], [.int 11, .ref 116], (0, 0), ks ig27 ag27 qg27 rg27) (by rfl) ?_
            refine ko_callI mi_in154 (pc := 66) (ls := [(1, .int 11), (0, .ref 116)]) (st := [.int 11, .ref 116]) (h := ks ig27 ag27 qg27 rg27) (i := (.invokevirtual 177, 3, 149, 0, 9, 0, 405)) (by rfl) (by rfl) (cy := mi_c149) rfl rfl (kc149_116 hGg27.I hGg27.R 11 (oz814 fig27_7437.2 fig27_7439.1 hp1 p4_3 s25 z28.2.2.2.1 kn1)) (kj_d3 (by decide)) ?_
            intro vg30 ig30 ag30 qg30 rg30 kg30 hg30
            have hGg30 := kG_call hGg27 kg30 (by decide +kernel)
            rcases hg30 with ⟨eg30, hg30⟩ | ⟨eg30, hg30⟩
            ·
              subst eg30
              obtain ⟨hg30, og30⟩ := hg30
              have fig30_7439 : ((0 : Int) ≤ (ig30 7439).toInt) ∧ ((ig30 7439).toInt ≤ 200) := hGg30.I.1 7439
              have z31 : (ig30 7439).toInt = ((ig27 7439).toInt + 1) := hg30
              have hR32 := kRun_code (x := (ig27 7439)) (d := (ig30 7439).toInt.toNat) (kRun_cast hR29 rfl (congrArg Int.toNat oz34)) rfl (kj_len (n := 200) (c := 200) (hGg27.I.2.1 127) rfl (oz750 fig30_7439.2 z31) (by decide)) og30 (kEff_bin (oz859 kn11) (oz860 kn11) (by decide)) (kj_tn (oz751 z31) (oz3 fig27_7439.1))
              refine ko_steps mi_in154 2 _ (9, [(1, .int 11), (0, .ref 116)], [], (0, 0), ks ig30 ag30 qg30 rg30) (by rfl) ?_
              refine ko_perm [(0, .ref 116)] (List.forall_mem_cons.mpr ⟨(List.Mem.tail _ (List.Mem.head _)), (fun _ h => absurd h List.not_mem_nil)⟩) ?_
              have efig30_7438 : (ig30 7438).toInt = (ig27 7438).toInt := kg30.ti 7438 rfl
              have fig30_7437 : ((0 : Int) ≤ (ig30 7437).toInt) ∧ ((ig30 7437).toInt ≤ 120) := hGg30.I.1 7437
              have efig30_7437 : (ig30 7437).toInt = (ig27 7437).toInt := kg30.ti 7437 rfl
              have fig30_7429 : ((0 : Int) ≤ (ig30 7429).toInt) ∧ ((ig30 7429).toInt ≤ 120) := hGg30.I.1 7429
              have efig30_7429 : (ig30 7429).toInt = (ig27 7429).toInt := kg30.ti 7429 rfl
              exact ih4 _ _ _ _ hGg30 (oz845 efig30_7438 p4_0 z28.1) (oz846 efig30_7437 p4_5 s25 z28.2.2.2.2.2 kn1) (oz819 efig30_7429 efig30_7437 z28.2.2.1) (oz847 efig30_7437 p4_3 s25 z28.2.2.2.1 z31 kn1) (oz848 p4_4 z28.2.2.2.2.1 z31) (oz849 efig30_7437 p4_5 s25 z28.2.2.2.2.2 kn1) (kRun_cast hR32 rfl (congrArg Int.toNat oz34)) (kj_meas (oz823 efig27_7429 efig30_7429 efig30_7437 s25 z28.2.2.2.2.2 kn1) (oz824 efig27_7429 s25 z28.2.2.1 z28.2.2.2.2.2 kn1) hm4)
            ·
              subst eg30
              have z33 : (2 : Int) ≤ 1 := hg30
              exact (oz755 z33).elim
          ·
            subst eg27
            have fig27_7437 : ((0 : Int) ≤ (ig27 7437).toInt) ∧ ((ig27 7437).toInt ≤ 120) := hGg27.I.1 7437
            have fig27_7429 : ((0 : Int) ≤ (ig27 7429).toInt) ∧ ((ig27 7429).toInt ≤ 120) := hGg27.I.1 7429
            have efig27_7429 : (ig27 7429).toInt = (i4 7429).toInt := kg27.ti 7429 rfl
            have fig27_7439 : ((0 : Int) ≤ (ig27 7439).toInt) ∧ ((ig27 7439).toInt ≤ 200) := hGg27.I.1 7439
            have z34 : ((ig27 7438).toInt = (i4 7438).toInt) ∧ (((i4 7437) + 1).toInt ≤ (ig27 7437).toInt) ∧ ((ig27 7437).toInt ≤ (ig27 7429).toInt) ∧ (((ig27 7439).toInt - (ig27 7437).toInt) ≤ ((i4 7439).toInt - ((i4 7437) + 1).toInt)) ∧ ((i4 7439).toInt ≤ (ig27 7439).toInt) := hg27
            refine ko_steps mi_in154 1 _ (62, [(1, .int 11), (0, .ref 116)], [], (0, 0), ks ig27 ag27 qg27 rg27) (by rfl) ?_
            have hG35 := kG_call hGg1 hGg27 (by decide +kernel)
            refine ko_steps mi_in154 1 _ (63, [(1, .int 11), (0, .ref 116)], [.int 0], (0, 0), ks ig27 ag27 qg27 rg27) (by rfl) ?_
            exact ko_ret mi_in154 (by rfl) (hP 0 _ _ _ _ hG35 (Or.inr ⟨rfl, (oz850 p4_0 p4_3 p4_4 p4_5 s25 z34.1 z34.2.1 z34.2.2.1 z34.2.2.2.1 z34.2.2.2.2 kn1)⟩))
    exact lp4 _ _ _ _ _ (kG_self _ hGg1.I hGg1.R) (oz719 z2.1) (oz839 z2.2.2.2.2.2) (oz173 z2.2.2.1) (oz840 z2.2.2.2.1) (oz173 z2.2.2.2.2.1) (oz841 z2.2.2.2.2.2) (kRun_cast hR3 rfl (congrArg Int.toNat oz34)) (Nat.lt_succ_self _)
  ·
    subst eg1
    have fig1_7437 : ((0 : Int) ≤ (ig1 7437).toInt) ∧ ((ig1 7437).toInt ≤ 120) := hGg1.I.1 7437
    have fig1_7429 : ((0 : Int) ≤ (ig1 7429).toInt) ∧ ((ig1 7429).toInt ≤ 120) := hGg1.I.1 7429
    have efig1_7429 : (ig1 7429).toInt = (i 7429).toInt := kg1.ti 7429 rfl
    have fig1_7439 : ((0 : Int) ≤ (ig1 7439).toInt) ∧ ((ig1 7439).toInt ≤ 200) := hGg1.I.1 7439
    have z36 : ((ig1 7438).toInt = (i 7438).toInt) ∧ ((i 7437).toInt ≤ (ig1 7437).toInt) ∧ ((ig1 7437).toInt ≤ (ig1 7429).toInt) ∧ (((ig1 7439).toInt - (ig1 7437).toInt) ≤ ((i 7439).toInt - (i 7437).toInt)) ∧ ((i 7439).toInt ≤ (ig1 7439).toInt) := hg1
    refine ko_steps mi_in154 2 _ (8, [(0, .ref 116)], [.int 0], (0, 0), ks ig1 ag1 qg1 rg1) (by rfl) ?_
    exact ko_ret mi_in154 (by rfl) (hP 0 _ _ _ _ hGg1 (Or.inr ⟨rfl, (oz842 z36.1 z36.2.1 z36.2.2.1 z36.2.2.2.1 z36.2.2.2.2)⟩))
set_option maxRecDepth 100000 in
theorem kLsR_155 (n : Nat) (h152 : kLR_152 n) (h153 : kLR_153 n) (h154 : kLR_154 n) : kLR_155 n := by
  intro i a q r hI hr hp0 hp1 hp2
  have hG := kG_self wR hI hr
  refine km_ofI (q := (mi_h155, mi_c155)) rfl (by decide) (Nat.le_of_ble_eq_true rfl) ?_
  intro P hP
  have fi_7439 : ((0 : Int) ≤ (i 7439).toInt) ∧ ((i 7439).toInt ≤ 200) := hG.I.1 7439
  have fi_7437 : ((0 : Int) ≤ (i 7437).toInt) ∧ ((i 7437).toInt ≤ 120) := hG.I.1 7437
  have fi_7429 : ((0 : Int) ≤ (i 7429).toInt) ∧ ((i 7429).toInt ≤ 120) := hG.I.1 7429
  have hn0 : (0 : Int) ≤ (n : Int) := Int.natCast_nonneg n
  have hR0 := kRun_start (a 127) ((i 7439).toInt.toNat)
  refine ko_steps mi_in155 1 _ (1, [(0, .ref 116)], [.ref 116], (0, 0), ks i a q r) (by rfl) ?_
  refine ko_callI mi_in155 (pc := 1) (ls := [(0, .ref 116)]) (st := [.ref 116]) (h := ks i a q r) (i := (.invokevirtual 199, 3, 154, 0, 9, 0, 400)) (by rfl) (by rfl) (cy := mi_c154) rfl rfl (h154 _ _ _ _ hG.I hG.R (oz808 hp0) (oz173 hp1) (oz173 hp2)) (kj_d1 (by decide)) ?_
  intro vg1 ig1 ag1 qg1 rg1 kg1 hg1
  have hGg1 := kG_call hG kg1 (by decide +kernel)
  rcases hg1 with ⟨eg1, hg1⟩ | ⟨eg1, hg1⟩
  ·
    subst eg1
    obtain ⟨hg1, og1⟩ := hg1
    have fig1_7437 : ((0 : Int) ≤ (ig1 7437).toInt) ∧ ((ig1 7437).toInt ≤ 120) := hGg1.I.1 7437
    have fig1_7429 : ((0 : Int) ≤ (ig1 7429).toInt) ∧ ((ig1 7429).toInt ≤ 120) := hGg1.I.1 7429
    have efig1_7429 : (ig1 7429).toInt = (i 7429).toInt := kg1.ti 7429 rfl
    have fig1_7439 : ((0 : Int) ≤ (ig1 7439).toInt) ∧ ((ig1 7439).toInt ≤ 200) := hGg1.I.1 7439
    have z2 : ((ig1 7438).toInt = (i 7438).toInt) ∧ ((i 7437).toInt ≤ (ig1 7437).toInt) ∧ ((ig1 7437).toInt ≤ (ig1 7429).toInt) ∧ (((ig1 7439).toInt - (ig1 7437).toInt) ≤ ((i 7439).toInt - (i 7437).toInt)) ∧ ((i 7439).toInt ≤ (ig1 7439).toInt) ∧ (((i 7437).toInt + 1) ≤ (ig1 7437).toInt) := hg1
    have hR3 := kRun_sub (kRun_cast hR0 rfl (congrArg Int.toNat oz34)) og1
    refine ko_steps mi_in155 2 _ (10, [(0, .ref 116)], [.ref 116], (0, 0), ks ig1 ag1 qg1 rg1) (by rfl) ?_
    refine ko_callPI mi_in155 (pc := 10) (ls := [(0, .ref 116)]) (st := [.ref 116]) (h := ks ig1 ag1 qg1 rg1) (i := (.invokevirtual 166, 3, 147, 0, 9, 0, 404)) (by rfl) (by rfl) (cy := mi_c147) rfl rfl (kc147_116 hGg1.I hGg1.R ) (kj_d3 (by decide)) ?_
    intro vg4 hg4
    have z5 : ((vg4.toInt = (-1)) ∧ ((ig1 7429).toInt ≤ (ig1 7437).toInt)) ∨ (((ig1 7437).toInt < (ig1 7429).toInt) ∧ (vg4.toInt = ((ag1 119).getD (ig1 7437).toNatClampNeg 0).toInt)) := hg4
    refine ko_steps mi_in155 1 _ (15, [(0, .ref 116)], [.int 60, .int vg4], (0, 0), ks ig1 ag1 qg1 rg1) (by rfl) ?_
    refine ko_if mi_in155 (vg4 != 60) 23 18 ([(0, .ref 116)], [], (0, 0), ks ig1 ag1 qg1 rg1) (by rfl) (fun c => ?_) (fun c => ?_)
    ·
      have c6 : vg4.toInt ≠ (60 : Int32).toInt := kd_ne c; clear c
      refine ko_steps mi_in155 1 _ (24, [(0, .ref 116)], [.ref 116], (0, 0), ks ig1 ag1 qg1 rg1) (by rfl) ?_
      refine ko_callPI mi_in155 (pc := 24) (ls := [(0, .ref 116)]) (st := [.ref 116]) (h := ks ig1 ag1 qg1 rg1) (i := (.invokevirtual 166, 3, 147, 0, 9, 0, 404)) (by rfl) (by rfl) (cy := mi_c147) rfl rfl (kc147_116 hGg1.I hGg1.R ) (kj_d3 (by decide)) ?_
      intro vg7 hg7
      have z8 : ((vg7.toInt = (-1)) ∧ ((ig1 7429).toInt ≤ (ig1 7437).toInt)) ∨ (((ig1 7437).toInt < (ig1 7429).toInt) ∧ (vg7.toInt = ((ag1 119).getD (ig1 7437).toNatClampNeg 0).toInt)) := hg7
      refine ko_steps mi_in155 1 _ (29, [(0, .ref 116)], [.int 61, .int vg7], (0, 0), ks ig1 ag1 qg1 rg1) (by rfl) ?_
      refine ko_if mi_in155 (vg7 != 61) 37 32 ([(0, .ref 116)], [], (0, 0), ks ig1 ag1 qg1 rg1) (by rfl) (fun c => ?_) (fun c => ?_)
      ·
        have c9 : vg7.toInt ≠ (61 : Int32).toInt := kd_ne c; clear c
        refine ko_steps mi_in155 1 _ (38, [(0, .ref 116)], [.ref 116], (0, 0), ks ig1 ag1 qg1 rg1) (by rfl) ?_
        refine ko_callPI mi_in155 (pc := 38) (ls := [(0, .ref 116)]) (st := [.ref 116]) (h := ks ig1 ag1 qg1 rg1) (i := (.invokevirtual 166, 3, 147, 0, 9, 0, 404)) (by rfl) (by rfl) (cy := mi_c147) rfl rfl (kc147_116 hGg1.I hGg1.R ) (kj_d3 (by decide)) ?_
        intro vg10 hg10
        have z11 : ((vg10.toInt = (-1)) ∧ ((ig1 7429).toInt ≤ (ig1 7437).toInt)) ∨ (((ig1 7437).toInt < (ig1 7429).toInt) ∧ (vg10.toInt = ((ag1 119).getD (ig1 7437).toNatClampNeg 0).toInt)) := hg10
        refine ko_steps mi_in155 1 _ (43, [(0, .ref 116)], [.int 62, .int vg10], (0, 0), ks ig1 ag1 qg1 rg1) (by rfl) ?_
        refine ko_if mi_in155 (vg10 != 62) 51 46 ([(0, .ref 116)], [], (0, 0), ks ig1 ag1 qg1 rg1) (by rfl) (fun c => ?_) (fun c => ?_)
        ·
          have c12 : vg10.toInt ≠ (62 : Int32).toInt := kd_ne c; clear c
          refine ko_steps mi_in155 5 _ (58, [(1, .int (-1)), (0, .ref 116)], [.int 1], (0, 0), ks ig1 ag1 qg1 rg1) (by rfl) ?_
          exact ko_ret mi_in155 (by rfl) (hP 1 _ _ _ _ hGg1 (Or.inl ⟨rfl, ⟨(oz843 z2.1 z2.2.2.1 z2.2.2.2.1 z2.2.2.2.2.1 z2.2.2.2.2.2), (kRun_cast hR3 rfl (congrArg Int.toNat oz34))⟩⟩))
        ·
          have c13 : vg10.toInt = (62 : Int32).toInt := kd_neF c; clear c
          have s14 : ((ig1 7437) + 1).toInt = (ig1 7437).toInt + (1 : Int32).toInt := kd_add (oz12 fig1_7437.1 kn1) (oz192 fig1_7437.2 kn1)
          have hJ15 := kG_i hGg1 7437 rfl (v := ((ig1 7437) + 1)) ⟨(oz14 fig1_7437.1 s14 kn1), (oz861 c13 fig1_7429.2 s14 z11 kn62 kn1)⟩
          refine ko_steps mi_in155 12 _ (70, [(1, .int 10), (0, .ref 116)], [.ref 116], (0, 0), ks (ku ig1 7437 ((ig1 7437) + 1)) ag1 qg1 rg1) (by rfl) ?_
          refine ko_callI mi_in155 (pc := 70) (ls := [(1, .int 10), (0, .ref 116)]) (st := [.ref 116]) (h := ks (ku ig1 7437 ((ig1 7437) + 1)) ag1 qg1 rg1) (i := (.invokevirtual 199, 3, 154, 0, 9, 0, 400)) (by rfl) (by rfl) (cy := mi_c154) rfl rfl (h154 _ _ _ _ hJ15.I hJ15.R (oz844 hp0 z2.1) (oz862 hp1 s14 z2.2.2.2.1 kn1) (oz863 c13 s14 z11 kn62 kn1)) (kj_d1 (by decide)) ?_
          intro vg16 ig16 ag16 qg16 rg16 kg16 hg16
          have hGg16 := kG_call hJ15 kg16 (by decide +kernel)
          rcases hg16 with ⟨eg16, hg16⟩ | ⟨eg16, hg16⟩
          ·
            subst eg16
            obtain ⟨hg16, og16⟩ := hg16
            have fig16_7437 : ((0 : Int) ≤ (ig16 7437).toInt) ∧ ((ig16 7437).toInt ≤ 120) := hGg16.I.1 7437
            have fig16_7429 : ((0 : Int) ≤ (ig16 7429).toInt) ∧ ((ig16 7429).toInt ≤ 120) := hGg16.I.1 7429
            have efig16_7429 : (ig16 7429).toInt = (ig1 7429).toInt := kg16.ti 7429 rfl
            have fig16_7439 : ((0 : Int) ≤ (ig16 7439).toInt) ∧ ((ig16 7439).toInt ≤ 200) := hGg16.I.1 7439
            have z17 : ((ig16 7438).toInt = (ig1 7438).toInt) ∧ (((ig1 7437) + 1).toInt ≤ (ig16 7437).toInt) ∧ ((ig16 7437).toInt ≤ (ig16 7429).toInt) ∧ (((ig16 7439).toInt - (ig16 7437).toInt) ≤ ((ig1 7439).toInt - ((ig1 7437) + 1).toInt)) ∧ ((ig1 7439).toInt ≤ (ig16 7439).toInt) ∧ ((((ig1 7437) + 1).toInt + 1) ≤ (ig16 7437).toInt) := hg16
            have hR18 := kRun_sub (kRun_cast hR3 rfl (congrArg Int.toNat oz34)) og16
            refine ko_steps mi_in155 3 _ (78, [(1, .int 10), (0, .ref 116)], [.int 10, .ref 116], (0, 0), ks ig16 ag16 qg16 rg16) (by rfl) ?_
            refine ko_callI mi_in155 (pc := 78) (ls := [(1, .int 10), (0, .ref 116)]) (st := [.int 10, .ref 116]) (h := ks ig16 ag16 qg16 rg16) (i := (.invokevirtual 177, 3, 149, 0, 9, 0, 405)) (by rfl) (by rfl) (cy := mi_c149) rfl rfl (kc149_116 hGg16.I hGg16.R 10 (oz864 fig16_7437.2 fig16_7439.1 hp1 s14 z17.2.2.2.1 z2.2.2.2.1 kn1)) (kj_d3 (by decide)) ?_
            intro vg19 ig19 ag19 qg19 rg19 kg19 hg19
            have hGg19 := kG_call hGg16 kg19 (by decide +kernel)
            rcases hg19 with ⟨eg19, hg19⟩ | ⟨eg19, hg19⟩
            ·
              subst eg19
              obtain ⟨hg19, og19⟩ := hg19
              have fig19_7439 : ((0 : Int) ≤ (ig19 7439).toInt) ∧ ((ig19 7439).toInt ≤ 200) := hGg19.I.1 7439
              have z20 : (ig19 7439).toInt = ((ig16 7439).toInt + 1) := hg19
              have hR21 := kRun_code (x := (ig16 7439)) (d := (ig19 7439).toInt.toNat) (kRun_cast hR18 rfl (congrArg Int.toNat oz34)) rfl (kj_len (n := 200) (c := 200) (hGg16.I.2.1 127) rfl (oz750 fig19_7439.2 z20) (by decide)) og19 (kEff_bin (oz865 kn10) (oz866 kn10) (by decide)) (kj_tn (oz751 z20) (oz3 fig16_7439.1))
              refine ko_steps mi_in155 3 _ (89, [(1, .int 10), (0, .ref 116)], [.int 1], (0, 0), ks ig19 ag19 qg19 rg19) (by rfl) ?_
              have efig19_7438 : (ig19 7438).toInt = (ig16 7438).toInt := kg19.ti 7438 rfl
              have fig19_7437 : ((0 : Int) ≤ (ig19 7437).toInt) ∧ ((ig19 7437).toInt ≤ 120) := hGg19.I.1 7437
              have efig19_7437 : (ig19 7437).toInt = (ig16 7437).toInt := kg19.ti 7437 rfl
              have fig19_7429 : ((0 : Int) ≤ (ig19 7429).toInt) ∧ ((ig19 7429).toInt ≤ 120) := hGg19.I.1 7429
              have efig19_7429 : (ig19 7429).toInt = (ig16 7429).toInt := kg19.ti 7429 rfl
              exact ko_ret mi_in155 (by rfl) (hP 1 _ _ _ _ hGg19 (Or.inl ⟨rfl, ⟨(oz867 efig19_7429 efig19_7437 efig19_7438 s14 z17.1 z17.2.2.1 z17.2.2.2.1 z17.2.2.2.2.1 z17.2.2.2.2.2 z2.1 z2.2.2.2.1 z2.2.2.2.2.1 z2.2.2.2.2.2 z20 kn1), (kRun_cast hR21 rfl (congrArg Int.toNat oz34))⟩⟩))
            ·
              subst eg19
              have z22 : (2 : Int) ≤ 1 := hg19
              exact (oz755 z22).elim
          ·
            subst eg16
            have fig16_7437 : ((0 : Int) ≤ (ig16 7437).toInt) ∧ ((ig16 7437).toInt ≤ 120) := hGg16.I.1 7437
            have fig16_7429 : ((0 : Int) ≤ (ig16 7429).toInt) ∧ ((ig16 7429).toInt ≤ 120) := hGg16.I.1 7429
            have efig16_7429 : (ig16 7429).toInt = (ig1 7429).toInt := kg16.ti 7429 rfl
            have fig16_7439 : ((0 : Int) ≤ (ig16 7439).toInt) ∧ ((ig16 7439).toInt ≤ 200) := hGg16.I.1 7439
            have z23 : ((ig16 7438).toInt = (ig1 7438).toInt) ∧ (((ig1 7437) + 1).toInt ≤ (ig16 7437).toInt) ∧ ((ig16 7437).toInt ≤ (ig16 7429).toInt) ∧ (((ig16 7439).toInt - (ig16 7437).toInt) ≤ ((ig1 7439).toInt - ((ig1 7437) + 1).toInt)) ∧ ((ig1 7439).toInt ≤ (ig16 7439).toInt) := hg16
            refine ko_steps mi_in155 2 _ (89, [(1, .int 10), (0, .ref 116)], [.int 0], (0, 0), ks ig16 ag16 qg16 rg16) (by rfl) ?_
            exact ko_ret mi_in155 (by rfl) (hP 0 _ _ _ _ hGg16 (Or.inr ⟨rfl, (oz868 s14 z2.1 z2.2.2.2.1 z2.2.2.2.2.1 z2.2.2.2.2.2 z23.1 z23.2.1 z23.2.2.1 z23.2.2.2.1 z23.2.2.2.2 kn1)⟩))
      ·
        have c24 : vg7.toInt = (61 : Int32).toInt := kd_neF c; clear c
        have s25 : ((ig1 7437) + 1).toInt = (ig1 7437).toInt + (1 : Int32).toInt := kd_add (oz12 fig1_7437.1 kn1) (oz192 fig1_7437.2 kn1)
        have hJ26 := kG_i hGg1 7437 rfl (v := ((ig1 7437) + 1)) ⟨(oz14 fig1_7437.1 s25 kn1), (oz869 c24 fig1_7429.2 s25 z8 kn61 kn1)⟩
        refine ko_steps mi_in155 12 _ (70, [(1, .int 9), (0, .ref 116)], [.ref 116], (0, 0), ks (ku ig1 7437 ((ig1 7437) + 1)) ag1 qg1 rg1) (by rfl) ?_
        refine ko_callI mi_in155 (pc := 70) (ls := [(1, .int 9), (0, .ref 116)]) (st := [.ref 116]) (h := ks (ku ig1 7437 ((ig1 7437) + 1)) ag1 qg1 rg1) (i := (.invokevirtual 199, 3, 154, 0, 9, 0, 400)) (by rfl) (by rfl) (cy := mi_c154) rfl rfl (h154 _ _ _ _ hJ26.I hJ26.R (oz844 hp0 z2.1) (oz862 hp1 s25 z2.2.2.2.1 kn1) (oz870 c24 s25 z8 kn61 kn1)) (kj_d1 (by decide)) ?_
        intro vg27 ig27 ag27 qg27 rg27 kg27 hg27
        have hGg27 := kG_call hJ26 kg27 (by decide +kernel)
        rcases hg27 with ⟨eg27, hg27⟩ | ⟨eg27, hg27⟩
        ·
          subst eg27
          obtain ⟨hg27, og27⟩ := hg27
          have fig27_7437 : ((0 : Int) ≤ (ig27 7437).toInt) ∧ ((ig27 7437).toInt ≤ 120) := hGg27.I.1 7437
          have fig27_7429 : ((0 : Int) ≤ (ig27 7429).toInt) ∧ ((ig27 7429).toInt ≤ 120) := hGg27.I.1 7429
          have efig27_7429 : (ig27 7429).toInt = (ig1 7429).toInt := kg27.ti 7429 rfl
          have fig27_7439 : ((0 : Int) ≤ (ig27 7439).toInt) ∧ ((ig27 7439).toInt ≤ 200) := hGg27.I.1 7439
          have z28 : ((ig27 7438).toInt = (ig1 7438).toInt) ∧ (((ig1 7437) + 1).toInt ≤ (ig27 7437).toInt) ∧ ((ig27 7437).toInt ≤ (ig27 7429).toInt) ∧ (((ig27 7439).toInt - (ig27 7437).toInt) ≤ ((ig1 7439).toInt - ((ig1 7437) + 1).toInt)) ∧ ((ig1 7439).toInt ≤ (ig27 7439).toInt) ∧ ((((ig1 7437) + 1).toInt + 1) ≤ (ig27 7437).toInt) := hg27
          have hR29 := kRun_sub (kRun_cast hR3 rfl (congrArg Int.toNat oz34)) og27
          refine ko_steps mi_in155 3 _ (78, [(1, .int 9), (0, .ref 116)], [.int 9, .ref 116], (0, 0), ks ig27 ag27 qg27 rg27) (by rfl) ?_
          refine ko_callI mi_in155 (pc := 78) (ls := [(1, .int 9), (0, .ref 116)]) (st := [.int 9, .ref 116]) (h := ks ig27 ag27 qg27 rg27) (i := (.invokevirtual 177, 3, 149, 0, 9, 0, 405)) (by rfl) (by rfl) (cy := mi_c149) rfl rfl (kc149_116 hGg27.I hGg27.R 9 (oz871 fig27_7437.2 fig27_7439.1 hp1 s25 z2.2.2.2.1 z28.2.2.2.1 kn1)) (kj_d3 (by decide)) ?_
          intro vg30 ig30 ag30 qg30 rg30 kg30 hg30
          have hGg30 := kG_call hGg27 kg30 (by decide +kernel)
          rcases hg30 with ⟨eg30, hg30⟩ | ⟨eg30, hg30⟩
          ·
            subst eg30
            obtain ⟨hg30, og30⟩ := hg30
            have fig30_7439 : ((0 : Int) ≤ (ig30 7439).toInt) ∧ ((ig30 7439).toInt ≤ 200) := hGg30.I.1 7439
            have z31 : (ig30 7439).toInt = ((ig27 7439).toInt + 1) := hg30
            have hR32 := kRun_code (x := (ig27 7439)) (d := (ig30 7439).toInt.toNat) (kRun_cast hR29 rfl (congrArg Int.toNat oz34)) rfl (kj_len (n := 200) (c := 200) (hGg27.I.2.1 127) rfl (oz750 fig30_7439.2 z31) (by decide)) og30 (kEff_bin (oz872 kn9) (oz873 kn9) (by decide)) (kj_tn (oz751 z31) (oz3 fig27_7439.1))
            refine ko_steps mi_in155 3 _ (89, [(1, .int 9), (0, .ref 116)], [.int 1], (0, 0), ks ig30 ag30 qg30 rg30) (by rfl) ?_
            have efig30_7438 : (ig30 7438).toInt = (ig27 7438).toInt := kg30.ti 7438 rfl
            have fig30_7437 : ((0 : Int) ≤ (ig30 7437).toInt) ∧ ((ig30 7437).toInt ≤ 120) := hGg30.I.1 7437
            have efig30_7437 : (ig30 7437).toInt = (ig27 7437).toInt := kg30.ti 7437 rfl
            have fig30_7429 : ((0 : Int) ≤ (ig30 7429).toInt) ∧ ((ig30 7429).toInt ≤ 120) := hGg30.I.1 7429
            have efig30_7429 : (ig30 7429).toInt = (ig27 7429).toInt := kg30.ti 7429 rfl
            exact ko_ret mi_in155 (by rfl) (hP 1 _ _ _ _ hGg30 (Or.inl ⟨rfl, ⟨(oz874 efig30_7429 efig30_7437 efig30_7438 s25 z2.1 z2.2.2.2.1 z2.2.2.2.2.1 z2.2.2.2.2.2 z28.1 z28.2.2.1 z28.2.2.2.1 z28.2.2.2.2.1 z28.2.2.2.2.2 z31 kn1), (kRun_cast hR32 rfl (congrArg Int.toNat oz34))⟩⟩))
          ·
            subst eg30
            have z33 : (2 : Int) ≤ 1 := hg30
            exact (oz755 z33).elim
        ·
          subst eg27
          have fig27_7437 : ((0 : Int) ≤ (ig27 7437).toInt) ∧ ((ig27 7437).toInt ≤ 120) := hGg27.I.1 7437
          have fig27_7429 : ((0 : Int) ≤ (ig27 7429).toInt) ∧ ((ig27 7429).toInt ≤ 120) := hGg27.I.1 7429
          have efig27_7429 : (ig27 7429).toInt = (ig1 7429).toInt := kg27.ti 7429 rfl
          have fig27_7439 : ((0 : Int) ≤ (ig27 7439).toInt) ∧ ((ig27 7439).toInt ≤ 200) := hGg27.I.1 7439
          have z34 : ((ig27 7438).toInt = (ig1 7438).toInt) ∧ (((ig1 7437) + 1).toInt ≤ (ig27 7437).toInt) ∧ ((ig27 7437).toInt ≤ (ig27 7429).toInt) ∧ (((ig27 7439).toInt - (ig27 7437).toInt) ≤ ((ig1 7439).toInt - ((ig1 7437) + 1).toInt)) ∧ ((ig1 7439).toInt ≤ (ig27 7439).toInt) := hg27
          refine ko_steps mi_in155 2 _ (89, [(1, .int 9), (0, .ref 116)], [.int 0], (0, 0), ks ig27 ag27 qg27 rg27) (by rfl) ?_
          exact ko_ret mi_in155 (by rfl) (hP 0 _ _ _ _ hGg27 (Or.inr ⟨rfl, (oz868 s25 z2.1 z2.2.2.2.1 z2.2.2.2.2.1 z2.2.2.2.2.2 z34.1 z34.2.1 z34.2.2.1 z34.2.2.2.1 z34.2.2.2.2 kn1)⟩))
    ·
      have c35 : vg4.toInt = (60 : Int32).toInt := kd_neF c; clear c
      have s36 : ((ig1 7437) + 1).toInt = (ig1 7437).toInt + (1 : Int32).toInt := kd_add (oz12 fig1_7437.1 kn1) (oz192 fig1_7437.2 kn1)
      have hJ37 := kG_i hGg1 7437 rfl (v := ((ig1 7437) + 1)) ⟨(oz14 fig1_7437.1 s36 kn1), (oz875 c35 fig1_7429.2 s36 z5 kn60 kn1)⟩
      refine ko_steps mi_in155 12 _ (70, [(1, .int 8), (0, .ref 116)], [.ref 116], (0, 0), ks (ku ig1 7437 ((ig1 7437) + 1)) ag1 qg1 rg1) (by rfl) ?_
      refine ko_callI mi_in155 (pc := 70) (ls := [(1, .int 8), (0, .ref 116)]) (st := [.ref 116]) (h := ks (ku ig1 7437 ((ig1 7437) + 1)) ag1 qg1 rg1) (i := (.invokevirtual 199, 3, 154, 0, 9, 0, 400)) (by rfl) (by rfl) (cy := mi_c154) rfl rfl (h154 _ _ _ _ hJ37.I hJ37.R (oz844 hp0 z2.1) (oz862 hp1 s36 z2.2.2.2.1 kn1) (oz876 c35 s36 z5 kn60 kn1)) (kj_d1 (by decide)) ?_
      intro vg38 ig38 ag38 qg38 rg38 kg38 hg38
      have hGg38 := kG_call hJ37 kg38 (by decide +kernel)
      rcases hg38 with ⟨eg38, hg38⟩ | ⟨eg38, hg38⟩
      ·
        subst eg38
        obtain ⟨hg38, og38⟩ := hg38
        have fig38_7437 : ((0 : Int) ≤ (ig38 7437).toInt) ∧ ((ig38 7437).toInt ≤ 120) := hGg38.I.1 7437
        have fig38_7429 : ((0 : Int) ≤ (ig38 7429).toInt) ∧ ((ig38 7429).toInt ≤ 120) := hGg38.I.1 7429
        have efig38_7429 : (ig38 7429).toInt = (ig1 7429).toInt := kg38.ti 7429 rfl
        have fig38_7439 : ((0 : Int) ≤ (ig38 7439).toInt) ∧ ((ig38 7439).toInt ≤ 200) := hGg38.I.1 7439
        have z39 : ((ig38 7438).toInt = (ig1 7438).toInt) ∧ (((ig1 7437) + 1).toInt ≤ (ig38 7437).toInt) ∧ ((ig38 7437).toInt ≤ (ig38 7429).toInt) ∧ (((ig38 7439).toInt - (ig38 7437).toInt) ≤ ((ig1 7439).toInt - ((ig1 7437) + 1).toInt)) ∧ ((ig1 7439).toInt ≤ (ig38 7439).toInt) ∧ ((((ig1 7437) + 1).toInt + 1) ≤ (ig38 7437).toInt) := hg38
        have hR40 := kRun_sub (kRun_cast hR3 rfl (congrArg Int.toNat oz34)) og38
        refine ko_steps mi_in155 3 _ (78, [(1, .int 8), (0, .ref 116)], [.int 8, .ref 116], (0, 0), ks ig38 ag38 qg38 rg38) (by rfl) ?_
        refine ko_callI mi_in155 (pc := 78) (ls := [(1, .int 8), (0, .ref 116)]) (st := [.int 8, .ref 116]) (h := ks ig38 ag38 qg38 rg38) (i := (.invokevirtual 177, 3, 149, 0, 9, 0, 405)) (by rfl) (by rfl) (cy := mi_c149) rfl rfl (kc149_116 hGg38.I hGg38.R 8 (oz871 fig38_7437.2 fig38_7439.1 hp1 s36 z2.2.2.2.1 z39.2.2.2.1 kn1)) (kj_d3 (by decide)) ?_
        intro vg41 ig41 ag41 qg41 rg41 kg41 hg41
        have hGg41 := kG_call hGg38 kg41 (by decide +kernel)
        rcases hg41 with ⟨eg41, hg41⟩ | ⟨eg41, hg41⟩
        ·
          subst eg41
          obtain ⟨hg41, og41⟩ := hg41
          have fig41_7439 : ((0 : Int) ≤ (ig41 7439).toInt) ∧ ((ig41 7439).toInt ≤ 200) := hGg41.I.1 7439
          have z42 : (ig41 7439).toInt = ((ig38 7439).toInt + 1) := hg41
          have hR43 := kRun_code (x := (ig38 7439)) (d := (ig41 7439).toInt.toNat) (kRun_cast hR40 rfl (congrArg Int.toNat oz34)) rfl (kj_len (n := 200) (c := 200) (hGg38.I.2.1 127) rfl (oz750 fig41_7439.2 z42) (by decide)) og41 (kEff_bin (oz877 kn8) (oz878 kn8) (by decide)) (kj_tn (oz751 z42) (oz3 fig38_7439.1))
          refine ko_steps mi_in155 3 _ (89, [(1, .int 8), (0, .ref 116)], [.int 1], (0, 0), ks ig41 ag41 qg41 rg41) (by rfl) ?_
          have efig41_7438 : (ig41 7438).toInt = (ig38 7438).toInt := kg41.ti 7438 rfl
          have fig41_7437 : ((0 : Int) ≤ (ig41 7437).toInt) ∧ ((ig41 7437).toInt ≤ 120) := hGg41.I.1 7437
          have efig41_7437 : (ig41 7437).toInt = (ig38 7437).toInt := kg41.ti 7437 rfl
          have fig41_7429 : ((0 : Int) ≤ (ig41 7429).toInt) ∧ ((ig41 7429).toInt ≤ 120) := hGg41.I.1 7429
          have efig41_7429 : (ig41 7429).toInt = (ig38 7429).toInt := kg41.ti 7429 rfl
          exact ko_ret mi_in155 (by rfl) (hP 1 _ _ _ _ hGg41 (Or.inl ⟨rfl, ⟨(oz874 efig41_7429 efig41_7437 efig41_7438 s36 z2.1 z2.2.2.2.1 z2.2.2.2.2.1 z2.2.2.2.2.2 z39.1 z39.2.2.1 z39.2.2.2.1 z39.2.2.2.2.1 z39.2.2.2.2.2 z42 kn1), (kRun_cast hR43 rfl (congrArg Int.toNat oz34))⟩⟩))
        ·
          subst eg41
          have z44 : (2 : Int) ≤ 1 := hg41
          exact (oz755 z44).elim
      ·
        subst eg38
        have fig38_7437 : ((0 : Int) ≤ (ig38 7437).toInt) ∧ ((ig38 7437).toInt ≤ 120) := hGg38.I.1 7437
        have fig38_7429 : ((0 : Int) ≤ (ig38 7429).toInt) ∧ ((ig38 7429).toInt ≤ 120) := hGg38.I.1 7429
        have efig38_7429 : (ig38 7429).toInt = (ig1 7429).toInt := kg38.ti 7429 rfl
        have fig38_7439 : ((0 : Int) ≤ (ig38 7439).toInt) ∧ ((ig38 7439).toInt ≤ 200) := hGg38.I.1 7439
        have z45 : ((ig38 7438).toInt = (ig1 7438).toInt) ∧ (((ig1 7437) + 1).toInt ≤ (ig38 7437).toInt) ∧ ((ig38 7437).toInt ≤ (ig38 7429).toInt) ∧ (((ig38 7439).toInt - (ig38 7437).toInt) ≤ ((ig1 7439).toInt - ((ig1 7437) + 1).toInt)) ∧ ((ig1 7439).toInt ≤ (ig38 7439).toInt) := hg38
        refine ko_steps mi_in155 2 _ (89, [(1, .int 8), (0, .ref 116)], [.int 0], (0, 0), ks ig38 ag38 qg38 rg38) (by rfl) ?_
        exact ko_ret mi_in155 (by rfl) (hP 0 _ _ _ _ hGg38 (Or.inr ⟨rfl, (oz868 s36 z2.1 z2.2.2.2.1 z2.2.2.2.2.1 z2.2.2.2.2.2 z45.1 z45.2.1 z45.2.2.1 z45.2.2.2.1 z45.2.2.2.2 kn1)⟩))
  ·
    subst eg1
    have fig1_7437 : ((0 : Int) ≤ (ig1 7437).toInt) ∧ ((ig1 7437).toInt ≤ 120) := hGg1.I.1 7437
    have fig1_7429 : ((0 : Int) ≤ (ig1 7429).toInt) ∧ ((ig1 7429).toInt ≤ 120) := hGg1.I.1 7429
    have efig1_7429 : (ig1 7429).toInt = (i 7429).toInt := kg1.ti 7429 rfl
    have fig1_7439 : ((0 : Int) ≤ (ig1 7439).toInt) ∧ ((ig1 7439).toInt ≤ 200) := hGg1.I.1 7439
    have z46 : ((ig1 7438).toInt = (i 7438).toInt) ∧ ((i 7437).toInt ≤ (ig1 7437).toInt) ∧ ((ig1 7437).toInt ≤ (ig1 7429).toInt) ∧ (((ig1 7439).toInt - (ig1 7437).toInt) ≤ ((i 7439).toInt - (i 7437).toInt)) ∧ ((i 7439).toInt ≤ (ig1 7439).toInt) := hg1
    refine ko_steps mi_in155 2 _ (8, [(0, .ref 116)], [.int 0], (0, 0), ks ig1 ag1 qg1 rg1) (by rfl) ?_
    exact ko_ret mi_in155 (by rfl) (hP 0 _ _ _ _ hGg1 (Or.inr ⟨rfl, (oz842 z46.1 z46.2.1 z46.2.2.1 z46.2.2.2.1 z46.2.2.2.2)⟩))
set_option maxRecDepth 100000 in
theorem kLsR_156 (n : Nat) (h152 : kLR_152 n) (h153 : kLR_153 n) (h154 : kLR_154 n) (h155 : kLR_155 n) : kLR_156 n := by
  intro i a q r hI hr hp0 hp1 hp2
  have hG := kG_self wR hI hr
  refine km_ofI (q := (mi_h156, mi_c156)) rfl (by decide) (Nat.le_of_ble_eq_true rfl) ?_
  intro P hP
  have fi_7439 : ((0 : Int) ≤ (i 7439).toInt) ∧ ((i 7439).toInt ≤ 200) := hG.I.1 7439
  have fi_7437 : ((0 : Int) ≤ (i 7437).toInt) ∧ ((i 7437).toInt ≤ 120) := hG.I.1 7437
  have fi_7429 : ((0 : Int) ≤ (i 7429).toInt) ∧ ((i 7429).toInt ≤ 120) := hG.I.1 7429
  have hn0 : (0 : Int) ≤ (n : Int) := Int.natCast_nonneg n
  have hR0 := kRun_start (a 127) ((i 7439).toInt.toNat)
  refine ko_steps mi_in156 1 _ (1, [(0, .ref 116)], [.ref 116], (0, 0), ks i a q r) (by rfl) ?_
  refine ko_callI mi_in156 (pc := 1) (ls := [(0, .ref 116)]) (st := [.ref 116]) (h := ks i a q r) (i := (.invokevirtual 202, 3, 155, 0, 9, 0, 399)) (by rfl) (by rfl) (cy := mi_c155) rfl rfl (h155 _ _ _ _ hG.I hG.R (oz808 hp0) (oz173 hp1) (oz173 hp2)) (kj_d1 (by decide)) ?_
  intro vg1 ig1 ag1 qg1 rg1 kg1 hg1
  have hGg1 := kG_call hG kg1 (by decide +kernel)
  rcases hg1 with ⟨eg1, hg1⟩ | ⟨eg1, hg1⟩
  ·
    subst eg1
    obtain ⟨hg1, og1⟩ := hg1
    have fig1_7437 : ((0 : Int) ≤ (ig1 7437).toInt) ∧ ((ig1 7437).toInt ≤ 120) := hGg1.I.1 7437
    have fig1_7429 : ((0 : Int) ≤ (ig1 7429).toInt) ∧ ((ig1 7429).toInt ≤ 120) := hGg1.I.1 7429
    have efig1_7429 : (ig1 7429).toInt = (i 7429).toInt := kg1.ti 7429 rfl
    have fig1_7439 : ((0 : Int) ≤ (ig1 7439).toInt) ∧ ((ig1 7439).toInt ≤ 200) := hGg1.I.1 7439
    have z2 : ((ig1 7438).toInt = (i 7438).toInt) ∧ ((i 7437).toInt ≤ (ig1 7437).toInt) ∧ ((ig1 7437).toInt ≤ (ig1 7429).toInt) ∧ (((ig1 7439).toInt - (ig1 7437).toInt) ≤ ((i 7439).toInt - (i 7437).toInt)) ∧ ((i 7439).toInt ≤ (ig1 7439).toInt) ∧ (((i 7437).toInt + 1) ≤ (ig1 7437).toInt) := hg1
    have hR3 := kRun_sub (kRun_cast hR0 rfl (congrArg Int.toNat oz34)) og1
    refine ko_steps mi_in156 1 _ (9, [(0, .ref 116)], [], (0, 0), ks ig1 ag1 qg1 rg1) (by rfl) ?_
    have lp4 : ∀ (n : Nat) (i4 : Nat → Int32) (a4 : Nat → List Int32) (q4 : Nat → List Int64) (r4 : Nat → Nat), kG w156_116_L9 ig1 ag1 qg1 rg1 i4 a4 q4 r4 → (i4 7438).toInt = (i 7438).toInt → (i 7437).toInt ≤ (i4 7437).toInt → (i4 7437).toInt ≤ (i4 7429).toInt → ((i4 7439).toInt - (i4 7437).toInt) ≤ ((i 7439).toInt - (i 7437).toInt) → (i 7439).toInt ≤ (i4 7439).toInt → ((i 7437).toInt + 1) ≤ (i4 7437).toInt → kRun (a 127) (a4 127) (i 7439).toInt.toNat (i4 7439).toInt.toNat 1 → (((i4 7429).toInt - (i4 7437).toInt)).toNat < n → ko (6 * n + 14) (mi_h156, mi_c156) P (9, [(0, .ref 116)], [], (0, 0), ks i4 a4 q4 r4) := by
      intro n
      induction n with
      | zero =>
        intro _ _ _ _ _ _ _ _ _ _ _ _ hm
        exact absurd hm (Nat.not_lt_zero _)
      | succ n ih4 =>
        intro i4 a4 q4 r4 hL4 p4_0 p4_1 p4_2 p4_3 p4_4 p4_5 O4_0 hm4
        have fi4_7437 : ((0 : Int) ≤ (i4 7437).toInt) ∧ ((i4 7437).toInt ≤ 120) := hL4.I.1 7437
        have fi4_7429 : ((0 : Int) ≤ (i4 7429).toInt) ∧ ((i4 7429).toInt ≤ 120) := hL4.I.1 7429
        have efi4_7429 : (i4 7429).toInt = (ig1 7429).toInt := hL4.ti 7429 rfl
        have fi4_7439 : ((0 : Int) ≤ (i4 7439).toInt) ∧ ((i4 7439).toInt ≤ 200) := hL4.I.1 7439
        refine ko_steps mi_in156 2 _ (12, [(0, .ref 116)], [.int 38, .ref 116], (0, 0), ks i4 a4 q4 r4) (by rfl) ?_
        refine ko_callI mi_in156 (pc := 12) (ls := [(0, .ref 116)]) (st := [.int 38, .ref 116]) (h := ks i4 a4 q4 r4) (i := (.invokevirtual 187, 3, 148, 0, 9, 0, 407)) (by rfl) (by rfl) (cy := mi_c148) rfl rfl (kc148_116 hL4.I hL4.R 38 (oz879 kn38)) (kj_d3 (by decide)) ?_
        intro vg5 ig5 ag5 qg5 rg5 kg5 hg5
        have hGg5 := kG_call hL4 kg5 (by decide +kernel)
        rcases hg5 with ⟨eg5, hg5⟩ | ⟨eg5, hg5⟩
        ·
          subst eg5
          have fig5_7437 : ((0 : Int) ≤ (ig5 7437).toInt) ∧ ((ig5 7437).toInt ≤ 120) := hGg5.I.1 7437
          have fig5_7429 : ((0 : Int) ≤ (ig5 7429).toInt) ∧ ((ig5 7429).toInt ≤ 120) := hGg5.I.1 7429
          have efig5_7429 : (ig5 7429).toInt = (i4 7429).toInt := kg5.ti 7429 rfl
          have z6 : ((ig5 7437).toInt = ((i4 7437).toInt + 1)) ∧ ((ig5 7437).toInt ≤ (ig5 7429).toInt) := hg5
          refine ko_steps mi_in156 2 _ (19, [(0, .ref 116)], [.ref 116], (0, 0), ks ig5 ag5 qg5 rg5) (by rfl) ?_
          have efig5_7438 : (ig5 7438).toInt = (i4 7438).toInt := kg5.ti 7438 rfl
          have fig5_7439 : ((0 : Int) ≤ (ig5 7439).toInt) ∧ ((ig5 7439).toInt ≤ 200) := hGg5.I.1 7439
          have efig5_7439 : (ig5 7439).toInt = (i4 7439).toInt := kg5.ti 7439 rfl
          refine ko_callI mi_in156 (pc := 19) (ls := [(0, .ref 116)]) (st := [.ref 116]) (h := ks ig5 ag5 qg5 rg5) (i := (.invokevirtual 202, 3, 155, 0, 9, 0, 399)) (by rfl) (by rfl) (cy := mi_c155) rfl rfl (h155 _ _ _ _ hGg5.I hGg5.R (oz811 efig5_7438 hp0 p4_0) (oz881 efig5_7439 hp1 p4_3 z6.1) (oz173 z6.2)) (kj_d1 (by decide)) ?_
          intro vg7 ig7 ag7 qg7 rg7 kg7 hg7
          have hGg7 := kG_call hGg5 kg7 (by decide +kernel)
          rcases hg7 with ⟨eg7, hg7⟩ | ⟨eg7, hg7⟩
          ·
            subst eg7
            obtain ⟨hg7, og7⟩ := hg7
            have fig7_7437 : ((0 : Int) ≤ (ig7 7437).toInt) ∧ ((ig7 7437).toInt ≤ 120) := hGg7.I.1 7437
            have fig7_7429 : ((0 : Int) ≤ (ig7 7429).toInt) ∧ ((ig7 7429).toInt ≤ 120) := hGg7.I.1 7429
            have efig7_7429 : (ig7 7429).toInt = (ig5 7429).toInt := kg7.ti 7429 rfl
            have fig7_7439 : ((0 : Int) ≤ (ig7 7439).toInt) ∧ ((ig7 7439).toInt ≤ 200) := hGg7.I.1 7439
            have z8 : ((ig7 7438).toInt = (ig5 7438).toInt) ∧ ((ig5 7437).toInt ≤ (ig7 7437).toInt) ∧ ((ig7 7437).toInt ≤ (ig7 7429).toInt) ∧ (((ig7 7439).toInt - (ig7 7437).toInt) ≤ ((ig5 7439).toInt - (ig5 7437).toInt)) ∧ ((ig5 7439).toInt ≤ (ig7 7439).toInt) ∧ (((ig5 7437).toInt + 1) ≤ (ig7 7437).toInt) := hg7
            have hR9 := kRun_sub (kRun_cast O4_0 (kg5.fa 127 rfl) (congrArg Int.toNat (oz719 efig5_7439))) og7
            refine ko_steps mi_in156 3 _ (30, [(0, .ref 116)], [.int 7, .ref 116], (0, 0), ks ig7 ag7 qg7 rg7) (by rfl) ?_
            refine ko_callI mi_in156 (pc := 30) (ls := [(0, .ref 116)]) (st := [.int 7, .ref 116]) (h := ks ig7 ag7 qg7 rg7) (i := (.invokevirtual 177, 3, 149, 0, 9, 0, 405)) (by rfl) (by rfl) (cy := mi_c149) rfl rfl (kc149_116 hGg7.I hGg7.R 7 (oz882 efig5_7439 fig7_7437.2 fig7_7439.1 hp1 p4_3 z6.1 z8.2.2.2.1)) (kj_d3 (by decide)) ?_
            intro vg10 ig10 ag10 qg10 rg10 kg10 hg10
            have hGg10 := kG_call hGg7 kg10 (by decide +kernel)
            rcases hg10 with ⟨eg10, hg10⟩ | ⟨eg10, hg10⟩
            ·
              subst eg10
              obtain ⟨hg10, og10⟩ := hg10
              have fig10_7439 : ((0 : Int) ≤ (ig10 7439).toInt) ∧ ((ig10 7439).toInt ≤ 200) := hGg10.I.1 7439
              have z11 : (ig10 7439).toInt = ((ig7 7439).toInt + 1) := hg10
              have hR12 := kRun_code (x := (ig7 7439)) (d := (ig10 7439).toInt.toNat) (kRun_cast hR9 rfl (congrArg Int.toNat oz34)) rfl (kj_len (n := 200) (c := 200) (hGg7.I.2.1 127) rfl (oz750 fig10_7439.2 z11) (by decide)) og10 (kEff_bin (oz883 kn7) (oz884 kn7) (by decide)) (kj_tn (oz751 z11) (oz3 fig7_7439.1))
              refine ko_steps mi_in156 2 _ (9, [(0, .ref 116)], [], (0, 0), ks ig10 ag10 qg10 rg10) (by rfl) ?_
              have efig10_7438 : (ig10 7438).toInt = (ig7 7438).toInt := kg10.ti 7438 rfl
              have fig10_7437 : ((0 : Int) ≤ (ig10 7437).toInt) ∧ ((ig10 7437).toInt ≤ 120) := hGg10.I.1 7437
              have efig10_7437 : (ig10 7437).toInt = (ig7 7437).toInt := kg10.ti 7437 rfl
              have fig10_7429 : ((0 : Int) ≤ (ig10 7429).toInt) ∧ ((ig10 7429).toInt ≤ 120) := hGg10.I.1 7429
              have efig10_7429 : (ig10 7429).toInt = (ig7 7429).toInt := kg10.ti 7429 rfl
              exact ih4 _ _ _ _ hGg10 (oz894 efig10_7438 efig5_7438 p4_0 z8.1) (oz895 efig10_7437 p4_5 z6.1 z8.2.2.2.2.2) (oz819 efig10_7429 efig10_7437 z8.2.2.1) (oz896 efig10_7437 efig5_7439 p4_3 z11 z6.1 z8.2.2.2.1) (oz897 efig5_7439 p4_4 z11 z8.2.2.2.2.1) (oz898 efig10_7437 p4_5 z6.1 z8.2.2.2.2.2) (kRun_cast hR12 rfl (congrArg Int.toNat oz34)) (kj_meas (oz890 efig10_7429 efig10_7437 efig5_7429 efig7_7429 z6.1 z8.2.2.2.2.2) (oz891 efig5_7429 z6.1 z6.2) hm4)
            ·
              subst eg10
              have z13 : (2 : Int) ≤ 1 := hg10
              exact (oz755 z13).elim
          ·
            subst eg7
            have fig7_7437 : ((0 : Int) ≤ (ig7 7437).toInt) ∧ ((ig7 7437).toInt ≤ 120) := hGg7.I.1 7437
            have fig7_7429 : ((0 : Int) ≤ (ig7 7429).toInt) ∧ ((ig7 7429).toInt ≤ 120) := hGg7.I.1 7429
            have efig7_7429 : (ig7 7429).toInt = (ig5 7429).toInt := kg7.ti 7429 rfl
            have fig7_7439 : ((0 : Int) ≤ (ig7 7439).toInt) ∧ ((ig7 7439).toInt ≤ 200) := hGg7.I.1 7439
            have z14 : ((ig7 7438).toInt = (ig5 7438).toInt) ∧ ((ig5 7437).toInt ≤ (ig7 7437).toInt) ∧ ((ig7 7437).toInt ≤ (ig7 7429).toInt) ∧ (((ig7 7439).toInt - (ig7 7437).toInt) ≤ ((ig5 7439).toInt - (ig5 7437).toInt)) ∧ ((ig5 7439).toInt ≤ (ig7 7439).toInt) := hg7
            refine ko_steps mi_in156 1 _ (25, [(0, .ref 116)], [], (0, 0), ks ig7 ag7 qg7 rg7) (by rfl) ?_
            have hG15 := kG_call hGg1 hGg7 (by decide +kernel)
            refine ko_steps mi_in156 1 _ (26, [(0, .ref 116)], [.int 0], (0, 0), ks ig7 ag7 qg7 rg7) (by rfl) ?_
            exact ko_ret mi_in156 (by rfl) (hP 0 _ _ _ _ hG15 (Or.inr ⟨rfl, (oz899 efig5_7438 efig5_7439 p4_0 p4_3 p4_4 p4_5 z14.1 z14.2.1 z14.2.2.1 z14.2.2.2.1 z14.2.2.2.2 z6.1)⟩))
        ·
          subst eg5
          have fig5_7437 : ((0 : Int) ≤ (ig5 7437).toInt) ∧ ((ig5 7437).toInt ≤ 120) := hGg5.I.1 7437
          have z16 : (ig5 7437).toInt = (i4 7437).toInt := hg5
          refine ko_steps mi_in156 1 _ (37, [(0, .ref 116)], [], (0, 0), ks ig5 ag5 qg5 rg5) (by rfl) ?_
          have hG17 := kG_call hGg1 hGg5 (by decide +kernel)
          refine ko_steps mi_in156 1 _ (38, [(0, .ref 116)], [.int 1], (0, 0), ks ig5 ag5 qg5 rg5) (by rfl) ?_
          have efig5_7438 : (ig5 7438).toInt = (i4 7438).toInt := kg5.ti 7438 rfl
          have fig5_7429 : ((0 : Int) ≤ (ig5 7429).toInt) ∧ ((ig5 7429).toInt ≤ 120) := hG17.I.1 7429
          have efig5_7429 : (ig5 7429).toInt = (i4 7429).toInt := kg5.ti 7429 rfl
          have fig5_7439 : ((0 : Int) ≤ (ig5 7439).toInt) ∧ ((ig5 7439).toInt ≤ 200) := hG17.I.1 7439
          have efig5_7439 : (ig5 7439).toInt = (i4 7439).toInt := kg5.ti 7439 rfl
          exact ko_ret mi_in156 (by rfl) (hP 1 _ _ _ _ hG17 (Or.inl ⟨rfl, ⟨(oz900 efig5_7429 efig5_7438 efig5_7439 p4_0 p4_2 p4_3 p4_4 p4_5 z16), (kRun_cast O4_0 (kg5.fa 127 rfl) (congrArg Int.toNat (oz719 efig5_7439)))⟩⟩))
    exact lp4 _ _ _ _ _ (kG_self _ hGg1.I hGg1.R) (oz719 z2.1) (oz839 z2.2.2.2.2.2) (oz173 z2.2.2.1) (oz840 z2.2.2.2.1) (oz173 z2.2.2.2.2.1) (oz841 z2.2.2.2.2.2) (kRun_cast hR3 rfl (congrArg Int.toNat oz34)) (Nat.lt_succ_self _)
  ·
    subst eg1
    have fig1_7437 : ((0 : Int) ≤ (ig1 7437).toInt) ∧ ((ig1 7437).toInt ≤ 120) := hGg1.I.1 7437
    have fig1_7429 : ((0 : Int) ≤ (ig1 7429).toInt) ∧ ((ig1 7429).toInt ≤ 120) := hGg1.I.1 7429
    have efig1_7429 : (ig1 7429).toInt = (i 7429).toInt := kg1.ti 7429 rfl
    have fig1_7439 : ((0 : Int) ≤ (ig1 7439).toInt) ∧ ((ig1 7439).toInt ≤ 200) := hGg1.I.1 7439
    have z18 : ((ig1 7438).toInt = (i 7438).toInt) ∧ ((i 7437).toInt ≤ (ig1 7437).toInt) ∧ ((ig1 7437).toInt ≤ (ig1 7429).toInt) ∧ (((ig1 7439).toInt - (ig1 7437).toInt) ≤ ((i 7439).toInt - (i 7437).toInt)) ∧ ((i 7439).toInt ≤ (ig1 7439).toInt) := hg1
    refine ko_steps mi_in156 2 _ (8, [(0, .ref 116)], [.int 0], (0, 0), ks ig1 ag1 qg1 rg1) (by rfl) ?_
    exact ko_ret mi_in156 (by rfl) (hP 0 _ _ _ _ hGg1 (Or.inr ⟨rfl, (oz842 z18.1 z18.2.1 z18.2.2.1 z18.2.2.2.1 z18.2.2.2.2)⟩))
set_option maxRecDepth 100000 in
theorem kLsR_157 (n : Nat) (h152 : kLR_152 n) (h153 : kLR_153 n) (h154 : kLR_154 n) (h155 : kLR_155 n) (h156 : kLR_156 n) : kLR_157 n := by
  intro i a q r hI hr hp0 hp1 hp2
  have hG := kG_self wR hI hr
  refine km_ofI (q := (mi_h157, mi_c157)) rfl (by decide) (Nat.le_of_ble_eq_true rfl) ?_
  intro P hP
  have fi_7439 : ((0 : Int) ≤ (i 7439).toInt) ∧ ((i 7439).toInt ≤ 200) := hG.I.1 7439
  have fi_7437 : ((0 : Int) ≤ (i 7437).toInt) ∧ ((i 7437).toInt ≤ 120) := hG.I.1 7437
  have fi_7429 : ((0 : Int) ≤ (i 7429).toInt) ∧ ((i 7429).toInt ≤ 120) := hG.I.1 7429
  have hn0 : (0 : Int) ≤ (n : Int) := Int.natCast_nonneg n
  have hR0 := kRun_start (a 127) ((i 7439).toInt.toNat)
  refine ko_steps mi_in157 1 _ (1, [(0, .ref 116)], [.ref 116], (0, 0), ks i a q r) (by rfl) ?_
  refine ko_callI mi_in157 (pc := 1) (ls := [(0, .ref 116)]) (st := [.ref 116]) (h := ks i a q r) (i := (.invokevirtual 205, 3, 156, 0, 9, 0, 398)) (by rfl) (by rfl) (cy := mi_c156) rfl rfl (h156 _ _ _ _ hG.I hG.R (oz808 hp0) (oz173 hp1) (oz173 hp2)) (kj_d1 (by decide)) ?_
  intro vg1 ig1 ag1 qg1 rg1 kg1 hg1
  have hGg1 := kG_call hG kg1 (by decide +kernel)
  rcases hg1 with ⟨eg1, hg1⟩ | ⟨eg1, hg1⟩
  ·
    subst eg1
    obtain ⟨hg1, og1⟩ := hg1
    have fig1_7437 : ((0 : Int) ≤ (ig1 7437).toInt) ∧ ((ig1 7437).toInt ≤ 120) := hGg1.I.1 7437
    have fig1_7429 : ((0 : Int) ≤ (ig1 7429).toInt) ∧ ((ig1 7429).toInt ≤ 120) := hGg1.I.1 7429
    have efig1_7429 : (ig1 7429).toInt = (i 7429).toInt := kg1.ti 7429 rfl
    have fig1_7439 : ((0 : Int) ≤ (ig1 7439).toInt) ∧ ((ig1 7439).toInt ≤ 200) := hGg1.I.1 7439
    have z2 : ((ig1 7438).toInt = (i 7438).toInt) ∧ ((i 7437).toInt ≤ (ig1 7437).toInt) ∧ ((ig1 7437).toInt ≤ (ig1 7429).toInt) ∧ (((ig1 7439).toInt - (ig1 7437).toInt) ≤ ((i 7439).toInt - (i 7437).toInt)) ∧ ((i 7439).toInt ≤ (ig1 7439).toInt) ∧ (((i 7437).toInt + 1) ≤ (ig1 7437).toInt) := hg1
    have hR3 := kRun_sub (kRun_cast hR0 rfl (congrArg Int.toNat oz34)) og1
    refine ko_steps mi_in157 1 _ (9, [(0, .ref 116)], [], (0, 0), ks ig1 ag1 qg1 rg1) (by rfl) ?_
    have lp4 : ∀ (n : Nat) (i4 : Nat → Int32) (a4 : Nat → List Int32) (q4 : Nat → List Int64) (r4 : Nat → Nat), kG w157_116_L9 ig1 ag1 qg1 rg1 i4 a4 q4 r4 → (i4 7438).toInt = (i 7438).toInt → (i 7437).toInt ≤ (i4 7437).toInt → (i4 7437).toInt ≤ (i4 7429).toInt → ((i4 7439).toInt - (i4 7437).toInt) ≤ ((i 7439).toInt - (i 7437).toInt) → (i 7439).toInt ≤ (i4 7439).toInt → ((i 7437).toInt + 1) ≤ (i4 7437).toInt → kRun (a 127) (a4 127) (i 7439).toInt.toNat (i4 7439).toInt.toNat 1 → (((i4 7429).toInt - (i4 7437).toInt)).toNat < n → ko (6 * n + 15) (mi_h157, mi_c157) P (9, [(0, .ref 116)], [], (0, 0), ks i4 a4 q4 r4) := by
      intro n
      induction n with
      | zero =>
        intro _ _ _ _ _ _ _ _ _ _ _ _ hm
        exact absurd hm (Nat.not_lt_zero _)
      | succ n ih4 =>
        intro i4 a4 q4 r4 hL4 p4_0 p4_1 p4_2 p4_3 p4_4 p4_5 O4_0 hm4
        have fi4_7437 : ((0 : Int) ≤ (i4 7437).toInt) ∧ ((i4 7437).toInt ≤ 120) := hL4.I.1 7437
        have fi4_7429 : ((0 : Int) ≤ (i4 7429).toInt) ∧ ((i4 7429).toInt ≤ 120) := hL4.I.1 7429
        have efi4_7429 : (i4 7429).toInt = (ig1 7429).toInt := hL4.ti 7429 rfl
        have fi4_7439 : ((0 : Int) ≤ (i4 7439).toInt) ∧ ((i4 7439).toInt ≤ 200) := hL4.I.1 7439
        refine ko_steps mi_in157 2 _ (12, [(0, .ref 116)], [.int 124, .ref 116], (0, 0), ks i4 a4 q4 r4) (by rfl) ?_
        refine ko_callI mi_in157 (pc := 12) (ls := [(0, .ref 116)]) (st := [.int 124, .ref 116]) (h := ks i4 a4 q4 r4) (i := (.invokevirtual 187, 3, 148, 0, 9, 0, 407)) (by rfl) (by rfl) (cy := mi_c148) rfl rfl (kc148_116 hL4.I hL4.R 124 (oz901 kn124)) (kj_d3 (by decide)) ?_
        intro vg5 ig5 ag5 qg5 rg5 kg5 hg5
        have hGg5 := kG_call hL4 kg5 (by decide +kernel)
        rcases hg5 with ⟨eg5, hg5⟩ | ⟨eg5, hg5⟩
        ·
          subst eg5
          have fig5_7437 : ((0 : Int) ≤ (ig5 7437).toInt) ∧ ((ig5 7437).toInt ≤ 120) := hGg5.I.1 7437
          have fig5_7429 : ((0 : Int) ≤ (ig5 7429).toInt) ∧ ((ig5 7429).toInt ≤ 120) := hGg5.I.1 7429
          have efig5_7429 : (ig5 7429).toInt = (i4 7429).toInt := kg5.ti 7429 rfl
          have z6 : ((ig5 7437).toInt = ((i4 7437).toInt + 1)) ∧ ((ig5 7437).toInt ≤ (ig5 7429).toInt) := hg5
          refine ko_steps mi_in157 2 _ (19, [(0, .ref 116)], [.ref 116], (0, 0), ks ig5 ag5 qg5 rg5) (by rfl) ?_
          have efig5_7438 : (ig5 7438).toInt = (i4 7438).toInt := kg5.ti 7438 rfl
          have fig5_7439 : ((0 : Int) ≤ (ig5 7439).toInt) ∧ ((ig5 7439).toInt ≤ 200) := hGg5.I.1 7439
          have efig5_7439 : (ig5 7439).toInt = (i4 7439).toInt := kg5.ti 7439 rfl
          refine ko_callI mi_in157 (pc := 19) (ls := [(0, .ref 116)]) (st := [.ref 116]) (h := ks ig5 ag5 qg5 rg5) (i := (.invokevirtual 205, 3, 156, 0, 9, 0, 398)) (by rfl) (by rfl) (cy := mi_c156) rfl rfl (h156 _ _ _ _ hGg5.I hGg5.R (oz811 efig5_7438 hp0 p4_0) (oz881 efig5_7439 hp1 p4_3 z6.1) (oz173 z6.2)) (kj_d1 (by decide)) ?_
          intro vg7 ig7 ag7 qg7 rg7 kg7 hg7
          have hGg7 := kG_call hGg5 kg7 (by decide +kernel)
          rcases hg7 with ⟨eg7, hg7⟩ | ⟨eg7, hg7⟩
          ·
            subst eg7
            obtain ⟨hg7, og7⟩ := hg7
            have fig7_7437 : ((0 : Int) ≤ (ig7 7437).toInt) ∧ ((ig7 7437).toInt ≤ 120) := hGg7.I.1 7437
            have fig7_7429 : ((0 : Int) ≤ (ig7 7429).toInt) ∧ ((ig7 7429).toInt ≤ 120) := hGg7.I.1 7429
            have efig7_7429 : (ig7 7429).toInt = (ig5 7429).toInt := kg7.ti 7429 rfl
            have fig7_7439 : ((0 : Int) ≤ (ig7 7439).toInt) ∧ ((ig7 7439).toInt ≤ 200) := hGg7.I.1 7439
            have z8 : ((ig7 7438).toInt = (ig5 7438).toInt) ∧ ((ig5 7437).toInt ≤ (ig7 7437).toInt) ∧ ((ig7 7437).toInt ≤ (ig7 7429).toInt) ∧ (((ig7 7439).toInt - (ig7 7437).toInt) ≤ ((ig5 7439).toInt - (ig5 7437).toInt)) ∧ ((ig5 7439).toInt ≤ (ig7 7439).toInt) ∧ (((ig5 7437).toInt + 1) ≤ (ig7 7437).toInt) := hg7
            have hR9 := kRun_sub (kRun_cast O4_0 (kg5.fa 127 rfl) (congrArg Int.toNat (oz719 efig5_7439))) og7
            refine ko_steps mi_in157 3 _ (30, [(0, .ref 116)], [.int 6, .ref 116], (0, 0), ks ig7 ag7 qg7 rg7) (by rfl) ?_
            refine ko_callI mi_in157 (pc := 30) (ls := [(0, .ref 116)]) (st := [.int 6, .ref 116]) (h := ks ig7 ag7 qg7 rg7) (i := (.invokevirtual 177, 3, 149, 0, 9, 0, 405)) (by rfl) (by rfl) (cy := mi_c149) rfl rfl (kc149_116 hGg7.I hGg7.R 6 (oz882 efig5_7439 fig7_7437.2 fig7_7439.1 hp1 p4_3 z6.1 z8.2.2.2.1)) (kj_d3 (by decide)) ?_
            intro vg10 ig10 ag10 qg10 rg10 kg10 hg10
            have hGg10 := kG_call hGg7 kg10 (by decide +kernel)
            rcases hg10 with ⟨eg10, hg10⟩ | ⟨eg10, hg10⟩
            ·
              subst eg10
              obtain ⟨hg10, og10⟩ := hg10
              have fig10_7439 : ((0 : Int) ≤ (ig10 7439).toInt) ∧ ((ig10 7439).toInt ≤ 200) := hGg10.I.1 7439
              have z11 : (ig10 7439).toInt = ((ig7 7439).toInt + 1) := hg10
              have hR12 := kRun_code (x := (ig7 7439)) (d := (ig10 7439).toInt.toNat) (kRun_cast hR9 rfl (congrArg Int.toNat oz34)) rfl (kj_len (n := 200) (c := 200) (hGg7.I.2.1 127) rfl (oz750 fig10_7439.2 z11) (by decide)) og10 (kEff_bin (oz902 kn6) (oz903 kn6) (by decide)) (kj_tn (oz751 z11) (oz3 fig7_7439.1))
              refine ko_steps mi_in157 2 _ (9, [(0, .ref 116)], [], (0, 0), ks ig10 ag10 qg10 rg10) (by rfl) ?_
              have efig10_7438 : (ig10 7438).toInt = (ig7 7438).toInt := kg10.ti 7438 rfl
              have fig10_7437 : ((0 : Int) ≤ (ig10 7437).toInt) ∧ ((ig10 7437).toInt ≤ 120) := hGg10.I.1 7437
              have efig10_7437 : (ig10 7437).toInt = (ig7 7437).toInt := kg10.ti 7437 rfl
              have fig10_7429 : ((0 : Int) ≤ (ig10 7429).toInt) ∧ ((ig10 7429).toInt ≤ 120) := hGg10.I.1 7429
              have efig10_7429 : (ig10 7429).toInt = (ig7 7429).toInt := kg10.ti 7429 rfl
              exact ih4 _ _ _ _ hGg10 (oz894 efig10_7438 efig5_7438 p4_0 z8.1) (oz895 efig10_7437 p4_5 z6.1 z8.2.2.2.2.2) (oz819 efig10_7429 efig10_7437 z8.2.2.1) (oz896 efig10_7437 efig5_7439 p4_3 z11 z6.1 z8.2.2.2.1) (oz897 efig5_7439 p4_4 z11 z8.2.2.2.2.1) (oz898 efig10_7437 p4_5 z6.1 z8.2.2.2.2.2) (kRun_cast hR12 rfl (congrArg Int.toNat oz34)) (kj_meas (oz890 efig10_7429 efig10_7437 efig5_7429 efig7_7429 z6.1 z8.2.2.2.2.2) (oz891 efig5_7429 z6.1 z6.2) hm4)
            ·
              subst eg10
              have z13 : (2 : Int) ≤ 1 := hg10
              exact (oz755 z13).elim
          ·
            subst eg7
            have fig7_7437 : ((0 : Int) ≤ (ig7 7437).toInt) ∧ ((ig7 7437).toInt ≤ 120) := hGg7.I.1 7437
            have fig7_7429 : ((0 : Int) ≤ (ig7 7429).toInt) ∧ ((ig7 7429).toInt ≤ 120) := hGg7.I.1 7429
            have efig7_7429 : (ig7 7429).toInt = (ig5 7429).toInt := kg7.ti 7429 rfl
            have fig7_7439 : ((0 : Int) ≤ (ig7 7439).toInt) ∧ ((ig7 7439).toInt ≤ 200) := hGg7.I.1 7439
            have z14 : ((ig7 7438).toInt = (ig5 7438).toInt) ∧ ((ig5 7437).toInt ≤ (ig7 7437).toInt) ∧ ((ig7 7437).toInt ≤ (ig7 7429).toInt) ∧ (((ig7 7439).toInt - (ig7 7437).toInt) ≤ ((ig5 7439).toInt - (ig5 7437).toInt)) ∧ ((ig5 7439).toInt ≤ (ig7 7439).toInt) := hg7
            refine ko_steps mi_in157 1 _ (25, [(0, .ref 116)], [], (0, 0), ks ig7 ag7 qg7 rg7) (by rfl) ?_
            have hG15 := kG_call hGg1 hGg7 (by decide +kernel)
            refine ko_steps mi_in157 1 _ (26, [(0, .ref 116)], [.int 0], (0, 0), ks ig7 ag7 qg7 rg7) (by rfl) ?_
            exact ko_ret mi_in157 (by rfl) (hP 0 _ _ _ _ hG15 (Or.inr ⟨rfl, (oz899 efig5_7438 efig5_7439 p4_0 p4_3 p4_4 p4_5 z14.1 z14.2.1 z14.2.2.1 z14.2.2.2.1 z14.2.2.2.2 z6.1)⟩))
        ·
          subst eg5
          have fig5_7437 : ((0 : Int) ≤ (ig5 7437).toInt) ∧ ((ig5 7437).toInt ≤ 120) := hGg5.I.1 7437
          have z16 : (ig5 7437).toInt = (i4 7437).toInt := hg5
          refine ko_steps mi_in157 1 _ (37, [(0, .ref 116)], [], (0, 0), ks ig5 ag5 qg5 rg5) (by rfl) ?_
          have hG17 := kG_call hGg1 hGg5 (by decide +kernel)
          refine ko_steps mi_in157 1 _ (38, [(0, .ref 116)], [.int 1], (0, 0), ks ig5 ag5 qg5 rg5) (by rfl) ?_
          have efig5_7438 : (ig5 7438).toInt = (i4 7438).toInt := kg5.ti 7438 rfl
          have fig5_7429 : ((0 : Int) ≤ (ig5 7429).toInt) ∧ ((ig5 7429).toInt ≤ 120) := hG17.I.1 7429
          have efig5_7429 : (ig5 7429).toInt = (i4 7429).toInt := kg5.ti 7429 rfl
          have fig5_7439 : ((0 : Int) ≤ (ig5 7439).toInt) ∧ ((ig5 7439).toInt ≤ 200) := hG17.I.1 7439
          have efig5_7439 : (ig5 7439).toInt = (i4 7439).toInt := kg5.ti 7439 rfl
          exact ko_ret mi_in157 (by rfl) (hP 1 _ _ _ _ hG17 (Or.inl ⟨rfl, ⟨(oz900 efig5_7429 efig5_7438 efig5_7439 p4_0 p4_2 p4_3 p4_4 p4_5 z16), (kRun_cast O4_0 (kg5.fa 127 rfl) (congrArg Int.toNat (oz719 efig5_7439)))⟩⟩))
    exact lp4 _ _ _ _ _ (kG_self _ hGg1.I hGg1.R) (oz719 z2.1) (oz839 z2.2.2.2.2.2) (oz173 z2.2.2.1) (oz840 z2.2.2.2.1) (oz173 z2.2.2.2.2.1) (oz841 z2.2.2.2.2.2) (kRun_cast hR3 rfl (congrArg Int.toNat oz34)) (Nat.lt_succ_self _)
  ·
    subst eg1
    have fig1_7437 : ((0 : Int) ≤ (ig1 7437).toInt) ∧ ((ig1 7437).toInt ≤ 120) := hGg1.I.1 7437
    have fig1_7429 : ((0 : Int) ≤ (ig1 7429).toInt) ∧ ((ig1 7429).toInt ≤ 120) := hGg1.I.1 7429
    have efig1_7429 : (ig1 7429).toInt = (i 7429).toInt := kg1.ti 7429 rfl
    have fig1_7439 : ((0 : Int) ≤ (ig1 7439).toInt) ∧ ((ig1 7439).toInt ≤ 200) := hGg1.I.1 7439
    have z18 : ((ig1 7438).toInt = (i 7438).toInt) ∧ ((i 7437).toInt ≤ (ig1 7437).toInt) ∧ ((ig1 7437).toInt ≤ (ig1 7429).toInt) ∧ (((ig1 7439).toInt - (ig1 7437).toInt) ≤ ((i 7439).toInt - (i 7437).toInt)) ∧ ((i 7439).toInt ≤ (ig1 7439).toInt) := hg1
    refine ko_steps mi_in157 2 _ (8, [(0, .ref 116)], [.int 0], (0, 0), ks ig1 ag1 qg1 rg1) (by rfl) ?_
    exact ko_ret mi_in157 (by rfl) (hP 0 _ _ _ _ hGg1 (Or.inr ⟨rfl, (oz842 z18.1 z18.2.1 z18.2.2.1 z18.2.2.2.1 z18.2.2.2.2)⟩))
theorem kLallR : ∀ n : Nat, kLR_157 n ∧ kLR_152 n
  | 0 => by
    have ih : ∀ m, 0 = m + 1 → kLR_157 m ∧ kLR_152 m := fun m h => by omega
    have h152 := kLsR_152 0  ih
    have h153 := kLsR_153 0 h152
    have h154 := kLsR_154 0 h152 h153
    have h155 := kLsR_155 0 h152 h153 h154
    have h156 := kLsR_156 0 h152 h153 h154 h155
    have h157 := kLsR_157 0 h152 h153 h154 h155 h156
    exact ⟨h157, h152⟩
  | n + 1 => by
    have ih : ∀ m, n + 1 = m + 1 → kLR_157 m ∧ kLR_152 m := fun m h => by
      have e : n = m := by omega
      subst e
      exact kLallR n
    have h152 := kLsR_152 (n + 1)  ih
    have h153 := kLsR_153 (n + 1) h152
    have h154 := kLsR_154 (n + 1) h152 h153
    have h155 := kLsR_155 (n + 1) h152 h153 h154
    have h156 := kLsR_156 (n + 1) h152 h153 h154 h155
    have h157 := kLsR_157 (n + 1) h152 h153 h154 h155 h156
    exact ⟨h157, h152⟩
set_option maxRecDepth 100000 in
theorem kc45_98 {i : Nat → Int32} {a : Nat → List Int32} {q : Nat → List Int64} {r : Nat → Nat} (hI : kI i a q) (hr : kr r)  : km 1 45 [.ref 98] (ks i a q r) (kPI (ks i a q r) (fun v => (v.toInt = (-1)) ∨ ((i 6274).toInt < (i 6273).toInt))) := by
  have hG := kG_self kW0 hI hr
  refine km_ofPI (q := (mi_h45, mi_c45)) rfl (by decide) (Nat.le_of_ble_eq_true rfl) ?_
  intro P hP
  have fi_6275 : ((0 : Int) ≤ (i 6275).toInt) ∧ ((i 6275).toInt ≤ 1) := hG.I.1 6275
  refine ko_steps mi_in45 2 _ (4, [(0, .ref 98)], [.int (i 6275)], (0, 0), ks i a q r) (by rfl) ?_
  refine ko_if mi_in45 ((i 6275) != 0) 37 7 ([(0, .ref 98)], [], (0, 0), ks i a q r) (by rfl) (fun c => ?_) (fun c => ?_)
  ·
    have c1 : (i 6275).toInt ≠ (0 : Int32).toInt := kd_ne c; clear c
    refine ko_steps mi_in45 1 _ (38, [(0, .ref 98)], [.int (-1)], (0, 0), ks i a q r) (by rfl) ?_
    have fi_6274 : ((0 : Int) ≤ (i 6274).toInt) ∧ ((i 6274).toInt ≤ 120) := hG.I.1 6274
    have fi_6273 : ((0 : Int) ≤ (i 6273).toInt) ∧ ((i 6273).toInt ≤ 120) := hG.I.1 6273
    exact ko_ret mi_in45 (by rfl) (hP (-1) (oz904 knm1))
  ·
    have c2 : (i 6275).toInt = (0 : Int32).toInt := kd_neF c; clear c
    have fi_6274 : ((0 : Int) ≤ (i 6274).toInt) ∧ ((i 6274).toInt ≤ 120) := hG.I.1 6274
    refine ko_steps mi_in45 2 _ (11, [(0, .ref 98)], [.int (i 6274)], (0, 0), ks i a q r) (by rfl) ?_
    refine ko_if mi_in45 (decide ((i 6274) < 0)) 37 14 ([(0, .ref 98)], [], (0, 0), ks i a q r) (by rfl) (fun c => ?_) (fun c => ?_)
    ·
      have c3 : (i 6274).toInt < (0 : Int32).toInt := kd_lt c; clear c
      exact (oz905 c3 fi_6274.1 kn0).elim
    ·
      have c4 : (0 : Int32).toInt ≤ (i 6274).toInt := kd_ltF c; clear c
      have fi_6273 : ((0 : Int) ≤ (i 6273).toInt) ∧ ((i 6273).toInt ≤ 120) := hG.I.1 6273
      refine ko_steps mi_in45 4 _ (22, [(0, .ref 98)], [.int (i 6273), .int (i 6274)], (0, 0), ks i a q r) (by rfl) ?_
      refine ko_if mi_in45 (decide ((i 6273) ≤ (i 6274))) 37 25 ([(0, .ref 98)], [], (0, 0), ks i a q r) (by rfl) (fun c => ?_) (fun c => ?_)
      ·
        have c5 : (i 6273).toInt ≤ (i 6274).toInt := kd_le c; clear c
        refine ko_steps mi_in45 1 _ (38, [(0, .ref 98)], [.int (-1)], (0, 0), ks i a q r) (by rfl) ?_
        exact ko_ret mi_in45 (by rfl) (hP (-1) (oz904 knm1))
      ·
        have c6 : (i 6274).toInt < (i 6273).toInt := kd_leF c; clear c
        refine ko_steps mi_in45 4 _ (33, [(0, .ref 98)], [.int (i 6274), .ref 99], (0, 0), ks i a q r) (by rfl) ?_
        refine ko_iald3 mi_in45 (n := 120) (c := 120) (ax := (0, 0, 0, 0, 0)) (by rfl) (by rfl) (ksG99 _ _ _ _) (hG.I.2.1 99) rfl (oz3 fi_6274.1) (oz702 c6 fi_6273.2) ?_
        refine ko_steps mi_in45 1 _ (38, [(0, .ref 98)], [.int ((a 99).getD (i 6274).toNatClampNeg 0)], (0, 0), ks i a q r) (by rfl) ?_
        exact ko_ret mi_in45 (by rfl) (hP ((a 99).getD (i 6274).toNatClampNeg 0) (oz906 c6))
set_option maxRecDepth 100000 in
theorem kc56 {i : Nat → Int32} {a : Nat → List Int32} {q : Nat → List Int64} {r : Nat → Nat} (hI : kI i a q) (hr : kr r) (x1 : Int32) : km 1 56 [.int x1] (ks i a q r) (kPI (ks i a q r) (fun v => (v = 1 ∧ (((48 : Int) ≤ x1.toInt) ∧ (x1.toInt ≤ 57))) ∨ (v = 0 ∧ (¬ (((48 : Int) ≤ x1.toInt) ∧ (x1.toInt ≤ 57)))))) := by
  have hG := kG_self kW0 hI hr
  refine km_ofPI (q := (mi_h56, mi_c56)) rfl (by decide) (Nat.le_of_ble_eq_true rfl) ?_
  intro P hP
  refine ko_steps mi_in56 2 _ (3, [(0, .int x1)], [.int 48, .int x1], (0, 0), ks i a q r) (by rfl) ?_
  refine ko_if mi_in56 (decide (x1 < 48)) 16 6 ([(0, .int x1)], [], (0, 0), ks i a q r) (by rfl) (fun c => ?_) (fun c => ?_)
  ·
    have c1 : x1.toInt < (48 : Int32).toInt := kd_lt c; clear c
    refine ko_steps mi_in56 1 _ (17, [(0, .int x1)], [.int 0], (0, 0), ks i a q r) (by rfl) ?_
    exact ko_ret mi_in56 (by rfl) (hP 0 (Or.inr ⟨rfl, (oz907 c1 kn48)⟩))
  ·
    have c2 : (48 : Int32).toInt ≤ x1.toInt := kd_ltF c; clear c
    refine ko_steps mi_in56 2 _ (9, [(0, .int x1)], [.int 57, .int x1], (0, 0), ks i a q r) (by rfl) ?_
    refine ko_if mi_in56 (decide (57 < x1)) 16 12 ([(0, .int x1)], [], (0, 0), ks i a q r) (by rfl) (fun c => ?_) (fun c => ?_)
    ·
      have c3 : (57 : Int32).toInt < x1.toInt := kd_lt c; clear c
      refine ko_steps mi_in56 1 _ (17, [(0, .int x1)], [.int 0], (0, 0), ks i a q r) (by rfl) ?_
      exact ko_ret mi_in56 (by rfl) (hP 0 (Or.inr ⟨rfl, (oz908 c3 kn57)⟩))
    ·
      have c4 : x1.toInt ≤ (57 : Int32).toInt := kd_ltF c; clear c
      refine ko_steps mi_in56 2 _ (17, [(0, .int x1)], [.int 1], (0, 0), ks i a q r) (by rfl) ?_
      exact ko_ret mi_in56 (by rfl) (hP 1 (Or.inl ⟨rfl, (oz909 c2 c4 kn48 kn57)⟩))
def w17_100 : kW := ([6403], [101, 102], [], [])
set_option maxRecDepth 100000 in
theorem kc17_100 {i : Nat → Int32} {a : Nat → List Int32} {q : Nat → List Int64} {r : Nat → Nat} (hI : kI i a q) (hr : kr r) (x1 : Int32) (x2 : Int32) : km 1 17 [.ref 100, .int x1, .int x2] (ks i a q r) (kVI w17_100 i a q r (fun v i1 a1 q1 r1 => True)) := by
  have hG := kG_self w17_100 hI hr
  refine km_ofI (q := (mi_h17, mi_c17)) rfl (by decide) (Nat.le_of_ble_eq_true rfl) ?_
  intro P hP
  have fi_6403 : ((0 : Int) ≤ (i 6403).toInt) ∧ ((i 6403).toInt ≤ 121) := hG.I.1 6403
  refine ko_steps mi_in17 3 _ (6, [(0, .ref 100), (1, .int x1), (2, .int x2)], [.int 121, .int (i 6403)], (0, 0), ks i a q r) (by rfl) ?_
  refine ko_if mi_in17 (decide (121 ≤ (i 6403))) 39 9 ([(0, .ref 100), (1, .int x1), (2, .int x2)], [], (0, 0), ks i a q r) (by rfl) (fun c => ?_) (fun c => ?_)
  ·
    have c1 : (121 : Int32).toInt ≤ (i 6403).toInt := kd_le c; clear c
    have s2 : ((i 6403) - 1).toInt = (i 6403).toInt - (1 : Int32).toInt := kd_sub (oz910 c1 kn121 kn1) (oz911 fi_6403.2 kn1)
    refine ko_steps mi_in17 4 _ (45, [(0, .ref 100), (1, .int x1), (2, .int x2)], [.int ((i 6403) - 1)], (0, 0), ks i a q r) (by rfl) ?_
    exact ko_ret mi_in17 (by rfl) (hP ((i 6403) - 1) _ _ _ _ hG trivial)
  ·
    have c3 : (i 6403).toInt < (121 : Int32).toInt := kd_leF c; clear c
    refine ko_steps mi_in17 5 _ (18, [(0, .ref 100), (1, .int x1), (2, .int x2)], [.int x1, .int (i 6403), .ref 101], (0, 0), ks i a q r) (by rfl) ?_
    refine ko_iast3 mi_in17 (n := 121) (c := 121) (ax := (0, 0, 0, 0, 0)) (by rfl) (by rfl) (ksG101 _ _ _ _) (ksA101 _ _ _ _) (hG.I.2.1 101) rfl (oz3 fi_6403.1) (oz912 c3 kn121) ?_
    intro a4 ea4 fa4
    have hJ4 := kG_a3 hG 101 rfl ea4 fa4 (kd_bd _)
    refine ko_steps mi_in17 5 _ (28, [(0, .ref 100), (1, .int x1), (2, .int x2)], [.int x2, .int (i 6403), .ref 102], (0, 0), ks i a4 q r) (by rfl) ?_
    refine ko_iast3 mi_in17 (n := 121) (c := 121) (ax := (0, 0, 0, 0, 0)) (by rfl) (by rfl) (ksG102 _ _ _ _) (ksA102 _ _ _ _) (hJ4.I.2.1 102) rfl (oz3 fi_6403.1) (oz912 c3 kn121) ?_
    intro a5 ea5 fa5
    have hJ5 := kG_a3 hJ4 102 rfl ea5 fa5 (kd_bd _)
    have s6 : ((i 6403) + 1).toInt = (i 6403).toInt + (1 : Int32).toInt := kd_add (oz12 fi_6403.1 kn1) (oz913 fi_6403.2 kn1)
    have hJ7 := kG_i hJ5 6403 rfl (v := ((i 6403) + 1)) ⟨(oz14 fi_6403.1 s6 kn1), (oz914 c3 s6 kn121 kn1)⟩
    have s8 : (((i 6403) + 1) - 1).toInt = ((i 6403) + 1).toInt - (1 : Int32).toInt := kd_sub (oz915 fi_6403.1 s6 kn1) (oz916 fi_6403.2 s6 kn1)
    refine ko_steps mi_in17 10 _ (45, [(0, .ref 100), (1, .int x1), (2, .int x2)], [.int (((i 6403) + 1) - 1)], (0, 0), ks (ku i 6403 ((i 6403) + 1)) a5 q r) (by rfl) ?_
    exact ko_ret mi_in17 (by rfl) (hP (((i 6403) + 1) - 1) _ _ _ _ hJ7 trivial)
def w17_10 : kW := ([643], [11, 12], [], [])
set_option maxRecDepth 100000 in
theorem kc17_10 {i : Nat → Int32} {a : Nat → List Int32} {q : Nat → List Int64} {r : Nat → Nat} (hI : kI i a q) (hr : kr r) (x1 : Int32) (x2 : Int32) : km 1 17 [.ref 10, .int x1, .int x2] (ks i a q r) (kVI w17_10 i a q r (fun v i1 a1 q1 r1 => True)) := by
  have hG := kG_self w17_10 hI hr
  refine km_ofI (q := (mi_h17, mi_c17)) rfl (by decide) (Nat.le_of_ble_eq_true rfl) ?_
  intro P hP
  have fi_643 : ((0 : Int) ≤ (i 643).toInt) ∧ ((i 643).toInt ≤ 121) := hG.I.1 643
  refine ko_steps mi_in17 3 _ (6, [(0, .ref 10), (1, .int x1), (2, .int x2)], [.int 121, .int (i 643)], (0, 0), ks i a q r) (by rfl) ?_
  refine ko_if mi_in17 (decide (121 ≤ (i 643))) 39 9 ([(0, .ref 10), (1, .int x1), (2, .int x2)], [], (0, 0), ks i a q r) (by rfl) (fun c => ?_) (fun c => ?_)
  ·
    have c1 : (121 : Int32).toInt ≤ (i 643).toInt := kd_le c; clear c
    have s2 : ((i 643) - 1).toInt = (i 643).toInt - (1 : Int32).toInt := kd_sub (oz910 c1 kn121 kn1) (oz911 fi_643.2 kn1)
    refine ko_steps mi_in17 4 _ (45, [(0, .ref 10), (1, .int x1), (2, .int x2)], [.int ((i 643) - 1)], (0, 0), ks i a q r) (by rfl) ?_
    exact ko_ret mi_in17 (by rfl) (hP ((i 643) - 1) _ _ _ _ hG trivial)
  ·
    have c3 : (i 643).toInt < (121 : Int32).toInt := kd_leF c; clear c
    refine ko_steps mi_in17 5 _ (18, [(0, .ref 10), (1, .int x1), (2, .int x2)], [.int x1, .int (i 643), .ref 11], (0, 0), ks i a q r) (by rfl) ?_
    refine ko_iast3 mi_in17 (n := 121) (c := 121) (ax := (0, 0, 0, 0, 0)) (by rfl) (by rfl) (ksG11 _ _ _ _) (ksA11 _ _ _ _) (hG.I.2.1 11) rfl (oz3 fi_643.1) (oz912 c3 kn121) ?_
    intro a4 ea4 fa4
    have hJ4 := kG_a3 hG 11 rfl ea4 fa4 (kd_bd _)
    refine ko_steps mi_in17 5 _ (28, [(0, .ref 10), (1, .int x1), (2, .int x2)], [.int x2, .int (i 643), .ref 12], (0, 0), ks i a4 q r) (by rfl) ?_
    refine ko_iast3 mi_in17 (n := 121) (c := 121) (ax := (0, 0, 0, 0, 0)) (by rfl) (by rfl) (ksG12 _ _ _ _) (ksA12 _ _ _ _) (hJ4.I.2.1 12) rfl (oz3 fi_643.1) (oz912 c3 kn121) ?_
    intro a5 ea5 fa5
    have hJ5 := kG_a3 hJ4 12 rfl ea5 fa5 (kd_bd _)
    have s6 : ((i 643) + 1).toInt = (i 643).toInt + (1 : Int32).toInt := kd_add (oz12 fi_643.1 kn1) (oz913 fi_643.2 kn1)
    have hJ7 := kG_i hJ5 643 rfl (v := ((i 643) + 1)) ⟨(oz14 fi_643.1 s6 kn1), (oz914 c3 s6 kn121 kn1)⟩
    have s8 : (((i 643) + 1) - 1).toInt = ((i 643) + 1).toInt - (1 : Int32).toInt := kd_sub (oz915 fi_643.1 s6 kn1) (oz916 fi_643.2 s6 kn1)
    refine ko_steps mi_in17 10 _ (45, [(0, .ref 10), (1, .int x1), (2, .int x2)], [.int (((i 643) + 1) - 1)], (0, 0), ks (ku i 643 ((i 643) + 1)) a5 q r) (by rfl) ?_
    exact ko_ret mi_in17 (by rfl) (hP (((i 643) + 1) - 1) _ _ _ _ hJ7 trivial)
def w55_98 : kW := ([643, 6274, 6403], [11, 12, 101, 102], [], [])
def w55_98_L4 : kW := ([6274], [], [], [])
set_option maxRecDepth 100000 in
theorem kc55_98 {i : Nat → Int32} {a : Nat → List Int32} {q : Nat → List Int64} {r : Nat → Nat} (hI : kI i a q) (hr : kr r)  : km 3 55 [.ref 98] (ks i a q r) (kVN w55_98 i a q r (fun i1 a1 q1 r1 => True)) := by
  have hG := kG_self w55_98 hI hr
  refine km_ofN (q := (mi_h55, mi_c55)) rfl (by decide) (Nat.le_of_ble_eq_true rfl) ?_
  intro P hP
  refine ko_steps mi_in55 4 _ (4, [(2, .int 0), (1, .int 0), (0, .ref 98)], [], (0, 0), ks i a q r) (by rfl) ?_
  have lp1 : ∀ (n : Nat) (i1 : Nat → Int32) (a1 : Nat → List Int32) (q1 : Nat → List Int64) (r1 : Nat → Nat) (l2_1 : Int32) (l1_1 : Int32), kG w55_98_L4 i a q r i1 a1 q1 r1 → (0 : Int) ≤ l2_1.toInt → ((4 - l2_1.toInt)).toNat < n → ko 3 (mi_h55, mi_c55) P (4, [(2, .int l2_1), (1, .int l1_1), (0, .ref 98)], [], (0, 0), ks i1 a1 q1 r1) := by
    intro n
    induction n with
    | zero =>
      intro _ _ _ _ _ _ _ _ hm
      exact absurd hm (Nat.not_lt_zero _)
    | succ n ih1 =>
      intro i1 a1 q1 r1 l2_1 l1_1 hL1 p1_0 hm1
      refine ko_steps mi_in55 2 _ (6, [(2, .int l2_1), (1, .int l1_1), (0, .ref 98)], [.int 4, .int l2_1], (0, 0), ks i1 a1 q1 r1) (by rfl) ?_
      refine ko_if mi_in55 (decide (4 ≤ l2_1)) 48 9 ([(2, .int l2_1), (1, .int l1_1), (0, .ref 98)], [], (0, 0), ks i1 a1 q1 r1) (by rfl) (fun c => ?_) (fun c => ?_)
      ·
        have c2 : (4 : Int32).toInt ≤ l2_1.toInt := kd_le c; clear c
        have hG3 := kG_call hG hL1 (by decide +kernel)
        refine ko_steps mi_in55 2 _ (52, [(2, .int l2_1), (1, .int l1_1), (0, .ref 98)], [.ref (r1 2)], (0, 0), ks i1 a1 q1 r1) (by rfl) ?_
        rcases hG3.R.1 with ⟨eRr1_0, eRr1_2⟩ | ⟨eRr1_0, eRr1_2⟩
        ·
          have eRr1_0 : r1 0 = 10 := eRr1_0
          have eRr1_2 : r1 2 = 100 := eRr1_2
          refine ko_eq (x1 := (52, [(2, .int l2_1), (1, .int l1_1), (0, .ref 98)], [.ref 100], (0, 0), ks i1 a1 q1 r1)) (by rw [eRr1_2]) ?_
          refine ko_steps mi_in55 2 _ (54, [(2, .int l2_1), (1, .int l1_1), (0, .ref 98)], [.int l1_1, .int 0, .ref 100], (0, 0), ks i1 a1 q1 r1) (by rfl) ?_
          refine ko_callI mi_in55 (pc := 54) (ls := [(2, .int l2_1), (1, .int l1_1), (0, .ref 98)]) (st := [.int l1_1, .int 0, .ref 100]) (h := ks i1 a1 q1 r1) (i := (.invokevirtual 60, 3, 17, 0, 9, 0, 187)) (by rfl) (by rfl) (cy := mi_c17) rfl rfl (kc17_100 hG3.I hG3.R 0 l1_1) (by decide) ?_
          intro vg4 ig4 ag4 qg4 rg4 kg4 hg4
          have hGg4 := kG_call hG3 kg4 (by decide +kernel)
          have eRrg4_0 : rg4 0 = 10 := (kg4.fr 0 rfl).trans eRr1_0
          have eRrg4_2 : rg4 2 = 100 := (kg4.fr 2 rfl).trans eRr1_2
          refine ko_steps mi_in55 1 _ (58, [(2, .int l2_1), (1, .int l1_1), (0, .ref 98)], [], (0, 0), ks ig4 ag4 qg4 rg4) (by rfl) ?_
          exact ko_ret mi_in55 (by rfl) (hP  _ _ _ _ hGg4 trivial)
        ·
          have eRr1_0 : r1 0 = 100 := eRr1_0
          have eRr1_2 : r1 2 = 10 := eRr1_2
          refine ko_eq (x1 := (52, [(2, .int l2_1), (1, .int l1_1), (0, .ref 98)], [.ref 10], (0, 0), ks i1 a1 q1 r1)) (by rw [eRr1_2]) ?_
          refine ko_steps mi_in55 2 _ (54, [(2, .int l2_1), (1, .int l1_1), (0, .ref 98)], [.int l1_1, .int 0, .ref 10], (0, 0), ks i1 a1 q1 r1) (by rfl) ?_
          refine ko_callI mi_in55 (pc := 54) (ls := [(2, .int l2_1), (1, .int l1_1), (0, .ref 98)]) (st := [.int l1_1, .int 0, .ref 10]) (h := ks i1 a1 q1 r1) (i := (.invokevirtual 60, 3, 17, 0, 9, 0, 187)) (by rfl) (by rfl) (cy := mi_c17) rfl rfl (kc17_10 hG3.I hG3.R 0 l1_1) (by decide) ?_
          intro vg5 ig5 ag5 qg5 rg5 kg5 hg5
          have hGg5 := kG_call hG3 kg5 (by decide +kernel)
          have eRrg5_0 : rg5 0 = 100 := (kg5.fr 0 rfl).trans eRr1_0
          have eRrg5_2 : rg5 2 = 10 := (kg5.fr 2 rfl).trans eRr1_2
          refine ko_steps mi_in55 1 _ (58, [(2, .int l2_1), (1, .int l1_1), (0, .ref 98)], [], (0, 0), ks ig5 ag5 qg5 rg5) (by rfl) ?_
          exact ko_ret mi_in55 (by rfl) (hP  _ _ _ _ hGg5 trivial)
      ·
        have c6 : l2_1.toInt < (4 : Int32).toInt := kd_leF c; clear c
        refine ko_steps mi_in55 1 _ (10, [(2, .int l2_1), (1, .int l1_1), (0, .ref 98)], [.ref 98], (0, 0), ks i1 a1 q1 r1) (by rfl) ?_
        refine ko_callPI mi_in55 (pc := 10) (ls := [(2, .int l2_1), (1, .int l1_1), (0, .ref 98)]) (st := [.ref 98]) (h := ks i1 a1 q1 r1) (i := (.invokevirtual 46, 3, 45, 0, 9, 0, 184)) (by rfl) (by rfl) (cy := mi_c45) rfl rfl (kc45_98 hL1.I hL1.R ) (by decide) ?_
        intro vg7 hg7
        have fi1_6274 : ((0 : Int) ≤ (i1 6274).toInt) ∧ ((i1 6274).toInt ≤ 120) := hL1.I.1 6274
        have fi1_6273 : ((0 : Int) ≤ (i1 6273).toInt) ∧ ((i1 6273).toInt ≤ 120) := hL1.I.1 6273
        have fi_6273 : ((0 : Int) ≤ (i 6273).toInt) ∧ ((i 6273).toInt ≤ 120) := hG.I.1 6273
        have efi1_6273 : (i1 6273).toInt = (i 6273).toInt := hL1.ti 6273 rfl
        have z8 : (vg7.toInt = (-1)) ∨ ((i1 6274).toInt < (i1 6273).toInt) := hg7
        refine ko_callPI mi_in55 (pc := 13) (ls := [(2, .int l2_1), (1, .int l1_1), (0, .ref 98)]) (st := [.int vg7]) (h := ks i1 a1 q1 r1) (i := (.invokestatic 92, 3, 56, 0, 9, 0, 185)) (by rfl) (by rfl) (cy := mi_c56) rfl rfl (kc56 hL1.I hL1.R vg7) (by decide) ?_
        intro vg9 hg9
        rcases hg9 with ⟨eg9, hg9⟩ | ⟨eg9, hg9⟩
        ·
          subst eg9
          have z10 : ((48 : Int) ≤ vg7.toInt) ∧ (vg7.toInt ≤ 57) := hg9
          have b11 : ((-2147483648 : Int) ≤ l1_1.toInt) ∧ (l1_1.toInt ≤ 2147483647) := kd_bd l1_1
          refine ko_steps mi_in55 5 _ (24, [(2, .int l2_1), (1, .int l1_1), (0, .ref 98)], [.ref 98, .int (l1_1 * 10)], (0, 0), ks i1 a1 q1 r1) (by rfl) ?_
          refine ko_callPI mi_in55 (pc := 24) (ls := [(2, .int l2_1), (1, .int l1_1), (0, .ref 98)]) (st := [.ref 98, .int (l1_1 * 10)]) (h := ks i1 a1 q1 r1) (i := (.invokevirtual 46, 3, 45, 0, 9, 0, 184)) (by rfl) (by rfl) (cy := mi_c45) rfl rfl (kc45_98 hL1.I hL1.R ) (by decide) ?_
          intro vg12 hg12
          have z13 : (vg12.toInt = (-1)) ∨ ((i1 6274).toInt < (i1 6273).toInt) := hg12
          have b14 : ((-2147483648 : Int) ≤ (l1_1 * 10).toInt) ∧ ((l1_1 * 10).toInt ≤ 2147483647) := kd_bd (l1_1 * 10)
          have b15 : ((-2147483648 : Int) ≤ vg12.toInt) ∧ (vg12.toInt ≤ 2147483647) := kd_bd vg12
          have b16 : ((-2147483648 : Int) ≤ ((l1_1 * 10) + vg12).toInt) ∧ (((l1_1 * 10) + vg12).toInt ≤ 2147483647) := kd_bd ((l1_1 * 10) + vg12)
          have s17 : ((i1 6274) + 1).toInt = (i1 6274).toInt + (1 : Int32).toInt := kd_add (oz12 fi1_6274.1 kn1) (oz192 fi1_6274.2 kn1)
          have hJ18 := kG_i hL1 6274 rfl (v := ((i1 6274) + 1)) ⟨(oz14 fi1_6274.1 s17 kn1), (oz917 fi1_6273.2 s17 z10.1 z8 kn1)⟩
          have s19 : (l2_1 + 1).toInt = l2_1.toInt + (1 : Int32).toInt := kd_add (oz12 p1_0 kn1) (oz717 c6 kn4 kn1)
          refine ko_steps mi_in55 12 _ (4, [(2, .int (l2_1 + 1)), (1, .int (((l1_1 * 10) + vg12) - 48)), (0, .ref 98)], [], (0, 0), ks (ku i1 6274 ((i1 6274) + 1)) a1 q1 r1) (by rfl) ?_
          exact ih1 _ _ _ _ _ _ hJ18 (oz14 p1_0 s19 kn1) (kj_meas (oz723 s19 kn1) (oz724 c6 kn4) hm1)
        ·
          subst eg9
          have z20 : ¬ (((48 : Int) ≤ vg7.toInt) ∧ (vg7.toInt ≤ 57)) := hg9
          refine ko_steps mi_in55 1 _ (48, [(2, .int l2_1), (1, .int l1_1), (0, .ref 98)], [], (0, 0), ks i1 a1 q1 r1) (by rfl) ?_
          have hG21 := kG_call hG hL1 (by decide +kernel)
          refine ko_steps mi_in55 2 _ (52, [(2, .int l2_1), (1, .int l1_1), (0, .ref 98)], [.ref (r1 2)], (0, 0), ks i1 a1 q1 r1) (by rfl) ?_
          rcases hG21.R.1 with ⟨eRr1_0, eRr1_2⟩ | ⟨eRr1_0, eRr1_2⟩
          ·
            have eRr1_0 : r1 0 = 10 := eRr1_0
            have eRr1_2 : r1 2 = 100 := eRr1_2
            refine ko_eq (x1 := (52, [(2, .int l2_1), (1, .int l1_1), (0, .ref 98)], [.ref 100], (0, 0), ks i1 a1 q1 r1)) (by rw [eRr1_2]) ?_
            refine ko_steps mi_in55 2 _ (54, [(2, .int l2_1), (1, .int l1_1), (0, .ref 98)], [.int l1_1, .int 0, .ref 100], (0, 0), ks i1 a1 q1 r1) (by rfl) ?_
            refine ko_callI mi_in55 (pc := 54) (ls := [(2, .int l2_1), (1, .int l1_1), (0, .ref 98)]) (st := [.int l1_1, .int 0, .ref 100]) (h := ks i1 a1 q1 r1) (i := (.invokevirtual 60, 3, 17, 0, 9, 0, 187)) (by rfl) (by rfl) (cy := mi_c17) rfl rfl (kc17_100 hG21.I hG21.R 0 l1_1) (by decide) ?_
            intro vg22 ig22 ag22 qg22 rg22 kg22 hg22
            have hGg22 := kG_call hG21 kg22 (by decide +kernel)
            have eRrg22_0 : rg22 0 = 10 := (kg22.fr 0 rfl).trans eRr1_0
            have eRrg22_2 : rg22 2 = 100 := (kg22.fr 2 rfl).trans eRr1_2
            refine ko_steps mi_in55 1 _ (58, [(2, .int l2_1), (1, .int l1_1), (0, .ref 98)], [], (0, 0), ks ig22 ag22 qg22 rg22) (by rfl) ?_
            exact ko_ret mi_in55 (by rfl) (hP  _ _ _ _ hGg22 trivial)
          ·
            have eRr1_0 : r1 0 = 100 := eRr1_0
            have eRr1_2 : r1 2 = 10 := eRr1_2
            refine ko_eq (x1 := (52, [(2, .int l2_1), (1, .int l1_1), (0, .ref 98)], [.ref 10], (0, 0), ks i1 a1 q1 r1)) (by rw [eRr1_2]) ?_
            refine ko_steps mi_in55 2 _ (54, [(2, .int l2_1), (1, .int l1_1), (0, .ref 98)], [.int l1_1, .int 0, .ref 10], (0, 0), ks i1 a1 q1 r1) (by rfl) ?_
            refine ko_callI mi_in55 (pc := 54) (ls := [(2, .int l2_1), (1, .int l1_1), (0, .ref 98)]) (st := [.int l1_1, .int 0, .ref 10]) (h := ks i1 a1 q1 r1) (i := (.invokevirtual 60, 3, 17, 0, 9, 0, 187)) (by rfl) (by rfl) (cy := mi_c17) rfl rfl (kc17_10 hG21.I hG21.R 0 l1_1) (by decide) ?_
            intro vg23 ig23 ag23 qg23 rg23 kg23 hg23
            have hGg23 := kG_call hG21 kg23 (by decide +kernel)
            have eRrg23_0 : rg23 0 = 100 := (kg23.fr 0 rfl).trans eRr1_0
            have eRrg23_2 : rg23 2 = 10 := (kg23.fr 2 rfl).trans eRr1_2
            refine ko_steps mi_in55 1 _ (58, [(2, .int l2_1), (1, .int l1_1), (0, .ref 98)], [], (0, 0), ks ig23 ag23 qg23 rg23) (by rfl) ?_
            exact ko_ret mi_in55 (by rfl) (hP  _ _ _ _ hGg23 trivial)
  exact lp1 _ _ _ _ _ _ _ (kG_self _ hG.I hG.R) (oz46 kn0) (Nat.lt_succ_self _)
set_option maxRecDepth 100000 in
theorem kc231_S10 {i : Nat → Int32} {a : Nat → List Int32} {q : Nat → List Int64} {r : Nat → Nat} (hI : kI i a q) (hr : kr r)  : km 1 231 [.ref (mi_RO + 10)] (ks i a q r) (kPI (ks i a q r) (fun v => (v = 1 ∧ (True)) ∨ (v = 0 ∧ ((2 : Int) ≤ 1)))) := by
  have hG := kG_self kW0 hI hr
  refine km_ofPI (q := (mi_h231, mi_c231)) rfl (by decide) (Nat.le_of_ble_eq_true rfl) ?_
  intro P hP
  refine ko_steps mi_in231 7 _ (18, [(0, .ref (mi_RO + 10))], [.int 1], (0, 0), ks i a q r) (by rfl) ?_
  exact ko_ret mi_in231 (by rfl) (hP 1 (Or.inl ⟨rfl, trivial⟩))
set_option maxRecDepth 100000 in
theorem kc230_S10 {i : Nat → Int32} {a : Nat → List Int32} {q : Nat → List Int64} {r : Nat → Nat} (hI : kI i a q) (hr : kr r)  : km 1 230 [.ref (mi_RO + 10)] (ks i a q r) (kPI (ks i a q r) (fun v => True)) := by
  have hG := kG_self kW0 hI hr
  refine km_ofPI (q := (mi_h230, mi_c230)) rfl (by decide) (Nat.le_of_ble_eq_true rfl) ?_
  intro P hP
  refine ko_steps mi_in230 5 _ (14, [(0, .ref (mi_RO + 10))], [.int 0], (0, 0), ks i a q r) (by rfl) ?_
  exact ko_ret mi_in230 (by rfl) (hP 0 trivial)
set_option maxRecDepth 100000 in
theorem kc227_S10 {i : Nat → Int32} {a : Nat → List Int32} {q : Nat → List Int64} {r : Nat → Nat} (hI : kI i a q) (hr : kr r)  : km 3 227 [.ref (mi_RO + 10)] (ks i a q r) (kPI (ks i a q r) (fun v => True)) := by
  have hG := kG_self kW0 hI hr
  refine km_ofPI (q := (mi_h227, mi_c227)) rfl (by decide) (Nat.le_of_ble_eq_true rfl) ?_
  intro P hP
  refine ko_steps mi_in227 4 _ (6, [(0, .ref (mi_RO + 10))], [.ref (mi_RO + 10), .int 6], (0, 0), ks i a q r) (by rfl) ?_
  refine ko_callPI mi_in227 (pc := 6) (ls := [(0, .ref (mi_RO + 10))]) (st := [.ref (mi_RO + 10), .int 6]) (h := ks i a q r) (i := (.invokevirtual 335, 3, 230, 0, 9, 0, 32)) (by rfl) (by rfl) (cy := mi_c230) rfl rfl (kc230_S10 hG.I hG.R ) (by decide) ?_
  intro vg1 hg1
  refine ko_steps mi_in227 1 _ (10, [(0, .ref (mi_RO + 10))], [.int (6 >>> (vg1 &&& 31))], (0, 0), ks i a q r) (by rfl) ?_
  exact ko_ret mi_in227 (by rfl) (hP (6 >>> (vg1 &&& 31)) trivial)
set_option maxRecDepth 100000 in
theorem kc232 {i : Nat → Int32} {a : Nat → List Int32} {q : Nat → List Int64} {r : Nat → Nat} (hI : kI i a q) (hr : kr r) (x1 : Int32) : km 1 232 [.int x1] (ks i a q r) (kPI (ks i a q r) (fun v => (v = 1 ∧ (True)) ∨ (v = 0 ∧ (True)))) := by
  have hG := kG_self kW0 hI hr
  refine km_ofPI (q := (mi_h232, mi_c232)) rfl (by decide) (Nat.le_of_ble_eq_true rfl) ?_
  intro P hP
  refine ko_steps mi_in232 1 _ (1, [(0, .int x1)], [.int x1], (0, 0), ks i a q r) (by rfl) ?_
  refine ko_if mi_in232 (decide (x1 < 0)) 15 4 ([(0, .int x1)], [], (0, 0), ks i a q r) (by rfl) (fun c => ?_) (fun c => ?_)
  ·
    have c1 : x1.toInt < (0 : Int32).toInt := kd_lt c; clear c
    refine ko_steps mi_in232 1 _ (16, [(0, .int x1)], [.int 0], (0, 0), ks i a q r) (by rfl) ?_
    exact ko_ret mi_in232 (by rfl) (hP 0 (Or.inr ⟨rfl, trivial⟩))
  ·
    have c2 : (0 : Int32).toInt ≤ x1.toInt := kd_ltF c; clear c
    refine ko_steps mi_in232 2 _ (8, [(0, .int x1)], [.int 255, .int x1], (0, 0), ks i a q r) (by rfl) ?_
    refine ko_if mi_in232 (decide (255 < x1)) 15 11 ([(0, .int x1)], [], (0, 0), ks i a q r) (by rfl) (fun c => ?_) (fun c => ?_)
    ·
      have c3 : (255 : Int32).toInt < x1.toInt := kd_lt c; clear c
      refine ko_steps mi_in232 1 _ (16, [(0, .int x1)], [.int 0], (0, 0), ks i a q r) (by rfl) ?_
      exact ko_ret mi_in232 (by rfl) (hP 0 (Or.inr ⟨rfl, trivial⟩))
    ·
      have c4 : x1.toInt ≤ (255 : Int32).toInt := kd_ltF c; clear c
      refine ko_steps mi_in232 2 _ (16, [(0, .int x1)], [.int 1], (0, 0), ks i a q r) (by rfl) ?_
      exact ko_ret mi_in232 (by rfl) (hP 1 (Or.inl ⟨rfl, trivial⟩))
set_option maxRecDepth 100000 in
theorem kc234_S20 {i : Nat → Int32} {a : Nat → List Int32} {q : Nat → List Int64} {r : Nat → Nat} (hI : kI i a q) (hr : kr r) (x2 : Int32) (x3 : Int32) (x4 : Int32) (hp0 : (0 : Int) ≤ x3.toInt) (hp1 : x4.toInt ≤ 6) : km 1 234 [.ref (mi_RO + 20), .int x2, .int x3, .int x4] (ks i a q r) (kPI (ks i a q r) (fun v => True)) := by
  have hG := kG_self kW0 hI hr
  refine km_ofPI (q := (mi_h234, mi_c234)) rfl (by decide) (Nat.le_of_ble_eq_true rfl) ?_
  intro P hP
  refine ko_steps mi_in234 5 _ (7, [(5, .int x3), (4, .int x2.toInt8.toInt32), (0, .ref (mi_RO + 20)), (1, .int x2), (2, .int x3), (3, .int x4)], [], (0, 0), ks i a q r) (by rfl) ?_
  have lp1 : ∀ (n : Nat) (l5_1 : Int32), (0 : Int) ≤ l5_1.toInt → ((x4.toInt - l5_1.toInt)).toNat < n → ko 1 (mi_h234, mi_c234) P (7, [(5, .int l5_1), (4, .int x2.toInt8.toInt32), (0, .ref (mi_RO + 20)), (1, .int x2), (2, .int x3), (3, .int x4)], [], (0, 0), ks i a q r) := by
    intro n
    induction n with
    | zero =>
      intro _ _ hm
      exact absurd hm (Nat.not_lt_zero _)
    | succ n ih1 =>
      intro l5_1 p1_0 hm1
      refine ko_steps mi_in234 2 _ (10, [(5, .int l5_1), (4, .int x2.toInt8.toInt32), (0, .ref (mi_RO + 20)), (1, .int x2), (2, .int x3), (3, .int x4)], [.int x4, .int l5_1], (0, 0), ks i a q r) (by rfl) ?_
      refine ko_if mi_in234 (decide (x4 ≤ l5_1)) 31 13 ([(5, .int l5_1), (4, .int x2.toInt8.toInt32), (0, .ref (mi_RO + 20)), (1, .int x2), (2, .int x3), (3, .int x4)], [], (0, 0), ks i a q r) (by rfl) (fun c => ?_) (fun c => ?_)
      ·
        have c2 : x4.toInt ≤ l5_1.toInt := kd_le c; clear c
        refine ko_steps mi_in234 1 _ (32, [(5, .int l5_1), (4, .int x2.toInt8.toInt32), (0, .ref (mi_RO + 20)), (1, .int x2), (2, .int x3), (3, .int x4)], [.int (-1)], (0, 0), ks i a q r) (by rfl) ?_
        exact ko_ret mi_in234 (by rfl) (hP (-1) trivial)
      ·
        have c3 : l5_1.toInt < x4.toInt := kd_leF c; clear c
        refine ko_steps mi_in234 2 _ (16, [(5, .int l5_1), (4, .int x2.toInt8.toInt32), (0, .ref (mi_RO + 20)), (1, .int x2), (2, .int x3), (3, .int x4)], [.int l5_1, .ref (mi_RO + 20)], (0, 0), ks i a q r) (by rfl) ?_
        refine ko_baro2 mi_in234 (l := [119, 112, 104, 110, 111, 100]) (n := 6) (c := 6) (ax := (0, 0, 0, 0, 0)) (by rfl) (by rfl) (by rfl) rfl rfl (oz3 p1_0) (oz918 c3 hp1) ?_
        refine ko_steps mi_in234 1 _ (19, [(5, .int l5_1), (4, .int x2.toInt8.toInt32), (0, .ref (mi_RO + 20)), (1, .int x2), (2, .int x3), (3, .int x4)], [.int x2.toInt8.toInt32, .int (([119, 112, 104, 110, 111, 100] : List Int32).getD l5_1.toNatClampNeg 0)], (0, 0), ks i a q r) (by rfl) ?_
        refine ko_if mi_in234 ((([119, 112, 104, 110, 111, 100] : List Int32).getD l5_1.toNatClampNeg 0) != x2.toInt8.toInt32) 25 22 ([(5, .int l5_1), (4, .int x2.toInt8.toInt32), (0, .ref (mi_RO + 20)), (1, .int x2), (2, .int x3), (3, .int x4)], [], (0, 0), ks i a q r) (by rfl) (fun c => ?_) (fun c => ?_)
        ·
          have c4 : (([119, 112, 104, 110, 111, 100] : List Int32).getD l5_1.toNatClampNeg 0).toInt ≠ x2.toInt8.toInt32.toInt := kd_ne c; clear c
          have s5 : (l5_1 + 1).toInt = l5_1.toInt + (1 : Int32).toInt := kd_add (oz12 p1_0 kn1) (oz919 c3 hp1 kn1)
          refine ko_steps mi_in234 2 _ (7, [(5, .int (l5_1 + 1)), (4, .int x2.toInt8.toInt32), (0, .ref (mi_RO + 20)), (1, .int x2), (2, .int x3), (3, .int x4)], [], (0, 0), ks i a q r) (by rfl) ?_
          exact ih1 _ (oz14 p1_0 s5 kn1) (kj_meas (oz44 s5 kn1) (oz45 c3) hm1)
        ·
          have c6 : (([119, 112, 104, 110, 111, 100] : List Int32).getD l5_1.toNatClampNeg 0).toInt = x2.toInt8.toInt32.toInt := kd_neF c; clear c
          refine ko_steps mi_in234 1 _ (24, [(5, .int l5_1), (4, .int x2.toInt8.toInt32), (0, .ref (mi_RO + 20)), (1, .int x2), (2, .int x3), (3, .int x4)], [.int l5_1], (0, 0), ks i a q r) (by rfl) ?_
          exact ko_ret mi_in234 (by rfl) (hP l5_1 trivial)
  exact lp1 _ _ (oz3 hp0) (Nat.lt_succ_self _)
set_option maxRecDepth 100000 in
theorem kc233_S20 {i : Nat → Int32} {a : Nat → List Int32} {q : Nat → List Int64} {r : Nat → Nat} (hI : kI i a q) (hr : kr r) (x2 : Int32) (x3 : Int32) (x4 : Int32) : km 3 233 [.ref (mi_RO + 20), .int x2, .int x3, .int x4] (ks i a q r) (kPI (ks i a q r) (fun v => True)) := by
  have hG := kG_self kW0 hI hr
  refine km_ofPI (q := (mi_h233, mi_c233)) rfl (by decide) (Nat.le_of_ble_eq_true rfl) ?_
  intro P hP
  refine ko_steps mi_in233 1 _ (1, [(0, .ref (mi_RO + 20)), (1, .int x2), (2, .int x3), (3, .int x4)], [.int x2], (0, 0), ks i a q r) (by rfl) ?_
  refine ko_callPI mi_in233 (pc := 1) (ls := [(0, .ref (mi_RO + 20)), (1, .int x2), (2, .int x3), (3, .int x4)]) (st := [.int x2]) (h := ks i a q r) (i := (.invokestatic 88, 3, 232, 0, 9, 0, 195)) (by rfl) (by rfl) (cy := mi_c232) rfl rfl (kc232 hG.I hG.R x2) (by decide) ?_
  intro vg1 hg1
  rcases hg1 with ⟨eg1, hg1⟩ | ⟨eg1, hg1⟩
  ·
    subst eg1
    refine ko_steps mi_in233 3 _ (11, [(0, .ref (mi_RO + 20)), (1, .int x2), (2, .int x3), (3, .int x4)], [.int 0, .int x3], (0, 0), ks i a q r) (by rfl) ?_
    have m3 : ((x3.toInt ≤ (bif decide (x3 < 0) then 0 else x3).toInt) ∧ ((0 : Int32).toInt ≤ (bif decide (x3 < 0) then 0 else x3).toInt)) ∧ ((bif decide (x3 < 0) then 0 else x3).toInt = x3.toInt ∨ (bif decide (x3 < 0) then 0 else x3).toInt = (0 : Int32).toInt) := kd_max
    refine ko_steps mi_in233 1 _ (14, [(0, .ref (mi_RO + 20)), (1, .int x2), (2, .int x3), (3, .int x4)], [.int (bif decide (x3 < 0) then 0 else x3)], (0, 0), ks i a q r) (by rfl) ?_
    generalize (bif decide (x3 < 0) then 0 else x3) = m2 at m3 ⊢
    refine ko_steps mi_in233 4 _ (18, [(2, .int m2), (0, .ref (mi_RO + 20)), (1, .int x2), (3, .int x4)], [.int 6, .int x4], (0, 0), ks i a q r) (by rfl) ?_
    have m5 : (((bif decide (6 < x4) then 6 else x4).toInt ≤ x4.toInt) ∧ ((bif decide (6 < x4) then 6 else x4).toInt ≤ (6 : Int32).toInt)) ∧ ((bif decide (6 < x4) then 6 else x4).toInt = x4.toInt ∨ (bif decide (6 < x4) then 6 else x4).toInt = (6 : Int32).toInt) := kd_min
    refine ko_steps mi_in233 1 _ (21, [(2, .int m2), (0, .ref (mi_RO + 20)), (1, .int x2), (3, .int x4)], [.int (bif decide (6 < x4) then 6 else x4)], (0, 0), ks i a q r) (by rfl) ?_
    generalize (bif decide (6 < x4) then 6 else x4) = m4 at m5 ⊢
    refine ko_steps mi_in233 3 _ (24, [(3, .int m4), (2, .int m2), (0, .ref (mi_RO + 20)), (1, .int x2)], [.int m4, .int m2], (0, 0), ks i a q r) (by rfl) ?_
    refine ko_if mi_in233 (decide (m2 < m4)) 29 27 ([(3, .int m4), (2, .int m2), (0, .ref (mi_RO + 20)), (1, .int x2)], [], (0, 0), ks i a q r) (by rfl) (fun c => ?_) (fun c => ?_)
    ·
      have c6 : m2.toInt < m4.toInt := kd_lt c; clear c
      refine ko_steps mi_in233 4 _ (33, [(3, .int m4), (2, .int m2), (0, .ref (mi_RO + 20)), (1, .int x2)], [.int m4, .int m2, .int x2, .ref (mi_RO + 20)], (0, 0), ks i a q r) (by rfl) ?_
      refine ko_callPI mi_in233 (pc := 33) (ls := [(3, .int m4), (2, .int m2), (0, .ref (mi_RO + 20)), (1, .int x2)]) (st := [.int m4, .int m2, .int x2, .ref (mi_RO + 20)]) (h := ks i a q r) (i := (.invokestatic 95, 3, 234, 0, 9, 0, 198)) (by rfl) (by rfl) (cy := mi_c234) rfl rfl (kc234_S20 hG.I hG.R x2 m2 m4 (oz389 m3.1.2 kn0) (oz920 m5.1.2 kn6)) (by decide) ?_
      intro vg7 hg7
      exact ko_ret mi_in233 (by rfl) (hP vg7 trivial)
    ·
      have c8 : m4.toInt ≤ m2.toInt := kd_ltF c; clear c
      refine ko_steps mi_in233 1 _ (28, [(3, .int m4), (2, .int m2), (0, .ref (mi_RO + 20)), (1, .int x2)], [.int (-1)], (0, 0), ks i a q r) (by rfl) ?_
      exact ko_ret mi_in233 (by rfl) (hP (-1) trivial)
  ·
    subst eg1
    refine ko_steps mi_in233 2 _ (8, [(0, .ref (mi_RO + 20)), (1, .int x2), (2, .int x3), (3, .int x4)], [.int (-1)], (0, 0), ks i a q r) (by rfl) ?_
    exact ko_ret mi_in233 (by rfl) (hP (-1) trivial)
set_option maxRecDepth 100000 in
theorem kc229_S10 {i : Nat → Int32} {a : Nat → List Int32} {q : Nat → List Int64} {r : Nat → Nat} (hI : kI i a q) (hr : kr r) (x1 : Int32) (x2 : Int32) : km 5 229 [.ref (mi_RO + 10), .int x1, .int x2] (ks i a q r) (kPI (ks i a q r) (fun v => True)) := by
  have hG := kG_self kW0 hI hr
  refine km_ofPI (q := (mi_h229, mi_c229)) rfl (by decide) (Nat.le_of_ble_eq_true rfl) ?_
  intro P hP
  refine ko_steps mi_in229 1 _ (1, [(0, .ref (mi_RO + 10)), (1, .int x1), (2, .int x2)], [.ref (mi_RO + 10)], (0, 0), ks i a q r) (by rfl) ?_
  refine ko_callPI mi_in229 (pc := 1) (ls := [(0, .ref (mi_RO + 10)), (1, .int x1), (2, .int x2)]) (st := [.ref (mi_RO + 10)]) (h := ks i a q r) (i := (.invokevirtual 492, 3, 231, 0, 9, 0, 192)) (by rfl) (by rfl) (cy := mi_c231) rfl rfl (kc231_S10 hG.I hG.R ) (by decide) ?_
  intro vg1 hg1
  rcases hg1 with ⟨eg1, hg1⟩ | ⟨eg1, hg1⟩
  ·
    subst eg1
    refine ko_steps mi_in229 6 _ (14, [(0, .ref (mi_RO + 10)), (1, .int x1), (2, .int x2)], [.ref (mi_RO + 10), .int x2, .int x1, .ref (mi_RO + 20)], (0, 0), ks i a q r) (by rfl) ?_
    refine ko_callPI mi_in229 (pc := 14) (ls := [(0, .ref (mi_RO + 10)), (1, .int x1), (2, .int x2)]) (st := [.ref (mi_RO + 10), .int x2, .int x1, .ref (mi_RO + 20)]) (h := ks i a q r) (i := (.invokevirtual 505, 3, 227, 0, 9, 0, 193)) (by rfl) (by rfl) (cy := mi_c227) rfl rfl (kc227_S10 hG.I hG.R ) (by decide) ?_
    intro vg2 hg2
    refine ko_callPI mi_in229 (pc := 17) (ls := [(0, .ref (mi_RO + 10)), (1, .int x1), (2, .int x2)]) (st := [.int vg2, .int x2, .int x1, .ref (mi_RO + 20)]) (h := ks i a q r) (i := (.invokestatic 637, 3, 233, 0, 9, 0, 194)) (by rfl) (by rfl) (cy := mi_c233) rfl rfl (kc233_S20 hG.I hG.R x1 x2 vg2) (by decide) ?_
    intro vg3 hg3
    refine ko_steps mi_in229 1 _ (36, [(0, .ref (mi_RO + 10)), (1, .int x1), (2, .int x2)], [.int vg3], (0, 0), ks i a q r) (by rfl) ?_
    exact ko_ret mi_in229 (by rfl) (hP vg3 trivial)
  ·
    subst eg1
    have z4 : (2 : Int) ≤ 1 := hg1
    exact (oz755 z4).elim
set_option maxRecDepth 100000 in
theorem kc228_S10 {i : Nat → Int32} {a : Nat → List Int32} {q : Nat → List Int64} {r : Nat → Nat} (hI : kI i a q) (hr : kr r) (x1 : Int32) : km 7 228 [.ref (mi_RO + 10), .int x1] (ks i a q r) (kPI (ks i a q r) (fun v => True)) := by
  have hG := kG_self kW0 hI hr
  refine km_ofPI (q := (mi_h228, mi_c228)) rfl (by decide) (Nat.le_of_ble_eq_true rfl) ?_
  intro P hP
  refine ko_steps mi_in228 3 _ (3, [(0, .ref (mi_RO + 10)), (1, .int x1)], [.int 0, .int x1, .ref (mi_RO + 10)], (0, 0), ks i a q r) (by rfl) ?_
  refine ko_callPI mi_in228 (pc := 3) (ls := [(0, .ref (mi_RO + 10)), (1, .int x1)]) (st := [.int 0, .int x1, .ref (mi_RO + 10)]) (h := ks i a q r) (i := (.invokevirtual 633, 3, 229, 0, 9, 0, 191)) (by rfl) (by rfl) (cy := mi_c229) rfl rfl (kc229_S10 hG.I hG.R x1 0) (by decide) ?_
  intro vg1 hg1
  exact ko_ret mi_in228 (by rfl) (hP vg1 trivial)
def w47_98_S10 : kW := ([6274], [], [], [])
set_option maxRecDepth 100000 in
theorem kc47_98_S10 {i : Nat → Int32} {a : Nat → List Int32} {q : Nat → List Int64} {r : Nat → Nat} (hI : kI i a q) (hr : kr r)  : km 9 47 [.ref 98, .ref (mi_RO + 10)] (ks i a q r) (kVI w47_98_S10 i a q r (fun v i1 a1 q1 r1 => True)) := by
  have hG := kG_self w47_98_S10 hI hr
  refine km_ofI (q := (mi_h47, mi_c47)) rfl (by decide) (Nat.le_of_ble_eq_true rfl) ?_
  intro P hP
  refine ko_steps mi_in47 1 _ (1, [(0, .ref 98), (1, .ref (mi_RO + 10))], [.ref 98], (0, 0), ks i a q r) (by rfl) ?_
  refine ko_callPI mi_in47 (pc := 1) (ls := [(0, .ref 98), (1, .ref (mi_RO + 10))]) (st := [.ref 98]) (h := ks i a q r) (i := (.invokevirtual 46, 3, 45, 0, 9, 0, 184)) (by rfl) (by rfl) (cy := mi_c45) rfl rfl (kc45_98 hG.I hG.R ) (by decide) ?_
  intro vg1 hg1
  have fi_6274 : ((0 : Int) ≤ (i 6274).toInt) ∧ ((i 6274).toInt ≤ 120) := hG.I.1 6274
  have fi_6273 : ((0 : Int) ≤ (i 6273).toInt) ∧ ((i 6273).toInt ≤ 120) := hG.I.1 6273
  have z2 : (vg1.toInt = (-1)) ∨ ((i 6274).toInt < (i 6273).toInt) := hg1
  refine ko_steps mi_in47 3 _ (7, [(2, .int vg1), (0, .ref 98), (1, .ref (mi_RO + 10))], [.int (-1), .int vg1], (0, 0), ks i a q r) (by rfl) ?_
  refine ko_if mi_in47 (vg1 == (-1)) 19 10 ([(2, .int vg1), (0, .ref 98), (1, .ref (mi_RO + 10))], [], (0, 0), ks i a q r) (by rfl) (fun c => ?_) (fun c => ?_)
  ·
    have c3 : vg1.toInt = ((-1) : Int32).toInt := kd_eq c; clear c
    refine ko_steps mi_in47 1 _ (20, [(2, .int vg1), (0, .ref 98), (1, .ref (mi_RO + 10))], [.int (-1)], (0, 0), ks i a q r) (by rfl) ?_
    exact ko_ret mi_in47 (by rfl) (hP (-1) _ _ _ _ hG trivial)
  ·
    have c4 : vg1.toInt ≠ ((-1) : Int32).toInt := kd_eqF c; clear c
    refine ko_steps mi_in47 3 _ (13, [(2, .int vg1), (0, .ref 98), (1, .ref (mi_RO + 10))], [.int ((vg1.toUInt32 % 65536).toInt32), .ref (mi_RO + 10)], (0, 0), ks i a q r) (by rfl) ?_
    refine ko_callPI mi_in47 (pc := 13) (ls := [(2, .int vg1), (0, .ref 98), (1, .ref (mi_RO + 10))]) (st := [.int ((vg1.toUInt32 % 65536).toInt32), .ref (mi_RO + 10)]) (h := ks i a q r) (i := (.invokevirtual 50, 3, 228, 0, 9, 0, 190)) (by rfl) (by rfl) (cy := mi_c228) rfl rfl (kc228_S10 hG.I hG.R ((vg1.toUInt32 % 65536).toInt32)) (by decide) ?_
    intro vg5 hg5
    refine ko_if mi_in47 (decide (0 ≤ vg5)) 21 19 ([(2, .int vg1), (0, .ref 98), (1, .ref (mi_RO + 10))], [], (0, 0), ks i a q r) (by rfl) (fun c => ?_) (fun c => ?_)
    ·
      have c6 : (0 : Int32).toInt ≤ vg5.toInt := kd_le c; clear c
      have s7 : ((i 6274) + 1).toInt = (i 6274).toInt + (1 : Int32).toInt := kd_add (oz12 fi_6274.1 kn1) (oz192 fi_6274.2 kn1)
      have hJ8 := kG_i hG 6274 rfl (v := ((i 6274) + 1)) ⟨(oz14 fi_6274.1 s7 kn1), (oz921 c4 fi_6273.2 s7 z2 knm1 kn1)⟩
      refine ko_steps mi_in47 7 _ (32, [(2, .int vg1), (0, .ref 98), (1, .ref (mi_RO + 10))], [.int vg1], (0, 0), ks (ku i 6274 ((i 6274) + 1)) a q r) (by rfl) ?_
      exact ko_ret mi_in47 (by rfl) (hP vg1 _ _ _ _ hJ8 trivial)
    ·
      have c9 : vg5.toInt < (0 : Int32).toInt := kd_leF c; clear c
      refine ko_steps mi_in47 1 _ (20, [(2, .int vg1), (0, .ref 98), (1, .ref (mi_RO + 10))], [.int (-1)], (0, 0), ks i a q r) (by rfl) ?_
      exact ko_ret mi_in47 (by rfl) (hP (-1) _ _ _ _ hG trivial)
set_option maxRecDepth 100000 in
theorem kc231_S11 {i : Nat → Int32} {a : Nat → List Int32} {q : Nat → List Int64} {r : Nat → Nat} (hI : kI i a q) (hr : kr r)  : km 1 231 [.ref (mi_RO + 11)] (ks i a q r) (kPI (ks i a q r) (fun v => (v = 1 ∧ (True)) ∨ (v = 0 ∧ ((2 : Int) ≤ 1)))) := by
  have hG := kG_self kW0 hI hr
  refine km_ofPI (q := (mi_h231, mi_c231)) rfl (by decide) (Nat.le_of_ble_eq_true rfl) ?_
  intro P hP
  refine ko_steps mi_in231 7 _ (18, [(0, .ref (mi_RO + 11))], [.int 1], (0, 0), ks i a q r) (by rfl) ?_
  exact ko_ret mi_in231 (by rfl) (hP 1 (Or.inl ⟨rfl, trivial⟩))
set_option maxRecDepth 100000 in
theorem kc230_S11 {i : Nat → Int32} {a : Nat → List Int32} {q : Nat → List Int64} {r : Nat → Nat} (hI : kI i a q) (hr : kr r)  : km 1 230 [.ref (mi_RO + 11)] (ks i a q r) (kPI (ks i a q r) (fun v => True)) := by
  have hG := kG_self kW0 hI hr
  refine km_ofPI (q := (mi_h230, mi_c230)) rfl (by decide) (Nat.le_of_ble_eq_true rfl) ?_
  intro P hP
  refine ko_steps mi_in230 5 _ (14, [(0, .ref (mi_RO + 11))], [.int 0], (0, 0), ks i a q r) (by rfl) ?_
  exact ko_ret mi_in230 (by rfl) (hP 0 trivial)
set_option maxRecDepth 100000 in
theorem kc227_S11 {i : Nat → Int32} {a : Nat → List Int32} {q : Nat → List Int64} {r : Nat → Nat} (hI : kI i a q) (hr : kr r)  : km 3 227 [.ref (mi_RO + 11)] (ks i a q r) (kPI (ks i a q r) (fun v => True)) := by
  have hG := kG_self kW0 hI hr
  refine km_ofPI (q := (mi_h227, mi_c227)) rfl (by decide) (Nat.le_of_ble_eq_true rfl) ?_
  intro P hP
  refine ko_steps mi_in227 4 _ (6, [(0, .ref (mi_RO + 11))], [.ref (mi_RO + 11), .int 3], (0, 0), ks i a q r) (by rfl) ?_
  refine ko_callPI mi_in227 (pc := 6) (ls := [(0, .ref (mi_RO + 11))]) (st := [.ref (mi_RO + 11), .int 3]) (h := ks i a q r) (i := (.invokevirtual 335, 3, 230, 0, 9, 0, 32)) (by rfl) (by rfl) (cy := mi_c230) rfl rfl (kc230_S11 hG.I hG.R ) (by decide) ?_
  intro vg1 hg1
  refine ko_steps mi_in227 1 _ (10, [(0, .ref (mi_RO + 11))], [.int (3 >>> (vg1 &&& 31))], (0, 0), ks i a q r) (by rfl) ?_
  exact ko_ret mi_in227 (by rfl) (hP (3 >>> (vg1 &&& 31)) trivial)
set_option maxRecDepth 100000 in
theorem kc234_S21 {i : Nat → Int32} {a : Nat → List Int32} {q : Nat → List Int64} {r : Nat → Nat} (hI : kI i a q) (hr : kr r) (x2 : Int32) (x3 : Int32) (x4 : Int32) (hp0 : (0 : Int) ≤ x3.toInt) (hp1 : x4.toInt ≤ 3) : km 1 234 [.ref (mi_RO + 21), .int x2, .int x3, .int x4] (ks i a q r) (kPI (ks i a q r) (fun v => True)) := by
  have hG := kG_self kW0 hI hr
  refine km_ofPI (q := (mi_h234, mi_c234)) rfl (by decide) (Nat.le_of_ble_eq_true rfl) ?_
  intro P hP
  refine ko_steps mi_in234 5 _ (7, [(5, .int x3), (4, .int x2.toInt8.toInt32), (0, .ref (mi_RO + 21)), (1, .int x2), (2, .int x3), (3, .int x4)], [], (0, 0), ks i a q r) (by rfl) ?_
  have lp1 : ∀ (n : Nat) (l5_1 : Int32), (0 : Int) ≤ l5_1.toInt → ((x4.toInt - l5_1.toInt)).toNat < n → ko 1 (mi_h234, mi_c234) P (7, [(5, .int l5_1), (4, .int x2.toInt8.toInt32), (0, .ref (mi_RO + 21)), (1, .int x2), (2, .int x3), (3, .int x4)], [], (0, 0), ks i a q r) := by
    intro n
    induction n with
    | zero =>
      intro _ _ hm
      exact absurd hm (Nat.not_lt_zero _)
    | succ n ih1 =>
      intro l5_1 p1_0 hm1
      refine ko_steps mi_in234 2 _ (10, [(5, .int l5_1), (4, .int x2.toInt8.toInt32), (0, .ref (mi_RO + 21)), (1, .int x2), (2, .int x3), (3, .int x4)], [.int x4, .int l5_1], (0, 0), ks i a q r) (by rfl) ?_
      refine ko_if mi_in234 (decide (x4 ≤ l5_1)) 31 13 ([(5, .int l5_1), (4, .int x2.toInt8.toInt32), (0, .ref (mi_RO + 21)), (1, .int x2), (2, .int x3), (3, .int x4)], [], (0, 0), ks i a q r) (by rfl) (fun c => ?_) (fun c => ?_)
      ·
        have c2 : x4.toInt ≤ l5_1.toInt := kd_le c; clear c
        refine ko_steps mi_in234 1 _ (32, [(5, .int l5_1), (4, .int x2.toInt8.toInt32), (0, .ref (mi_RO + 21)), (1, .int x2), (2, .int x3), (3, .int x4)], [.int (-1)], (0, 0), ks i a q r) (by rfl) ?_
        exact ko_ret mi_in234 (by rfl) (hP (-1) trivial)
      ·
        have c3 : l5_1.toInt < x4.toInt := kd_leF c; clear c
        refine ko_steps mi_in234 2 _ (16, [(5, .int l5_1), (4, .int x2.toInt8.toInt32), (0, .ref (mi_RO + 21)), (1, .int x2), (2, .int x3), (3, .int x4)], [.int l5_1, .ref (mi_RO + 21)], (0, 0), ks i a q r) (by rfl) ?_
        refine ko_baro2 mi_in234 (l := [40, 33, 45]) (n := 3) (c := 3) (ax := (0, 0, 0, 0, 0)) (by rfl) (by rfl) (by rfl) rfl rfl (oz3 p1_0) (oz922 c3 hp1) ?_
        refine ko_steps mi_in234 1 _ (19, [(5, .int l5_1), (4, .int x2.toInt8.toInt32), (0, .ref (mi_RO + 21)), (1, .int x2), (2, .int x3), (3, .int x4)], [.int x2.toInt8.toInt32, .int (([40, 33, 45] : List Int32).getD l5_1.toNatClampNeg 0)], (0, 0), ks i a q r) (by rfl) ?_
        refine ko_if mi_in234 ((([40, 33, 45] : List Int32).getD l5_1.toNatClampNeg 0) != x2.toInt8.toInt32) 25 22 ([(5, .int l5_1), (4, .int x2.toInt8.toInt32), (0, .ref (mi_RO + 21)), (1, .int x2), (2, .int x3), (3, .int x4)], [], (0, 0), ks i a q r) (by rfl) (fun c => ?_) (fun c => ?_)
        ·
          have c4 : (([40, 33, 45] : List Int32).getD l5_1.toNatClampNeg 0).toInt ≠ x2.toInt8.toInt32.toInt := kd_ne c; clear c
          have s5 : (l5_1 + 1).toInt = l5_1.toInt + (1 : Int32).toInt := kd_add (oz12 p1_0 kn1) (oz923 c3 hp1 kn1)
          refine ko_steps mi_in234 2 _ (7, [(5, .int (l5_1 + 1)), (4, .int x2.toInt8.toInt32), (0, .ref (mi_RO + 21)), (1, .int x2), (2, .int x3), (3, .int x4)], [], (0, 0), ks i a q r) (by rfl) ?_
          exact ih1 _ (oz14 p1_0 s5 kn1) (kj_meas (oz44 s5 kn1) (oz45 c3) hm1)
        ·
          have c6 : (([40, 33, 45] : List Int32).getD l5_1.toNatClampNeg 0).toInt = x2.toInt8.toInt32.toInt := kd_neF c; clear c
          refine ko_steps mi_in234 1 _ (24, [(5, .int l5_1), (4, .int x2.toInt8.toInt32), (0, .ref (mi_RO + 21)), (1, .int x2), (2, .int x3), (3, .int x4)], [.int l5_1], (0, 0), ks i a q r) (by rfl) ?_
          exact ko_ret mi_in234 (by rfl) (hP l5_1 trivial)
  exact lp1 _ _ (oz3 hp0) (Nat.lt_succ_self _)
set_option maxRecDepth 100000 in
theorem kc233_S21 {i : Nat → Int32} {a : Nat → List Int32} {q : Nat → List Int64} {r : Nat → Nat} (hI : kI i a q) (hr : kr r) (x2 : Int32) (x3 : Int32) (x4 : Int32) : km 3 233 [.ref (mi_RO + 21), .int x2, .int x3, .int x4] (ks i a q r) (kPI (ks i a q r) (fun v => True)) := by
  have hG := kG_self kW0 hI hr
  refine km_ofPI (q := (mi_h233, mi_c233)) rfl (by decide) (Nat.le_of_ble_eq_true rfl) ?_
  intro P hP
  refine ko_steps mi_in233 1 _ (1, [(0, .ref (mi_RO + 21)), (1, .int x2), (2, .int x3), (3, .int x4)], [.int x2], (0, 0), ks i a q r) (by rfl) ?_
  refine ko_callPI mi_in233 (pc := 1) (ls := [(0, .ref (mi_RO + 21)), (1, .int x2), (2, .int x3), (3, .int x4)]) (st := [.int x2]) (h := ks i a q r) (i := (.invokestatic 88, 3, 232, 0, 9, 0, 195)) (by rfl) (by rfl) (cy := mi_c232) rfl rfl (kc232 hG.I hG.R x2) (by decide) ?_
  intro vg1 hg1
  rcases hg1 with ⟨eg1, hg1⟩ | ⟨eg1, hg1⟩
  ·
    subst eg1
    refine ko_steps mi_in233 3 _ (11, [(0, .ref (mi_RO + 21)), (1, .int x2), (2, .int x3), (3, .int x4)], [.int 0, .int x3], (0, 0), ks i a q r) (by rfl) ?_
    have m3 : ((x3.toInt ≤ (bif decide (x3 < 0) then 0 else x3).toInt) ∧ ((0 : Int32).toInt ≤ (bif decide (x3 < 0) then 0 else x3).toInt)) ∧ ((bif decide (x3 < 0) then 0 else x3).toInt = x3.toInt ∨ (bif decide (x3 < 0) then 0 else x3).toInt = (0 : Int32).toInt) := kd_max
    refine ko_steps mi_in233 1 _ (14, [(0, .ref (mi_RO + 21)), (1, .int x2), (2, .int x3), (3, .int x4)], [.int (bif decide (x3 < 0) then 0 else x3)], (0, 0), ks i a q r) (by rfl) ?_
    generalize (bif decide (x3 < 0) then 0 else x3) = m2 at m3 ⊢
    refine ko_steps mi_in233 4 _ (18, [(2, .int m2), (0, .ref (mi_RO + 21)), (1, .int x2), (3, .int x4)], [.int 3, .int x4], (0, 0), ks i a q r) (by rfl) ?_
    have m5 : (((bif decide (3 < x4) then 3 else x4).toInt ≤ x4.toInt) ∧ ((bif decide (3 < x4) then 3 else x4).toInt ≤ (3 : Int32).toInt)) ∧ ((bif decide (3 < x4) then 3 else x4).toInt = x4.toInt ∨ (bif decide (3 < x4) then 3 else x4).toInt = (3 : Int32).toInt) := kd_min
    refine ko_steps mi_in233 1 _ (21, [(2, .int m2), (0, .ref (mi_RO + 21)), (1, .int x2), (3, .int x4)], [.int (bif decide (3 < x4) then 3 else x4)], (0, 0), ks i a q r) (by rfl) ?_
    generalize (bif decide (3 < x4) then 3 else x4) = m4 at m5 ⊢
    refine ko_steps mi_in233 3 _ (24, [(3, .int m4), (2, .int m2), (0, .ref (mi_RO + 21)), (1, .int x2)], [.int m4, .int m2], (0, 0), ks i a q r) (by rfl) ?_
    refine ko_if mi_in233 (decide (m2 < m4)) 29 27 ([(3, .int m4), (2, .int m2), (0, .ref (mi_RO + 21)), (1, .int x2)], [], (0, 0), ks i a q r) (by rfl) (fun c => ?_) (fun c => ?_)
    ·
      have c6 : m2.toInt < m4.toInt := kd_lt c; clear c
      refine ko_steps mi_in233 4 _ (33, [(3, .int m4), (2, .int m2), (0, .ref (mi_RO + 21)), (1, .int x2)], [.int m4, .int m2, .int x2, .ref (mi_RO + 21)], (0, 0), ks i a q r) (by rfl) ?_
      refine ko_callPI mi_in233 (pc := 33) (ls := [(3, .int m4), (2, .int m2), (0, .ref (mi_RO + 21)), (1, .int x2)]) (st := [.int m4, .int m2, .int x2, .ref (mi_RO + 21)]) (h := ks i a q r) (i := (.invokestatic 95, 3, 234, 0, 9, 0, 198)) (by rfl) (by rfl) (cy := mi_c234) rfl rfl (kc234_S21 hG.I hG.R x2 m2 m4 (oz389 m3.1.2 kn0) (oz924 m5.1.2 kn3)) (by decide) ?_
      intro vg7 hg7
      exact ko_ret mi_in233 (by rfl) (hP vg7 trivial)
    ·
      have c8 : m4.toInt ≤ m2.toInt := kd_ltF c; clear c
      refine ko_steps mi_in233 1 _ (28, [(3, .int m4), (2, .int m2), (0, .ref (mi_RO + 21)), (1, .int x2)], [.int (-1)], (0, 0), ks i a q r) (by rfl) ?_
      exact ko_ret mi_in233 (by rfl) (hP (-1) trivial)
  ·
    subst eg1
    refine ko_steps mi_in233 2 _ (8, [(0, .ref (mi_RO + 21)), (1, .int x2), (2, .int x3), (3, .int x4)], [.int (-1)], (0, 0), ks i a q r) (by rfl) ?_
    exact ko_ret mi_in233 (by rfl) (hP (-1) trivial)
set_option maxRecDepth 100000 in
theorem kc229_S11 {i : Nat → Int32} {a : Nat → List Int32} {q : Nat → List Int64} {r : Nat → Nat} (hI : kI i a q) (hr : kr r) (x1 : Int32) (x2 : Int32) : km 5 229 [.ref (mi_RO + 11), .int x1, .int x2] (ks i a q r) (kPI (ks i a q r) (fun v => True)) := by
  have hG := kG_self kW0 hI hr
  refine km_ofPI (q := (mi_h229, mi_c229)) rfl (by decide) (Nat.le_of_ble_eq_true rfl) ?_
  intro P hP
  refine ko_steps mi_in229 1 _ (1, [(0, .ref (mi_RO + 11)), (1, .int x1), (2, .int x2)], [.ref (mi_RO + 11)], (0, 0), ks i a q r) (by rfl) ?_
  refine ko_callPI mi_in229 (pc := 1) (ls := [(0, .ref (mi_RO + 11)), (1, .int x1), (2, .int x2)]) (st := [.ref (mi_RO + 11)]) (h := ks i a q r) (i := (.invokevirtual 492, 3, 231, 0, 9, 0, 192)) (by rfl) (by rfl) (cy := mi_c231) rfl rfl (kc231_S11 hG.I hG.R ) (by decide) ?_
  intro vg1 hg1
  rcases hg1 with ⟨eg1, hg1⟩ | ⟨eg1, hg1⟩
  ·
    subst eg1
    refine ko_steps mi_in229 6 _ (14, [(0, .ref (mi_RO + 11)), (1, .int x1), (2, .int x2)], [.ref (mi_RO + 11), .int x2, .int x1, .ref (mi_RO + 21)], (0, 0), ks i a q r) (by rfl) ?_
    refine ko_callPI mi_in229 (pc := 14) (ls := [(0, .ref (mi_RO + 11)), (1, .int x1), (2, .int x2)]) (st := [.ref (mi_RO + 11), .int x2, .int x1, .ref (mi_RO + 21)]) (h := ks i a q r) (i := (.invokevirtual 505, 3, 227, 0, 9, 0, 193)) (by rfl) (by rfl) (cy := mi_c227) rfl rfl (kc227_S11 hG.I hG.R ) (by decide) ?_
    intro vg2 hg2
    refine ko_callPI mi_in229 (pc := 17) (ls := [(0, .ref (mi_RO + 11)), (1, .int x1), (2, .int x2)]) (st := [.int vg2, .int x2, .int x1, .ref (mi_RO + 21)]) (h := ks i a q r) (i := (.invokestatic 637, 3, 233, 0, 9, 0, 194)) (by rfl) (by rfl) (cy := mi_c233) rfl rfl (kc233_S21 hG.I hG.R x1 x2 vg2) (by decide) ?_
    intro vg3 hg3
    refine ko_steps mi_in229 1 _ (36, [(0, .ref (mi_RO + 11)), (1, .int x1), (2, .int x2)], [.int vg3], (0, 0), ks i a q r) (by rfl) ?_
    exact ko_ret mi_in229 (by rfl) (hP vg3 trivial)
  ·
    subst eg1
    have z4 : (2 : Int) ≤ 1 := hg1
    exact (oz755 z4).elim
set_option maxRecDepth 100000 in
theorem kc228_S11 {i : Nat → Int32} {a : Nat → List Int32} {q : Nat → List Int64} {r : Nat → Nat} (hI : kI i a q) (hr : kr r) (x1 : Int32) : km 7 228 [.ref (mi_RO + 11), .int x1] (ks i a q r) (kPI (ks i a q r) (fun v => True)) := by
  have hG := kG_self kW0 hI hr
  refine km_ofPI (q := (mi_h228, mi_c228)) rfl (by decide) (Nat.le_of_ble_eq_true rfl) ?_
  intro P hP
  refine ko_steps mi_in228 3 _ (3, [(0, .ref (mi_RO + 11)), (1, .int x1)], [.int 0, .int x1, .ref (mi_RO + 11)], (0, 0), ks i a q r) (by rfl) ?_
  refine ko_callPI mi_in228 (pc := 3) (ls := [(0, .ref (mi_RO + 11)), (1, .int x1)]) (st := [.int 0, .int x1, .ref (mi_RO + 11)]) (h := ks i a q r) (i := (.invokevirtual 633, 3, 229, 0, 9, 0, 191)) (by rfl) (by rfl) (cy := mi_c229) rfl rfl (kc229_S11 hG.I hG.R x1 0) (by decide) ?_
  intro vg1 hg1
  exact ko_ret mi_in228 (by rfl) (hP vg1 trivial)
def w47_98_S11 : kW := ([6274], [], [], [])
set_option maxRecDepth 100000 in
theorem kc47_98_S11 {i : Nat → Int32} {a : Nat → List Int32} {q : Nat → List Int64} {r : Nat → Nat} (hI : kI i a q) (hr : kr r)  : km 9 47 [.ref 98, .ref (mi_RO + 11)] (ks i a q r) (kVI w47_98_S11 i a q r (fun v i1 a1 q1 r1 => True)) := by
  have hG := kG_self w47_98_S11 hI hr
  refine km_ofI (q := (mi_h47, mi_c47)) rfl (by decide) (Nat.le_of_ble_eq_true rfl) ?_
  intro P hP
  refine ko_steps mi_in47 1 _ (1, [(0, .ref 98), (1, .ref (mi_RO + 11))], [.ref 98], (0, 0), ks i a q r) (by rfl) ?_
  refine ko_callPI mi_in47 (pc := 1) (ls := [(0, .ref 98), (1, .ref (mi_RO + 11))]) (st := [.ref 98]) (h := ks i a q r) (i := (.invokevirtual 46, 3, 45, 0, 9, 0, 184)) (by rfl) (by rfl) (cy := mi_c45) rfl rfl (kc45_98 hG.I hG.R ) (by decide) ?_
  intro vg1 hg1
  have fi_6274 : ((0 : Int) ≤ (i 6274).toInt) ∧ ((i 6274).toInt ≤ 120) := hG.I.1 6274
  have fi_6273 : ((0 : Int) ≤ (i 6273).toInt) ∧ ((i 6273).toInt ≤ 120) := hG.I.1 6273
  have z2 : (vg1.toInt = (-1)) ∨ ((i 6274).toInt < (i 6273).toInt) := hg1
  refine ko_steps mi_in47 3 _ (7, [(2, .int vg1), (0, .ref 98), (1, .ref (mi_RO + 11))], [.int (-1), .int vg1], (0, 0), ks i a q r) (by rfl) ?_
  refine ko_if mi_in47 (vg1 == (-1)) 19 10 ([(2, .int vg1), (0, .ref 98), (1, .ref (mi_RO + 11))], [], (0, 0), ks i a q r) (by rfl) (fun c => ?_) (fun c => ?_)
  ·
    have c3 : vg1.toInt = ((-1) : Int32).toInt := kd_eq c; clear c
    refine ko_steps mi_in47 1 _ (20, [(2, .int vg1), (0, .ref 98), (1, .ref (mi_RO + 11))], [.int (-1)], (0, 0), ks i a q r) (by rfl) ?_
    exact ko_ret mi_in47 (by rfl) (hP (-1) _ _ _ _ hG trivial)
  ·
    have c4 : vg1.toInt ≠ ((-1) : Int32).toInt := kd_eqF c; clear c
    refine ko_steps mi_in47 3 _ (13, [(2, .int vg1), (0, .ref 98), (1, .ref (mi_RO + 11))], [.int ((vg1.toUInt32 % 65536).toInt32), .ref (mi_RO + 11)], (0, 0), ks i a q r) (by rfl) ?_
    refine ko_callPI mi_in47 (pc := 13) (ls := [(2, .int vg1), (0, .ref 98), (1, .ref (mi_RO + 11))]) (st := [.int ((vg1.toUInt32 % 65536).toInt32), .ref (mi_RO + 11)]) (h := ks i a q r) (i := (.invokevirtual 50, 3, 228, 0, 9, 0, 190)) (by rfl) (by rfl) (cy := mi_c228) rfl rfl (kc228_S11 hG.I hG.R ((vg1.toUInt32 % 65536).toInt32)) (by decide) ?_
    intro vg5 hg5
    refine ko_if mi_in47 (decide (0 ≤ vg5)) 21 19 ([(2, .int vg1), (0, .ref 98), (1, .ref (mi_RO + 11))], [], (0, 0), ks i a q r) (by rfl) (fun c => ?_) (fun c => ?_)
    ·
      have c6 : (0 : Int32).toInt ≤ vg5.toInt := kd_le c; clear c
      have s7 : ((i 6274) + 1).toInt = (i 6274).toInt + (1 : Int32).toInt := kd_add (oz12 fi_6274.1 kn1) (oz192 fi_6274.2 kn1)
      have hJ8 := kG_i hG 6274 rfl (v := ((i 6274) + 1)) ⟨(oz14 fi_6274.1 s7 kn1), (oz921 c4 fi_6273.2 s7 z2 knm1 kn1)⟩
      refine ko_steps mi_in47 7 _ (32, [(2, .int vg1), (0, .ref 98), (1, .ref (mi_RO + 11))], [.int vg1], (0, 0), ks (ku i 6274 ((i 6274) + 1)) a q r) (by rfl) ?_
      exact ko_ret mi_in47 (by rfl) (hP vg1 _ _ _ _ hJ8 trivial)
    ·
      have c9 : vg5.toInt < (0 : Int32).toInt := kd_leF c; clear c
      refine ko_steps mi_in47 1 _ (20, [(2, .int vg1), (0, .ref 98), (1, .ref (mi_RO + 11))], [.int (-1)], (0, 0), ks i a q r) (by rfl) ?_
      exact ko_ret mi_in47 (by rfl) (hP (-1) _ _ _ _ hG trivial)
def w46_98 : kW := ([6274], [], [], [])
set_option maxRecDepth 100000 in
theorem kc46_98 {i : Nat → Int32} {a : Nat → List Int32} {q : Nat → List Int64} {r : Nat → Nat} (hI : kI i a q) (hr : kr r) (x1 : Int32) (hp0 : (0 : Int) ≤ x1.toInt) : km 3 46 [.ref 98, .int x1] (ks i a q r) (kVI w46_98 i a q r (fun v i1 a1 q1 r1 => (v = 1 ∧ (True)) ∨ (v = 0 ∧ (True)))) := by
  have hG := kG_self w46_98 hI hr
  refine km_ofI (q := (mi_h46, mi_c46)) rfl (by decide) (Nat.le_of_ble_eq_true rfl) ?_
  intro P hP
  refine ko_steps mi_in46 1 _ (1, [(0, .ref 98), (1, .int x1)], [.ref 98], (0, 0), ks i a q r) (by rfl) ?_
  refine ko_callPI mi_in46 (pc := 1) (ls := [(0, .ref 98), (1, .int x1)]) (st := [.ref 98]) (h := ks i a q r) (i := (.invokevirtual 46, 3, 45, 0, 9, 0, 184)) (by rfl) (by rfl) (cy := mi_c45) rfl rfl (kc45_98 hG.I hG.R ) (by decide) ?_
  intro vg1 hg1
  have fi_6274 : ((0 : Int) ≤ (i 6274).toInt) ∧ ((i 6274).toInt ≤ 120) := hG.I.1 6274
  have fi_6273 : ((0 : Int) ≤ (i 6273).toInt) ∧ ((i 6273).toInt ≤ 120) := hG.I.1 6273
  have z2 : (vg1.toInt = (-1)) ∨ ((i 6274).toInt < (i 6273).toInt) := hg1
  refine ko_steps mi_in46 1 _ (5, [(0, .ref 98), (1, .int x1)], [.int x1, .int vg1], (0, 0), ks i a q r) (by rfl) ?_
  refine ko_if mi_in46 (vg1 == x1) 10 8 ([(0, .ref 98), (1, .int x1)], [], (0, 0), ks i a q r) (by rfl) (fun c => ?_) (fun c => ?_)
  ·
    have c3 : vg1.toInt = x1.toInt := kd_eq c; clear c
    have s4 : ((i 6274) + 1).toInt = (i 6274).toInt + (1 : Int32).toInt := kd_add (oz12 fi_6274.1 kn1) (oz192 fi_6274.2 kn1)
    have hJ5 := kG_i hG 6274 rfl (v := ((i 6274) + 1)) ⟨(oz14 fi_6274.1 s4 kn1), (oz927 c3 fi_6273.2 hp0 s4 z2 kn1)⟩
    refine ko_steps mi_in46 7 _ (21, [(0, .ref 98), (1, .int x1)], [.int 1], (0, 0), ks (ku i 6274 ((i 6274) + 1)) a q r) (by rfl) ?_
    exact ko_ret mi_in46 (by rfl) (hP 1 _ _ _ _ hJ5 (Or.inl ⟨rfl, trivial⟩))
  ·
    have c6 : vg1.toInt ≠ x1.toInt := kd_eqF c; clear c
    refine ko_steps mi_in46 1 _ (9, [(0, .ref 98), (1, .int x1)], [.int 0], (0, 0), ks i a q r) (by rfl) ?_
    exact ko_ret mi_in46 (by rfl) (hP 0 _ _ _ _ hG (Or.inr ⟨rfl, trivial⟩))
set_option maxRecDepth 100000 in
theorem kc231_S12 {i : Nat → Int32} {a : Nat → List Int32} {q : Nat → List Int64} {r : Nat → Nat} (hI : kI i a q) (hr : kr r)  : km 1 231 [.ref (mi_RO + 12)] (ks i a q r) (kPI (ks i a q r) (fun v => (v = 1 ∧ (True)) ∨ (v = 0 ∧ ((2 : Int) ≤ 1)))) := by
  have hG := kG_self kW0 hI hr
  refine km_ofPI (q := (mi_h231, mi_c231)) rfl (by decide) (Nat.le_of_ble_eq_true rfl) ?_
  intro P hP
  refine ko_steps mi_in231 7 _ (18, [(0, .ref (mi_RO + 12))], [.int 1], (0, 0), ks i a q r) (by rfl) ?_
  exact ko_ret mi_in231 (by rfl) (hP 1 (Or.inl ⟨rfl, trivial⟩))
set_option maxRecDepth 100000 in
theorem kc230_S12 {i : Nat → Int32} {a : Nat → List Int32} {q : Nat → List Int64} {r : Nat → Nat} (hI : kI i a q) (hr : kr r)  : km 1 230 [.ref (mi_RO + 12)] (ks i a q r) (kPI (ks i a q r) (fun v => True)) := by
  have hG := kG_self kW0 hI hr
  refine km_ofPI (q := (mi_h230, mi_c230)) rfl (by decide) (Nat.le_of_ble_eq_true rfl) ?_
  intro P hP
  refine ko_steps mi_in230 5 _ (14, [(0, .ref (mi_RO + 12))], [.int 0], (0, 0), ks i a q r) (by rfl) ?_
  exact ko_ret mi_in230 (by rfl) (hP 0 trivial)
set_option maxRecDepth 100000 in
theorem kc227_S12 {i : Nat → Int32} {a : Nat → List Int32} {q : Nat → List Int64} {r : Nat → Nat} (hI : kI i a q) (hr : kr r)  : km 3 227 [.ref (mi_RO + 12)] (ks i a q r) (kPI (ks i a q r) (fun v => True)) := by
  have hG := kG_self kW0 hI hr
  refine km_ofPI (q := (mi_h227, mi_c227)) rfl (by decide) (Nat.le_of_ble_eq_true rfl) ?_
  intro P hP
  refine ko_steps mi_in227 4 _ (6, [(0, .ref (mi_RO + 12))], [.ref (mi_RO + 12), .int 3], (0, 0), ks i a q r) (by rfl) ?_
  refine ko_callPI mi_in227 (pc := 6) (ls := [(0, .ref (mi_RO + 12))]) (st := [.ref (mi_RO + 12), .int 3]) (h := ks i a q r) (i := (.invokevirtual 335, 3, 230, 0, 9, 0, 32)) (by rfl) (by rfl) (cy := mi_c230) rfl rfl (kc230_S12 hG.I hG.R ) (by decide) ?_
  intro vg1 hg1
  refine ko_steps mi_in227 1 _ (10, [(0, .ref (mi_RO + 12))], [.int (3 >>> (vg1 &&& 31))], (0, 0), ks i a q r) (by rfl) ?_
  exact ko_ret mi_in227 (by rfl) (hP (3 >>> (vg1 &&& 31)) trivial)
set_option maxRecDepth 100000 in
theorem kc234_S22 {i : Nat → Int32} {a : Nat → List Int32} {q : Nat → List Int64} {r : Nat → Nat} (hI : kI i a q) (hr : kr r) (x2 : Int32) (x3 : Int32) (x4 : Int32) (hp0 : (0 : Int) ≤ x3.toInt) (hp1 : x4.toInt ≤ 3) : km 1 234 [.ref (mi_RO + 22), .int x2, .int x3, .int x4] (ks i a q r) (kPI (ks i a q r) (fun v => True)) := by
  have hG := kG_self kW0 hI hr
  refine km_ofPI (q := (mi_h234, mi_c234)) rfl (by decide) (Nat.le_of_ble_eq_true rfl) ?_
  intro P hP
  refine ko_steps mi_in234 5 _ (7, [(5, .int x3), (4, .int x2.toInt8.toInt32), (0, .ref (mi_RO + 22)), (1, .int x2), (2, .int x3), (3, .int x4)], [], (0, 0), ks i a q r) (by rfl) ?_
  have lp1 : ∀ (n : Nat) (l5_1 : Int32), (0 : Int) ≤ l5_1.toInt → ((x4.toInt - l5_1.toInt)).toNat < n → ko 1 (mi_h234, mi_c234) P (7, [(5, .int l5_1), (4, .int x2.toInt8.toInt32), (0, .ref (mi_RO + 22)), (1, .int x2), (2, .int x3), (3, .int x4)], [], (0, 0), ks i a q r) := by
    intro n
    induction n with
    | zero =>
      intro _ _ hm
      exact absurd hm (Nat.not_lt_zero _)
    | succ n ih1 =>
      intro l5_1 p1_0 hm1
      refine ko_steps mi_in234 2 _ (10, [(5, .int l5_1), (4, .int x2.toInt8.toInt32), (0, .ref (mi_RO + 22)), (1, .int x2), (2, .int x3), (3, .int x4)], [.int x4, .int l5_1], (0, 0), ks i a q r) (by rfl) ?_
      refine ko_if mi_in234 (decide (x4 ≤ l5_1)) 31 13 ([(5, .int l5_1), (4, .int x2.toInt8.toInt32), (0, .ref (mi_RO + 22)), (1, .int x2), (2, .int x3), (3, .int x4)], [], (0, 0), ks i a q r) (by rfl) (fun c => ?_) (fun c => ?_)
      ·
        have c2 : x4.toInt ≤ l5_1.toInt := kd_le c; clear c
        refine ko_steps mi_in234 1 _ (32, [(5, .int l5_1), (4, .int x2.toInt8.toInt32), (0, .ref (mi_RO + 22)), (1, .int x2), (2, .int x3), (3, .int x4)], [.int (-1)], (0, 0), ks i a q r) (by rfl) ?_
        exact ko_ret mi_in234 (by rfl) (hP (-1) trivial)
      ·
        have c3 : l5_1.toInt < x4.toInt := kd_leF c; clear c
        refine ko_steps mi_in234 2 _ (16, [(5, .int l5_1), (4, .int x2.toInt8.toInt32), (0, .ref (mi_RO + 22)), (1, .int x2), (2, .int x3), (3, .int x4)], [.int l5_1, .ref (mi_RO + 22)], (0, 0), ks i a q r) (by rfl) ?_
        refine ko_baro2 mi_in234 (l := [42, 47, 37]) (n := 3) (c := 3) (ax := (0, 0, 0, 0, 0)) (by rfl) (by rfl) (by rfl) rfl rfl (oz3 p1_0) (oz922 c3 hp1) ?_
        refine ko_steps mi_in234 1 _ (19, [(5, .int l5_1), (4, .int x2.toInt8.toInt32), (0, .ref (mi_RO + 22)), (1, .int x2), (2, .int x3), (3, .int x4)], [.int x2.toInt8.toInt32, .int (([42, 47, 37] : List Int32).getD l5_1.toNatClampNeg 0)], (0, 0), ks i a q r) (by rfl) ?_
        refine ko_if mi_in234 ((([42, 47, 37] : List Int32).getD l5_1.toNatClampNeg 0) != x2.toInt8.toInt32) 25 22 ([(5, .int l5_1), (4, .int x2.toInt8.toInt32), (0, .ref (mi_RO + 22)), (1, .int x2), (2, .int x3), (3, .int x4)], [], (0, 0), ks i a q r) (by rfl) (fun c => ?_) (fun c => ?_)
        ·
          have c4 : (([42, 47, 37] : List Int32).getD l5_1.toNatClampNeg 0).toInt ≠ x2.toInt8.toInt32.toInt := kd_ne c; clear c
          have s5 : (l5_1 + 1).toInt = l5_1.toInt + (1 : Int32).toInt := kd_add (oz12 p1_0 kn1) (oz923 c3 hp1 kn1)
          refine ko_steps mi_in234 2 _ (7, [(5, .int (l5_1 + 1)), (4, .int x2.toInt8.toInt32), (0, .ref (mi_RO + 22)), (1, .int x2), (2, .int x3), (3, .int x4)], [], (0, 0), ks i a q r) (by rfl) ?_
          exact ih1 _ (oz14 p1_0 s5 kn1) (kj_meas (oz44 s5 kn1) (oz45 c3) hm1)
        ·
          have c6 : (([42, 47, 37] : List Int32).getD l5_1.toNatClampNeg 0).toInt = x2.toInt8.toInt32.toInt := kd_neF c; clear c
          refine ko_steps mi_in234 1 _ (24, [(5, .int l5_1), (4, .int x2.toInt8.toInt32), (0, .ref (mi_RO + 22)), (1, .int x2), (2, .int x3), (3, .int x4)], [.int l5_1], (0, 0), ks i a q r) (by rfl) ?_
          exact ko_ret mi_in234 (by rfl) (hP l5_1 trivial)
  exact lp1 _ _ (oz3 hp0) (Nat.lt_succ_self _)
set_option maxRecDepth 100000 in
theorem kc233_S22 {i : Nat → Int32} {a : Nat → List Int32} {q : Nat → List Int64} {r : Nat → Nat} (hI : kI i a q) (hr : kr r) (x2 : Int32) (x3 : Int32) (x4 : Int32) : km 3 233 [.ref (mi_RO + 22), .int x2, .int x3, .int x4] (ks i a q r) (kPI (ks i a q r) (fun v => True)) := by
  have hG := kG_self kW0 hI hr
  refine km_ofPI (q := (mi_h233, mi_c233)) rfl (by decide) (Nat.le_of_ble_eq_true rfl) ?_
  intro P hP
  refine ko_steps mi_in233 1 _ (1, [(0, .ref (mi_RO + 22)), (1, .int x2), (2, .int x3), (3, .int x4)], [.int x2], (0, 0), ks i a q r) (by rfl) ?_
  refine ko_callPI mi_in233 (pc := 1) (ls := [(0, .ref (mi_RO + 22)), (1, .int x2), (2, .int x3), (3, .int x4)]) (st := [.int x2]) (h := ks i a q r) (i := (.invokestatic 88, 3, 232, 0, 9, 0, 195)) (by rfl) (by rfl) (cy := mi_c232) rfl rfl (kc232 hG.I hG.R x2) (by decide) ?_
  intro vg1 hg1
  rcases hg1 with ⟨eg1, hg1⟩ | ⟨eg1, hg1⟩
  ·
    subst eg1
    refine ko_steps mi_in233 3 _ (11, [(0, .ref (mi_RO + 22)), (1, .int x2), (2, .int x3), (3, .int x4)], [.int 0, .int x3], (0, 0), ks i a q r) (by rfl) ?_
    have m3 : ((x3.toInt ≤ (bif decide (x3 < 0) then 0 else x3).toInt) ∧ ((0 : Int32).toInt ≤ (bif decide (x3 < 0) then 0 else x3).toInt)) ∧ ((bif decide (x3 < 0) then 0 else x3).toInt = x3.toInt ∨ (bif decide (x3 < 0) then 0 else x3).toInt = (0 : Int32).toInt) := kd_max
    refine ko_steps mi_in233 1 _ (14, [(0, .ref (mi_RO + 22)), (1, .int x2), (2, .int x3), (3, .int x4)], [.int (bif decide (x3 < 0) then 0 else x3)], (0, 0), ks i a q r) (by rfl) ?_
    generalize (bif decide (x3 < 0) then 0 else x3) = m2 at m3 ⊢
    refine ko_steps mi_in233 4 _ (18, [(2, .int m2), (0, .ref (mi_RO + 22)), (1, .int x2), (3, .int x4)], [.int 3, .int x4], (0, 0), ks i a q r) (by rfl) ?_
    have m5 : (((bif decide (3 < x4) then 3 else x4).toInt ≤ x4.toInt) ∧ ((bif decide (3 < x4) then 3 else x4).toInt ≤ (3 : Int32).toInt)) ∧ ((bif decide (3 < x4) then 3 else x4).toInt = x4.toInt ∨ (bif decide (3 < x4) then 3 else x4).toInt = (3 : Int32).toInt) := kd_min
    refine ko_steps mi_in233 1 _ (21, [(2, .int m2), (0, .ref (mi_RO + 22)), (1, .int x2), (3, .int x4)], [.int (bif decide (3 < x4) then 3 else x4)], (0, 0), ks i a q r) (by rfl) ?_
    generalize (bif decide (3 < x4) then 3 else x4) = m4 at m5 ⊢
    refine ko_steps mi_in233 3 _ (24, [(3, .int m4), (2, .int m2), (0, .ref (mi_RO + 22)), (1, .int x2)], [.int m4, .int m2], (0, 0), ks i a q r) (by rfl) ?_
    refine ko_if mi_in233 (decide (m2 < m4)) 29 27 ([(3, .int m4), (2, .int m2), (0, .ref (mi_RO + 22)), (1, .int x2)], [], (0, 0), ks i a q r) (by rfl) (fun c => ?_) (fun c => ?_)
    ·
      have c6 : m2.toInt < m4.toInt := kd_lt c; clear c
      refine ko_steps mi_in233 4 _ (33, [(3, .int m4), (2, .int m2), (0, .ref (mi_RO + 22)), (1, .int x2)], [.int m4, .int m2, .int x2, .ref (mi_RO + 22)], (0, 0), ks i a q r) (by rfl) ?_
      refine ko_callPI mi_in233 (pc := 33) (ls := [(3, .int m4), (2, .int m2), (0, .ref (mi_RO + 22)), (1, .int x2)]) (st := [.int m4, .int m2, .int x2, .ref (mi_RO + 22)]) (h := ks i a q r) (i := (.invokestatic 95, 3, 234, 0, 9, 0, 198)) (by rfl) (by rfl) (cy := mi_c234) rfl rfl (kc234_S22 hG.I hG.R x2 m2 m4 (oz389 m3.1.2 kn0) (oz924 m5.1.2 kn3)) (by decide) ?_
      intro vg7 hg7
      exact ko_ret mi_in233 (by rfl) (hP vg7 trivial)
    ·
      have c8 : m4.toInt ≤ m2.toInt := kd_ltF c; clear c
      refine ko_steps mi_in233 1 _ (28, [(3, .int m4), (2, .int m2), (0, .ref (mi_RO + 22)), (1, .int x2)], [.int (-1)], (0, 0), ks i a q r) (by rfl) ?_
      exact ko_ret mi_in233 (by rfl) (hP (-1) trivial)
  ·
    subst eg1
    refine ko_steps mi_in233 2 _ (8, [(0, .ref (mi_RO + 22)), (1, .int x2), (2, .int x3), (3, .int x4)], [.int (-1)], (0, 0), ks i a q r) (by rfl) ?_
    exact ko_ret mi_in233 (by rfl) (hP (-1) trivial)
set_option maxRecDepth 100000 in
theorem kc229_S12 {i : Nat → Int32} {a : Nat → List Int32} {q : Nat → List Int64} {r : Nat → Nat} (hI : kI i a q) (hr : kr r) (x1 : Int32) (x2 : Int32) : km 5 229 [.ref (mi_RO + 12), .int x1, .int x2] (ks i a q r) (kPI (ks i a q r) (fun v => True)) := by
  have hG := kG_self kW0 hI hr
  refine km_ofPI (q := (mi_h229, mi_c229)) rfl (by decide) (Nat.le_of_ble_eq_true rfl) ?_
  intro P hP
  refine ko_steps mi_in229 1 _ (1, [(0, .ref (mi_RO + 12)), (1, .int x1), (2, .int x2)], [.ref (mi_RO + 12)], (0, 0), ks i a q r) (by rfl) ?_
  refine ko_callPI mi_in229 (pc := 1) (ls := [(0, .ref (mi_RO + 12)), (1, .int x1), (2, .int x2)]) (st := [.ref (mi_RO + 12)]) (h := ks i a q r) (i := (.invokevirtual 492, 3, 231, 0, 9, 0, 192)) (by rfl) (by rfl) (cy := mi_c231) rfl rfl (kc231_S12 hG.I hG.R ) (by decide) ?_
  intro vg1 hg1
  rcases hg1 with ⟨eg1, hg1⟩ | ⟨eg1, hg1⟩
  ·
    subst eg1
    refine ko_steps mi_in229 6 _ (14, [(0, .ref (mi_RO + 12)), (1, .int x1), (2, .int x2)], [.ref (mi_RO + 12), .int x2, .int x1, .ref (mi_RO + 22)], (0, 0), ks i a q r) (by rfl) ?_
    refine ko_callPI mi_in229 (pc := 14) (ls := [(0, .ref (mi_RO + 12)), (1, .int x1), (2, .int x2)]) (st := [.ref (mi_RO + 12), .int x2, .int x1, .ref (mi_RO + 22)]) (h := ks i a q r) (i := (.invokevirtual 505, 3, 227, 0, 9, 0, 193)) (by rfl) (by rfl) (cy := mi_c227) rfl rfl (kc227_S12 hG.I hG.R ) (by decide) ?_
    intro vg2 hg2
    refine ko_callPI mi_in229 (pc := 17) (ls := [(0, .ref (mi_RO + 12)), (1, .int x1), (2, .int x2)]) (st := [.int vg2, .int x2, .int x1, .ref (mi_RO + 22)]) (h := ks i a q r) (i := (.invokestatic 637, 3, 233, 0, 9, 0, 194)) (by rfl) (by rfl) (cy := mi_c233) rfl rfl (kc233_S22 hG.I hG.R x1 x2 vg2) (by decide) ?_
    intro vg3 hg3
    refine ko_steps mi_in229 1 _ (36, [(0, .ref (mi_RO + 12)), (1, .int x1), (2, .int x2)], [.int vg3], (0, 0), ks i a q r) (by rfl) ?_
    exact ko_ret mi_in229 (by rfl) (hP vg3 trivial)
  ·
    subst eg1
    have z4 : (2 : Int) ≤ 1 := hg1
    exact (oz755 z4).elim
set_option maxRecDepth 100000 in
theorem kc228_S12 {i : Nat → Int32} {a : Nat → List Int32} {q : Nat → List Int64} {r : Nat → Nat} (hI : kI i a q) (hr : kr r) (x1 : Int32) : km 7 228 [.ref (mi_RO + 12), .int x1] (ks i a q r) (kPI (ks i a q r) (fun v => True)) := by
  have hG := kG_self kW0 hI hr
  refine km_ofPI (q := (mi_h228, mi_c228)) rfl (by decide) (Nat.le_of_ble_eq_true rfl) ?_
  intro P hP
  refine ko_steps mi_in228 3 _ (3, [(0, .ref (mi_RO + 12)), (1, .int x1)], [.int 0, .int x1, .ref (mi_RO + 12)], (0, 0), ks i a q r) (by rfl) ?_
  refine ko_callPI mi_in228 (pc := 3) (ls := [(0, .ref (mi_RO + 12)), (1, .int x1)]) (st := [.int 0, .int x1, .ref (mi_RO + 12)]) (h := ks i a q r) (i := (.invokevirtual 633, 3, 229, 0, 9, 0, 191)) (by rfl) (by rfl) (cy := mi_c229) rfl rfl (kc229_S12 hG.I hG.R x1 0) (by decide) ?_
  intro vg1 hg1
  exact ko_ret mi_in228 (by rfl) (hP vg1 trivial)
def w47_98_S12 : kW := ([6274], [], [], [])
set_option maxRecDepth 100000 in
theorem kc47_98_S12 {i : Nat → Int32} {a : Nat → List Int32} {q : Nat → List Int64} {r : Nat → Nat} (hI : kI i a q) (hr : kr r)  : km 9 47 [.ref 98, .ref (mi_RO + 12)] (ks i a q r) (kVI w47_98_S12 i a q r (fun v i1 a1 q1 r1 => True)) := by
  have hG := kG_self w47_98_S12 hI hr
  refine km_ofI (q := (mi_h47, mi_c47)) rfl (by decide) (Nat.le_of_ble_eq_true rfl) ?_
  intro P hP
  refine ko_steps mi_in47 1 _ (1, [(0, .ref 98), (1, .ref (mi_RO + 12))], [.ref 98], (0, 0), ks i a q r) (by rfl) ?_
  refine ko_callPI mi_in47 (pc := 1) (ls := [(0, .ref 98), (1, .ref (mi_RO + 12))]) (st := [.ref 98]) (h := ks i a q r) (i := (.invokevirtual 46, 3, 45, 0, 9, 0, 184)) (by rfl) (by rfl) (cy := mi_c45) rfl rfl (kc45_98 hG.I hG.R ) (by decide) ?_
  intro vg1 hg1
  have fi_6274 : ((0 : Int) ≤ (i 6274).toInt) ∧ ((i 6274).toInt ≤ 120) := hG.I.1 6274
  have fi_6273 : ((0 : Int) ≤ (i 6273).toInt) ∧ ((i 6273).toInt ≤ 120) := hG.I.1 6273
  have z2 : (vg1.toInt = (-1)) ∨ ((i 6274).toInt < (i 6273).toInt) := hg1
  refine ko_steps mi_in47 3 _ (7, [(2, .int vg1), (0, .ref 98), (1, .ref (mi_RO + 12))], [.int (-1), .int vg1], (0, 0), ks i a q r) (by rfl) ?_
  refine ko_if mi_in47 (vg1 == (-1)) 19 10 ([(2, .int vg1), (0, .ref 98), (1, .ref (mi_RO + 12))], [], (0, 0), ks i a q r) (by rfl) (fun c => ?_) (fun c => ?_)
  ·
    have c3 : vg1.toInt = ((-1) : Int32).toInt := kd_eq c; clear c
    refine ko_steps mi_in47 1 _ (20, [(2, .int vg1), (0, .ref 98), (1, .ref (mi_RO + 12))], [.int (-1)], (0, 0), ks i a q r) (by rfl) ?_
    exact ko_ret mi_in47 (by rfl) (hP (-1) _ _ _ _ hG trivial)
  ·
    have c4 : vg1.toInt ≠ ((-1) : Int32).toInt := kd_eqF c; clear c
    refine ko_steps mi_in47 3 _ (13, [(2, .int vg1), (0, .ref 98), (1, .ref (mi_RO + 12))], [.int ((vg1.toUInt32 % 65536).toInt32), .ref (mi_RO + 12)], (0, 0), ks i a q r) (by rfl) ?_
    refine ko_callPI mi_in47 (pc := 13) (ls := [(2, .int vg1), (0, .ref 98), (1, .ref (mi_RO + 12))]) (st := [.int ((vg1.toUInt32 % 65536).toInt32), .ref (mi_RO + 12)]) (h := ks i a q r) (i := (.invokevirtual 50, 3, 228, 0, 9, 0, 190)) (by rfl) (by rfl) (cy := mi_c228) rfl rfl (kc228_S12 hG.I hG.R ((vg1.toUInt32 % 65536).toInt32)) (by decide) ?_
    intro vg5 hg5
    refine ko_if mi_in47 (decide (0 ≤ vg5)) 21 19 ([(2, .int vg1), (0, .ref 98), (1, .ref (mi_RO + 12))], [], (0, 0), ks i a q r) (by rfl) (fun c => ?_) (fun c => ?_)
    ·
      have c6 : (0 : Int32).toInt ≤ vg5.toInt := kd_le c; clear c
      have s7 : ((i 6274) + 1).toInt = (i 6274).toInt + (1 : Int32).toInt := kd_add (oz12 fi_6274.1 kn1) (oz192 fi_6274.2 kn1)
      have hJ8 := kG_i hG 6274 rfl (v := ((i 6274) + 1)) ⟨(oz14 fi_6274.1 s7 kn1), (oz921 c4 fi_6273.2 s7 z2 knm1 kn1)⟩
      refine ko_steps mi_in47 7 _ (32, [(2, .int vg1), (0, .ref 98), (1, .ref (mi_RO + 12))], [.int vg1], (0, 0), ks (ku i 6274 ((i 6274) + 1)) a q r) (by rfl) ?_
      exact ko_ret mi_in47 (by rfl) (hP vg1 _ _ _ _ hJ8 trivial)
    ·
      have c9 : vg5.toInt < (0 : Int32).toInt := kd_leF c; clear c
      refine ko_steps mi_in47 1 _ (20, [(2, .int vg1), (0, .ref 98), (1, .ref (mi_RO + 12))], [.int (-1)], (0, 0), ks i a q r) (by rfl) ?_
      exact ko_ret mi_in47 (by rfl) (hP (-1) _ _ _ _ hG trivial)
set_option maxRecDepth 100000 in
theorem kc231_S13 {i : Nat → Int32} {a : Nat → List Int32} {q : Nat → List Int64} {r : Nat → Nat} (hI : kI i a q) (hr : kr r)  : km 1 231 [.ref (mi_RO + 13)] (ks i a q r) (kPI (ks i a q r) (fun v => (v = 1 ∧ (True)) ∨ (v = 0 ∧ ((2 : Int) ≤ 1)))) := by
  have hG := kG_self kW0 hI hr
  refine km_ofPI (q := (mi_h231, mi_c231)) rfl (by decide) (Nat.le_of_ble_eq_true rfl) ?_
  intro P hP
  refine ko_steps mi_in231 7 _ (18, [(0, .ref (mi_RO + 13))], [.int 1], (0, 0), ks i a q r) (by rfl) ?_
  exact ko_ret mi_in231 (by rfl) (hP 1 (Or.inl ⟨rfl, trivial⟩))
set_option maxRecDepth 100000 in
theorem kc230_S13 {i : Nat → Int32} {a : Nat → List Int32} {q : Nat → List Int64} {r : Nat → Nat} (hI : kI i a q) (hr : kr r)  : km 1 230 [.ref (mi_RO + 13)] (ks i a q r) (kPI (ks i a q r) (fun v => True)) := by
  have hG := kG_self kW0 hI hr
  refine km_ofPI (q := (mi_h230, mi_c230)) rfl (by decide) (Nat.le_of_ble_eq_true rfl) ?_
  intro P hP
  refine ko_steps mi_in230 5 _ (14, [(0, .ref (mi_RO + 13))], [.int 0], (0, 0), ks i a q r) (by rfl) ?_
  exact ko_ret mi_in230 (by rfl) (hP 0 trivial)
set_option maxRecDepth 100000 in
theorem kc227_S13 {i : Nat → Int32} {a : Nat → List Int32} {q : Nat → List Int64} {r : Nat → Nat} (hI : kI i a q) (hr : kr r)  : km 3 227 [.ref (mi_RO + 13)] (ks i a q r) (kPI (ks i a q r) (fun v => True)) := by
  have hG := kG_self kW0 hI hr
  refine km_ofPI (q := (mi_h227, mi_c227)) rfl (by decide) (Nat.le_of_ble_eq_true rfl) ?_
  intro P hP
  refine ko_steps mi_in227 4 _ (6, [(0, .ref (mi_RO + 13))], [.ref (mi_RO + 13), .int 2], (0, 0), ks i a q r) (by rfl) ?_
  refine ko_callPI mi_in227 (pc := 6) (ls := [(0, .ref (mi_RO + 13))]) (st := [.ref (mi_RO + 13), .int 2]) (h := ks i a q r) (i := (.invokevirtual 335, 3, 230, 0, 9, 0, 32)) (by rfl) (by rfl) (cy := mi_c230) rfl rfl (kc230_S13 hG.I hG.R ) (by decide) ?_
  intro vg1 hg1
  refine ko_steps mi_in227 1 _ (10, [(0, .ref (mi_RO + 13))], [.int (2 >>> (vg1 &&& 31))], (0, 0), ks i a q r) (by rfl) ?_
  exact ko_ret mi_in227 (by rfl) (hP (2 >>> (vg1 &&& 31)) trivial)
set_option maxRecDepth 100000 in
theorem kc234_S23 {i : Nat → Int32} {a : Nat → List Int32} {q : Nat → List Int64} {r : Nat → Nat} (hI : kI i a q) (hr : kr r) (x2 : Int32) (x3 : Int32) (x4 : Int32) (hp0 : (0 : Int) ≤ x3.toInt) (hp1 : x4.toInt ≤ 2) : km 1 234 [.ref (mi_RO + 23), .int x2, .int x3, .int x4] (ks i a q r) (kPI (ks i a q r) (fun v => True)) := by
  have hG := kG_self kW0 hI hr
  refine km_ofPI (q := (mi_h234, mi_c234)) rfl (by decide) (Nat.le_of_ble_eq_true rfl) ?_
  intro P hP
  refine ko_steps mi_in234 5 _ (7, [(5, .int x3), (4, .int x2.toInt8.toInt32), (0, .ref (mi_RO + 23)), (1, .int x2), (2, .int x3), (3, .int x4)], [], (0, 0), ks i a q r) (by rfl) ?_
  have lp1 : ∀ (n : Nat) (l5_1 : Int32), (0 : Int) ≤ l5_1.toInt → ((x4.toInt - l5_1.toInt)).toNat < n → ko 1 (mi_h234, mi_c234) P (7, [(5, .int l5_1), (4, .int x2.toInt8.toInt32), (0, .ref (mi_RO + 23)), (1, .int x2), (2, .int x3), (3, .int x4)], [], (0, 0), ks i a q r) := by
    intro n
    induction n with
    | zero =>
      intro _ _ hm
      exact absurd hm (Nat.not_lt_zero _)
    | succ n ih1 =>
      intro l5_1 p1_0 hm1
      refine ko_steps mi_in234 2 _ (10, [(5, .int l5_1), (4, .int x2.toInt8.toInt32), (0, .ref (mi_RO + 23)), (1, .int x2), (2, .int x3), (3, .int x4)], [.int x4, .int l5_1], (0, 0), ks i a q r) (by rfl) ?_
      refine ko_if mi_in234 (decide (x4 ≤ l5_1)) 31 13 ([(5, .int l5_1), (4, .int x2.toInt8.toInt32), (0, .ref (mi_RO + 23)), (1, .int x2), (2, .int x3), (3, .int x4)], [], (0, 0), ks i a q r) (by rfl) (fun c => ?_) (fun c => ?_)
      ·
        have c2 : x4.toInt ≤ l5_1.toInt := kd_le c; clear c
        refine ko_steps mi_in234 1 _ (32, [(5, .int l5_1), (4, .int x2.toInt8.toInt32), (0, .ref (mi_RO + 23)), (1, .int x2), (2, .int x3), (3, .int x4)], [.int (-1)], (0, 0), ks i a q r) (by rfl) ?_
        exact ko_ret mi_in234 (by rfl) (hP (-1) trivial)
      ·
        have c3 : l5_1.toInt < x4.toInt := kd_leF c; clear c
        refine ko_steps mi_in234 2 _ (16, [(5, .int l5_1), (4, .int x2.toInt8.toInt32), (0, .ref (mi_RO + 23)), (1, .int x2), (2, .int x3), (3, .int x4)], [.int l5_1, .ref (mi_RO + 23)], (0, 0), ks i a q r) (by rfl) ?_
        refine ko_baro2 mi_in234 (l := [43, 45]) (n := 2) (c := 2) (ax := (0, 0, 0, 0, 0)) (by rfl) (by rfl) (by rfl) rfl rfl (oz3 p1_0) (oz930 c3 hp1) ?_
        refine ko_steps mi_in234 1 _ (19, [(5, .int l5_1), (4, .int x2.toInt8.toInt32), (0, .ref (mi_RO + 23)), (1, .int x2), (2, .int x3), (3, .int x4)], [.int x2.toInt8.toInt32, .int (([43, 45] : List Int32).getD l5_1.toNatClampNeg 0)], (0, 0), ks i a q r) (by rfl) ?_
        refine ko_if mi_in234 ((([43, 45] : List Int32).getD l5_1.toNatClampNeg 0) != x2.toInt8.toInt32) 25 22 ([(5, .int l5_1), (4, .int x2.toInt8.toInt32), (0, .ref (mi_RO + 23)), (1, .int x2), (2, .int x3), (3, .int x4)], [], (0, 0), ks i a q r) (by rfl) (fun c => ?_) (fun c => ?_)
        ·
          have c4 : (([43, 45] : List Int32).getD l5_1.toNatClampNeg 0).toInt ≠ x2.toInt8.toInt32.toInt := kd_ne c; clear c
          have s5 : (l5_1 + 1).toInt = l5_1.toInt + (1 : Int32).toInt := kd_add (oz12 p1_0 kn1) (oz931 c3 hp1 kn1)
          refine ko_steps mi_in234 2 _ (7, [(5, .int (l5_1 + 1)), (4, .int x2.toInt8.toInt32), (0, .ref (mi_RO + 23)), (1, .int x2), (2, .int x3), (3, .int x4)], [], (0, 0), ks i a q r) (by rfl) ?_
          exact ih1 _ (oz14 p1_0 s5 kn1) (kj_meas (oz44 s5 kn1) (oz45 c3) hm1)
        ·
          have c6 : (([43, 45] : List Int32).getD l5_1.toNatClampNeg 0).toInt = x2.toInt8.toInt32.toInt := kd_neF c; clear c
          refine ko_steps mi_in234 1 _ (24, [(5, .int l5_1), (4, .int x2.toInt8.toInt32), (0, .ref (mi_RO + 23)), (1, .int x2), (2, .int x3), (3, .int x4)], [.int l5_1], (0, 0), ks i a q r) (by rfl) ?_
          exact ko_ret mi_in234 (by rfl) (hP l5_1 trivial)
  exact lp1 _ _ (oz3 hp0) (Nat.lt_succ_self _)
set_option maxRecDepth 100000 in
theorem kc233_S23 {i : Nat → Int32} {a : Nat → List Int32} {q : Nat → List Int64} {r : Nat → Nat} (hI : kI i a q) (hr : kr r) (x2 : Int32) (x3 : Int32) (x4 : Int32) : km 3 233 [.ref (mi_RO + 23), .int x2, .int x3, .int x4] (ks i a q r) (kPI (ks i a q r) (fun v => True)) := by
  have hG := kG_self kW0 hI hr
  refine km_ofPI (q := (mi_h233, mi_c233)) rfl (by decide) (Nat.le_of_ble_eq_true rfl) ?_
  intro P hP
  refine ko_steps mi_in233 1 _ (1, [(0, .ref (mi_RO + 23)), (1, .int x2), (2, .int x3), (3, .int x4)], [.int x2], (0, 0), ks i a q r) (by rfl) ?_
  refine ko_callPI mi_in233 (pc := 1) (ls := [(0, .ref (mi_RO + 23)), (1, .int x2), (2, .int x3), (3, .int x4)]) (st := [.int x2]) (h := ks i a q r) (i := (.invokestatic 88, 3, 232, 0, 9, 0, 195)) (by rfl) (by rfl) (cy := mi_c232) rfl rfl (kc232 hG.I hG.R x2) (by decide) ?_
  intro vg1 hg1
  rcases hg1 with ⟨eg1, hg1⟩ | ⟨eg1, hg1⟩
  ·
    subst eg1
    refine ko_steps mi_in233 3 _ (11, [(0, .ref (mi_RO + 23)), (1, .int x2), (2, .int x3), (3, .int x4)], [.int 0, .int x3], (0, 0), ks i a q r) (by rfl) ?_
    have m3 : ((x3.toInt ≤ (bif decide (x3 < 0) then 0 else x3).toInt) ∧ ((0 : Int32).toInt ≤ (bif decide (x3 < 0) then 0 else x3).toInt)) ∧ ((bif decide (x3 < 0) then 0 else x3).toInt = x3.toInt ∨ (bif decide (x3 < 0) then 0 else x3).toInt = (0 : Int32).toInt) := kd_max
    refine ko_steps mi_in233 1 _ (14, [(0, .ref (mi_RO + 23)), (1, .int x2), (2, .int x3), (3, .int x4)], [.int (bif decide (x3 < 0) then 0 else x3)], (0, 0), ks i a q r) (by rfl) ?_
    generalize (bif decide (x3 < 0) then 0 else x3) = m2 at m3 ⊢
    refine ko_steps mi_in233 4 _ (18, [(2, .int m2), (0, .ref (mi_RO + 23)), (1, .int x2), (3, .int x4)], [.int 2, .int x4], (0, 0), ks i a q r) (by rfl) ?_
    have m5 : (((bif decide (2 < x4) then 2 else x4).toInt ≤ x4.toInt) ∧ ((bif decide (2 < x4) then 2 else x4).toInt ≤ (2 : Int32).toInt)) ∧ ((bif decide (2 < x4) then 2 else x4).toInt = x4.toInt ∨ (bif decide (2 < x4) then 2 else x4).toInt = (2 : Int32).toInt) := kd_min
    refine ko_steps mi_in233 1 _ (21, [(2, .int m2), (0, .ref (mi_RO + 23)), (1, .int x2), (3, .int x4)], [.int (bif decide (2 < x4) then 2 else x4)], (0, 0), ks i a q r) (by rfl) ?_
    generalize (bif decide (2 < x4) then 2 else x4) = m4 at m5 ⊢
    refine ko_steps mi_in233 3 _ (24, [(3, .int m4), (2, .int m2), (0, .ref (mi_RO + 23)), (1, .int x2)], [.int m4, .int m2], (0, 0), ks i a q r) (by rfl) ?_
    refine ko_if mi_in233 (decide (m2 < m4)) 29 27 ([(3, .int m4), (2, .int m2), (0, .ref (mi_RO + 23)), (1, .int x2)], [], (0, 0), ks i a q r) (by rfl) (fun c => ?_) (fun c => ?_)
    ·
      have c6 : m2.toInt < m4.toInt := kd_lt c; clear c
      refine ko_steps mi_in233 4 _ (33, [(3, .int m4), (2, .int m2), (0, .ref (mi_RO + 23)), (1, .int x2)], [.int m4, .int m2, .int x2, .ref (mi_RO + 23)], (0, 0), ks i a q r) (by rfl) ?_
      refine ko_callPI mi_in233 (pc := 33) (ls := [(3, .int m4), (2, .int m2), (0, .ref (mi_RO + 23)), (1, .int x2)]) (st := [.int m4, .int m2, .int x2, .ref (mi_RO + 23)]) (h := ks i a q r) (i := (.invokestatic 95, 3, 234, 0, 9, 0, 198)) (by rfl) (by rfl) (cy := mi_c234) rfl rfl (kc234_S23 hG.I hG.R x2 m2 m4 (oz389 m3.1.2 kn0) (oz932 m5.1.2 kn2)) (by decide) ?_
      intro vg7 hg7
      exact ko_ret mi_in233 (by rfl) (hP vg7 trivial)
    ·
      have c8 : m4.toInt ≤ m2.toInt := kd_ltF c; clear c
      refine ko_steps mi_in233 1 _ (28, [(3, .int m4), (2, .int m2), (0, .ref (mi_RO + 23)), (1, .int x2)], [.int (-1)], (0, 0), ks i a q r) (by rfl) ?_
      exact ko_ret mi_in233 (by rfl) (hP (-1) trivial)
  ·
    subst eg1
    refine ko_steps mi_in233 2 _ (8, [(0, .ref (mi_RO + 23)), (1, .int x2), (2, .int x3), (3, .int x4)], [.int (-1)], (0, 0), ks i a q r) (by rfl) ?_
    exact ko_ret mi_in233 (by rfl) (hP (-1) trivial)
set_option maxRecDepth 100000 in
theorem kc229_S13 {i : Nat → Int32} {a : Nat → List Int32} {q : Nat → List Int64} {r : Nat → Nat} (hI : kI i a q) (hr : kr r) (x1 : Int32) (x2 : Int32) : km 5 229 [.ref (mi_RO + 13), .int x1, .int x2] (ks i a q r) (kPI (ks i a q r) (fun v => True)) := by
  have hG := kG_self kW0 hI hr
  refine km_ofPI (q := (mi_h229, mi_c229)) rfl (by decide) (Nat.le_of_ble_eq_true rfl) ?_
  intro P hP
  refine ko_steps mi_in229 1 _ (1, [(0, .ref (mi_RO + 13)), (1, .int x1), (2, .int x2)], [.ref (mi_RO + 13)], (0, 0), ks i a q r) (by rfl) ?_
  refine ko_callPI mi_in229 (pc := 1) (ls := [(0, .ref (mi_RO + 13)), (1, .int x1), (2, .int x2)]) (st := [.ref (mi_RO + 13)]) (h := ks i a q r) (i := (.invokevirtual 492, 3, 231, 0, 9, 0, 192)) (by rfl) (by rfl) (cy := mi_c231) rfl rfl (kc231_S13 hG.I hG.R ) (by decide) ?_
  intro vg1 hg1
  rcases hg1 with ⟨eg1, hg1⟩ | ⟨eg1, hg1⟩
  ·
    subst eg1
    refine ko_steps mi_in229 6 _ (14, [(0, .ref (mi_RO + 13)), (1, .int x1), (2, .int x2)], [.ref (mi_RO + 13), .int x2, .int x1, .ref (mi_RO + 23)], (0, 0), ks i a q r) (by rfl) ?_
    refine ko_callPI mi_in229 (pc := 14) (ls := [(0, .ref (mi_RO + 13)), (1, .int x1), (2, .int x2)]) (st := [.ref (mi_RO + 13), .int x2, .int x1, .ref (mi_RO + 23)]) (h := ks i a q r) (i := (.invokevirtual 505, 3, 227, 0, 9, 0, 193)) (by rfl) (by rfl) (cy := mi_c227) rfl rfl (kc227_S13 hG.I hG.R ) (by decide) ?_
    intro vg2 hg2
    refine ko_callPI mi_in229 (pc := 17) (ls := [(0, .ref (mi_RO + 13)), (1, .int x1), (2, .int x2)]) (st := [.int vg2, .int x2, .int x1, .ref (mi_RO + 23)]) (h := ks i a q r) (i := (.invokestatic 637, 3, 233, 0, 9, 0, 194)) (by rfl) (by rfl) (cy := mi_c233) rfl rfl (kc233_S23 hG.I hG.R x1 x2 vg2) (by decide) ?_
    intro vg3 hg3
    refine ko_steps mi_in229 1 _ (36, [(0, .ref (mi_RO + 13)), (1, .int x1), (2, .int x2)], [.int vg3], (0, 0), ks i a q r) (by rfl) ?_
    exact ko_ret mi_in229 (by rfl) (hP vg3 trivial)
  ·
    subst eg1
    have z4 : (2 : Int) ≤ 1 := hg1
    exact (oz755 z4).elim
set_option maxRecDepth 100000 in
theorem kc228_S13 {i : Nat → Int32} {a : Nat → List Int32} {q : Nat → List Int64} {r : Nat → Nat} (hI : kI i a q) (hr : kr r) (x1 : Int32) : km 7 228 [.ref (mi_RO + 13), .int x1] (ks i a q r) (kPI (ks i a q r) (fun v => True)) := by
  have hG := kG_self kW0 hI hr
  refine km_ofPI (q := (mi_h228, mi_c228)) rfl (by decide) (Nat.le_of_ble_eq_true rfl) ?_
  intro P hP
  refine ko_steps mi_in228 3 _ (3, [(0, .ref (mi_RO + 13)), (1, .int x1)], [.int 0, .int x1, .ref (mi_RO + 13)], (0, 0), ks i a q r) (by rfl) ?_
  refine ko_callPI mi_in228 (pc := 3) (ls := [(0, .ref (mi_RO + 13)), (1, .int x1)]) (st := [.int 0, .int x1, .ref (mi_RO + 13)]) (h := ks i a q r) (i := (.invokevirtual 633, 3, 229, 0, 9, 0, 191)) (by rfl) (by rfl) (cy := mi_c229) rfl rfl (kc229_S13 hG.I hG.R x1 0) (by decide) ?_
  intro vg1 hg1
  exact ko_ret mi_in228 (by rfl) (hP vg1 trivial)
def w47_98_S13 : kW := ([6274], [], [], [])
set_option maxRecDepth 100000 in
theorem kc47_98_S13 {i : Nat → Int32} {a : Nat → List Int32} {q : Nat → List Int64} {r : Nat → Nat} (hI : kI i a q) (hr : kr r)  : km 9 47 [.ref 98, .ref (mi_RO + 13)] (ks i a q r) (kVI w47_98_S13 i a q r (fun v i1 a1 q1 r1 => True)) := by
  have hG := kG_self w47_98_S13 hI hr
  refine km_ofI (q := (mi_h47, mi_c47)) rfl (by decide) (Nat.le_of_ble_eq_true rfl) ?_
  intro P hP
  refine ko_steps mi_in47 1 _ (1, [(0, .ref 98), (1, .ref (mi_RO + 13))], [.ref 98], (0, 0), ks i a q r) (by rfl) ?_
  refine ko_callPI mi_in47 (pc := 1) (ls := [(0, .ref 98), (1, .ref (mi_RO + 13))]) (st := [.ref 98]) (h := ks i a q r) (i := (.invokevirtual 46, 3, 45, 0, 9, 0, 184)) (by rfl) (by rfl) (cy := mi_c45) rfl rfl (kc45_98 hG.I hG.R ) (by decide) ?_
  intro vg1 hg1
  have fi_6274 : ((0 : Int) ≤ (i 6274).toInt) ∧ ((i 6274).toInt ≤ 120) := hG.I.1 6274
  have fi_6273 : ((0 : Int) ≤ (i 6273).toInt) ∧ ((i 6273).toInt ≤ 120) := hG.I.1 6273
  have z2 : (vg1.toInt = (-1)) ∨ ((i 6274).toInt < (i 6273).toInt) := hg1
  refine ko_steps mi_in47 3 _ (7, [(2, .int vg1), (0, .ref 98), (1, .ref (mi_RO + 13))], [.int (-1), .int vg1], (0, 0), ks i a q r) (by rfl) ?_
  refine ko_if mi_in47 (vg1 == (-1)) 19 10 ([(2, .int vg1), (0, .ref 98), (1, .ref (mi_RO + 13))], [], (0, 0), ks i a q r) (by rfl) (fun c => ?_) (fun c => ?_)
  ·
    have c3 : vg1.toInt = ((-1) : Int32).toInt := kd_eq c; clear c
    refine ko_steps mi_in47 1 _ (20, [(2, .int vg1), (0, .ref 98), (1, .ref (mi_RO + 13))], [.int (-1)], (0, 0), ks i a q r) (by rfl) ?_
    exact ko_ret mi_in47 (by rfl) (hP (-1) _ _ _ _ hG trivial)
  ·
    have c4 : vg1.toInt ≠ ((-1) : Int32).toInt := kd_eqF c; clear c
    refine ko_steps mi_in47 3 _ (13, [(2, .int vg1), (0, .ref 98), (1, .ref (mi_RO + 13))], [.int ((vg1.toUInt32 % 65536).toInt32), .ref (mi_RO + 13)], (0, 0), ks i a q r) (by rfl) ?_
    refine ko_callPI mi_in47 (pc := 13) (ls := [(2, .int vg1), (0, .ref 98), (1, .ref (mi_RO + 13))]) (st := [.int ((vg1.toUInt32 % 65536).toInt32), .ref (mi_RO + 13)]) (h := ks i a q r) (i := (.invokevirtual 50, 3, 228, 0, 9, 0, 190)) (by rfl) (by rfl) (cy := mi_c228) rfl rfl (kc228_S13 hG.I hG.R ((vg1.toUInt32 % 65536).toInt32)) (by decide) ?_
    intro vg5 hg5
    refine ko_if mi_in47 (decide (0 ≤ vg5)) 21 19 ([(2, .int vg1), (0, .ref 98), (1, .ref (mi_RO + 13))], [], (0, 0), ks i a q r) (by rfl) (fun c => ?_) (fun c => ?_)
    ·
      have c6 : (0 : Int32).toInt ≤ vg5.toInt := kd_le c; clear c
      have s7 : ((i 6274) + 1).toInt = (i 6274).toInt + (1 : Int32).toInt := kd_add (oz12 fi_6274.1 kn1) (oz192 fi_6274.2 kn1)
      have hJ8 := kG_i hG 6274 rfl (v := ((i 6274) + 1)) ⟨(oz14 fi_6274.1 s7 kn1), (oz921 c4 fi_6273.2 s7 z2 knm1 kn1)⟩
      refine ko_steps mi_in47 7 _ (32, [(2, .int vg1), (0, .ref 98), (1, .ref (mi_RO + 13))], [.int vg1], (0, 0), ks (ku i 6274 ((i 6274) + 1)) a q r) (by rfl) ?_
      exact ko_ret mi_in47 (by rfl) (hP vg1 _ _ _ _ hJ8 trivial)
    ·
      have c9 : vg5.toInt < (0 : Int32).toInt := kd_leF c; clear c
      refine ko_steps mi_in47 1 _ (20, [(2, .int vg1), (0, .ref 98), (1, .ref (mi_RO + 13))], [.int (-1)], (0, 0), ks i a q r) (by rfl) ?_
      exact ko_ret mi_in47 (by rfl) (hP (-1) _ _ _ _ hG trivial)
set_option maxRecDepth 100000 in
theorem kc231_S14 {i : Nat → Int32} {a : Nat → List Int32} {q : Nat → List Int64} {r : Nat → Nat} (hI : kI i a q) (hr : kr r)  : km 1 231 [.ref (mi_RO + 14)] (ks i a q r) (kPI (ks i a q r) (fun v => (v = 1 ∧ (True)) ∨ (v = 0 ∧ ((2 : Int) ≤ 1)))) := by
  have hG := kG_self kW0 hI hr
  refine km_ofPI (q := (mi_h231, mi_c231)) rfl (by decide) (Nat.le_of_ble_eq_true rfl) ?_
  intro P hP
  refine ko_steps mi_in231 7 _ (18, [(0, .ref (mi_RO + 14))], [.int 1], (0, 0), ks i a q r) (by rfl) ?_
  exact ko_ret mi_in231 (by rfl) (hP 1 (Or.inl ⟨rfl, trivial⟩))
set_option maxRecDepth 100000 in
theorem kc230_S14 {i : Nat → Int32} {a : Nat → List Int32} {q : Nat → List Int64} {r : Nat → Nat} (hI : kI i a q) (hr : kr r)  : km 1 230 [.ref (mi_RO + 14)] (ks i a q r) (kPI (ks i a q r) (fun v => True)) := by
  have hG := kG_self kW0 hI hr
  refine km_ofPI (q := (mi_h230, mi_c230)) rfl (by decide) (Nat.le_of_ble_eq_true rfl) ?_
  intro P hP
  refine ko_steps mi_in230 5 _ (14, [(0, .ref (mi_RO + 14))], [.int 0], (0, 0), ks i a q r) (by rfl) ?_
  exact ko_ret mi_in230 (by rfl) (hP 0 trivial)
set_option maxRecDepth 100000 in
theorem kc227_S14 {i : Nat → Int32} {a : Nat → List Int32} {q : Nat → List Int64} {r : Nat → Nat} (hI : kI i a q) (hr : kr r)  : km 3 227 [.ref (mi_RO + 14)] (ks i a q r) (kPI (ks i a q r) (fun v => True)) := by
  have hG := kG_self kW0 hI hr
  refine km_ofPI (q := (mi_h227, mi_c227)) rfl (by decide) (Nat.le_of_ble_eq_true rfl) ?_
  intro P hP
  refine ko_steps mi_in227 4 _ (6, [(0, .ref (mi_RO + 14))], [.ref (mi_RO + 14), .int 3], (0, 0), ks i a q r) (by rfl) ?_
  refine ko_callPI mi_in227 (pc := 6) (ls := [(0, .ref (mi_RO + 14))]) (st := [.ref (mi_RO + 14), .int 3]) (h := ks i a q r) (i := (.invokevirtual 335, 3, 230, 0, 9, 0, 32)) (by rfl) (by rfl) (cy := mi_c230) rfl rfl (kc230_S14 hG.I hG.R ) (by decide) ?_
  intro vg1 hg1
  refine ko_steps mi_in227 1 _ (10, [(0, .ref (mi_RO + 14))], [.int (3 >>> (vg1 &&& 31))], (0, 0), ks i a q r) (by rfl) ?_
  exact ko_ret mi_in227 (by rfl) (hP (3 >>> (vg1 &&& 31)) trivial)
set_option maxRecDepth 100000 in
theorem kc234_S24 {i : Nat → Int32} {a : Nat → List Int32} {q : Nat → List Int64} {r : Nat → Nat} (hI : kI i a q) (hr : kr r) (x2 : Int32) (x3 : Int32) (x4 : Int32) (hp0 : (0 : Int) ≤ x3.toInt) (hp1 : x4.toInt ≤ 3) : km 1 234 [.ref (mi_RO + 24), .int x2, .int x3, .int x4] (ks i a q r) (kPI (ks i a q r) (fun v => True)) := by
  have hG := kG_self kW0 hI hr
  refine km_ofPI (q := (mi_h234, mi_c234)) rfl (by decide) (Nat.le_of_ble_eq_true rfl) ?_
  intro P hP
  refine ko_steps mi_in234 5 _ (7, [(5, .int x3), (4, .int x2.toInt8.toInt32), (0, .ref (mi_RO + 24)), (1, .int x2), (2, .int x3), (3, .int x4)], [], (0, 0), ks i a q r) (by rfl) ?_
  have lp1 : ∀ (n : Nat) (l5_1 : Int32), (0 : Int) ≤ l5_1.toInt → ((x4.toInt - l5_1.toInt)).toNat < n → ko 1 (mi_h234, mi_c234) P (7, [(5, .int l5_1), (4, .int x2.toInt8.toInt32), (0, .ref (mi_RO + 24)), (1, .int x2), (2, .int x3), (3, .int x4)], [], (0, 0), ks i a q r) := by
    intro n
    induction n with
    | zero =>
      intro _ _ hm
      exact absurd hm (Nat.not_lt_zero _)
    | succ n ih1 =>
      intro l5_1 p1_0 hm1
      refine ko_steps mi_in234 2 _ (10, [(5, .int l5_1), (4, .int x2.toInt8.toInt32), (0, .ref (mi_RO + 24)), (1, .int x2), (2, .int x3), (3, .int x4)], [.int x4, .int l5_1], (0, 0), ks i a q r) (by rfl) ?_
      refine ko_if mi_in234 (decide (x4 ≤ l5_1)) 31 13 ([(5, .int l5_1), (4, .int x2.toInt8.toInt32), (0, .ref (mi_RO + 24)), (1, .int x2), (2, .int x3), (3, .int x4)], [], (0, 0), ks i a q r) (by rfl) (fun c => ?_) (fun c => ?_)
      ·
        have c2 : x4.toInt ≤ l5_1.toInt := kd_le c; clear c
        refine ko_steps mi_in234 1 _ (32, [(5, .int l5_1), (4, .int x2.toInt8.toInt32), (0, .ref (mi_RO + 24)), (1, .int x2), (2, .int x3), (3, .int x4)], [.int (-1)], (0, 0), ks i a q r) (by rfl) ?_
        exact ko_ret mi_in234 (by rfl) (hP (-1) trivial)
      ·
        have c3 : l5_1.toInt < x4.toInt := kd_leF c; clear c
        refine ko_steps mi_in234 2 _ (16, [(5, .int l5_1), (4, .int x2.toInt8.toInt32), (0, .ref (mi_RO + 24)), (1, .int x2), (2, .int x3), (3, .int x4)], [.int l5_1, .ref (mi_RO + 24)], (0, 0), ks i a q r) (by rfl) ?_
        refine ko_baro2 mi_in234 (l := [60, 61, 62]) (n := 3) (c := 3) (ax := (0, 0, 0, 0, 0)) (by rfl) (by rfl) (by rfl) rfl rfl (oz3 p1_0) (oz922 c3 hp1) ?_
        refine ko_steps mi_in234 1 _ (19, [(5, .int l5_1), (4, .int x2.toInt8.toInt32), (0, .ref (mi_RO + 24)), (1, .int x2), (2, .int x3), (3, .int x4)], [.int x2.toInt8.toInt32, .int (([60, 61, 62] : List Int32).getD l5_1.toNatClampNeg 0)], (0, 0), ks i a q r) (by rfl) ?_
        refine ko_if mi_in234 ((([60, 61, 62] : List Int32).getD l5_1.toNatClampNeg 0) != x2.toInt8.toInt32) 25 22 ([(5, .int l5_1), (4, .int x2.toInt8.toInt32), (0, .ref (mi_RO + 24)), (1, .int x2), (2, .int x3), (3, .int x4)], [], (0, 0), ks i a q r) (by rfl) (fun c => ?_) (fun c => ?_)
        ·
          have c4 : (([60, 61, 62] : List Int32).getD l5_1.toNatClampNeg 0).toInt ≠ x2.toInt8.toInt32.toInt := kd_ne c; clear c
          have s5 : (l5_1 + 1).toInt = l5_1.toInt + (1 : Int32).toInt := kd_add (oz12 p1_0 kn1) (oz923 c3 hp1 kn1)
          refine ko_steps mi_in234 2 _ (7, [(5, .int (l5_1 + 1)), (4, .int x2.toInt8.toInt32), (0, .ref (mi_RO + 24)), (1, .int x2), (2, .int x3), (3, .int x4)], [], (0, 0), ks i a q r) (by rfl) ?_
          exact ih1 _ (oz14 p1_0 s5 kn1) (kj_meas (oz44 s5 kn1) (oz45 c3) hm1)
        ·
          have c6 : (([60, 61, 62] : List Int32).getD l5_1.toNatClampNeg 0).toInt = x2.toInt8.toInt32.toInt := kd_neF c; clear c
          refine ko_steps mi_in234 1 _ (24, [(5, .int l5_1), (4, .int x2.toInt8.toInt32), (0, .ref (mi_RO + 24)), (1, .int x2), (2, .int x3), (3, .int x4)], [.int l5_1], (0, 0), ks i a q r) (by rfl) ?_
          exact ko_ret mi_in234 (by rfl) (hP l5_1 trivial)
  exact lp1 _ _ (oz3 hp0) (Nat.lt_succ_self _)
set_option maxRecDepth 100000 in
theorem kc233_S24 {i : Nat → Int32} {a : Nat → List Int32} {q : Nat → List Int64} {r : Nat → Nat} (hI : kI i a q) (hr : kr r) (x2 : Int32) (x3 : Int32) (x4 : Int32) : km 3 233 [.ref (mi_RO + 24), .int x2, .int x3, .int x4] (ks i a q r) (kPI (ks i a q r) (fun v => True)) := by
  have hG := kG_self kW0 hI hr
  refine km_ofPI (q := (mi_h233, mi_c233)) rfl (by decide) (Nat.le_of_ble_eq_true rfl) ?_
  intro P hP
  refine ko_steps mi_in233 1 _ (1, [(0, .ref (mi_RO + 24)), (1, .int x2), (2, .int x3), (3, .int x4)], [.int x2], (0, 0), ks i a q r) (by rfl) ?_
  refine ko_callPI mi_in233 (pc := 1) (ls := [(0, .ref (mi_RO + 24)), (1, .int x2), (2, .int x3), (3, .int x4)]) (st := [.int x2]) (h := ks i a q r) (i := (.invokestatic 88, 3, 232, 0, 9, 0, 195)) (by rfl) (by rfl) (cy := mi_c232) rfl rfl (kc232 hG.I hG.R x2) (by decide) ?_
  intro vg1 hg1
  rcases hg1 with ⟨eg1, hg1⟩ | ⟨eg1, hg1⟩
  ·
    subst eg1
    refine ko_steps mi_in233 3 _ (11, [(0, .ref (mi_RO + 24)), (1, .int x2), (2, .int x3), (3, .int x4)], [.int 0, .int x3], (0, 0), ks i a q r) (by rfl) ?_
    have m3 : ((x3.toInt ≤ (bif decide (x3 < 0) then 0 else x3).toInt) ∧ ((0 : Int32).toInt ≤ (bif decide (x3 < 0) then 0 else x3).toInt)) ∧ ((bif decide (x3 < 0) then 0 else x3).toInt = x3.toInt ∨ (bif decide (x3 < 0) then 0 else x3).toInt = (0 : Int32).toInt) := kd_max
    refine ko_steps mi_in233 1 _ (14, [(0, .ref (mi_RO + 24)), (1, .int x2), (2, .int x3), (3, .int x4)], [.int (bif decide (x3 < 0) then 0 else x3)], (0, 0), ks i a q r) (by rfl) ?_
    generalize (bif decide (x3 < 0) then 0 else x3) = m2 at m3 ⊢
    refine ko_steps mi_in233 4 _ (18, [(2, .int m2), (0, .ref (mi_RO + 24)), (1, .int x2), (3, .int x4)], [.int 3, .int x4], (0, 0), ks i a q r) (by rfl) ?_
    have m5 : (((bif decide (3 < x4) then 3 else x4).toInt ≤ x4.toInt) ∧ ((bif decide (3 < x4) then 3 else x4).toInt ≤ (3 : Int32).toInt)) ∧ ((bif decide (3 < x4) then 3 else x4).toInt = x4.toInt ∨ (bif decide (3 < x4) then 3 else x4).toInt = (3 : Int32).toInt) := kd_min
    refine ko_steps mi_in233 1 _ (21, [(2, .int m2), (0, .ref (mi_RO + 24)), (1, .int x2), (3, .int x4)], [.int (bif decide (3 < x4) then 3 else x4)], (0, 0), ks i a q r) (by rfl) ?_
    generalize (bif decide (3 < x4) then 3 else x4) = m4 at m5 ⊢
    refine ko_steps mi_in233 3 _ (24, [(3, .int m4), (2, .int m2), (0, .ref (mi_RO + 24)), (1, .int x2)], [.int m4, .int m2], (0, 0), ks i a q r) (by rfl) ?_
    refine ko_if mi_in233 (decide (m2 < m4)) 29 27 ([(3, .int m4), (2, .int m2), (0, .ref (mi_RO + 24)), (1, .int x2)], [], (0, 0), ks i a q r) (by rfl) (fun c => ?_) (fun c => ?_)
    ·
      have c6 : m2.toInt < m4.toInt := kd_lt c; clear c
      refine ko_steps mi_in233 4 _ (33, [(3, .int m4), (2, .int m2), (0, .ref (mi_RO + 24)), (1, .int x2)], [.int m4, .int m2, .int x2, .ref (mi_RO + 24)], (0, 0), ks i a q r) (by rfl) ?_
      refine ko_callPI mi_in233 (pc := 33) (ls := [(3, .int m4), (2, .int m2), (0, .ref (mi_RO + 24)), (1, .int x2)]) (st := [.int m4, .int m2, .int x2, .ref (mi_RO + 24)]) (h := ks i a q r) (i := (.invokestatic 95, 3, 234, 0, 9, 0, 198)) (by rfl) (by rfl) (cy := mi_c234) rfl rfl (kc234_S24 hG.I hG.R x2 m2 m4 (oz389 m3.1.2 kn0) (oz924 m5.1.2 kn3)) (by decide) ?_
      intro vg7 hg7
      exact ko_ret mi_in233 (by rfl) (hP vg7 trivial)
    ·
      have c8 : m4.toInt ≤ m2.toInt := kd_ltF c; clear c
      refine ko_steps mi_in233 1 _ (28, [(3, .int m4), (2, .int m2), (0, .ref (mi_RO + 24)), (1, .int x2)], [.int (-1)], (0, 0), ks i a q r) (by rfl) ?_
      exact ko_ret mi_in233 (by rfl) (hP (-1) trivial)
  ·
    subst eg1
    refine ko_steps mi_in233 2 _ (8, [(0, .ref (mi_RO + 24)), (1, .int x2), (2, .int x3), (3, .int x4)], [.int (-1)], (0, 0), ks i a q r) (by rfl) ?_
    exact ko_ret mi_in233 (by rfl) (hP (-1) trivial)
set_option maxRecDepth 100000 in
theorem kc229_S14 {i : Nat → Int32} {a : Nat → List Int32} {q : Nat → List Int64} {r : Nat → Nat} (hI : kI i a q) (hr : kr r) (x1 : Int32) (x2 : Int32) : km 5 229 [.ref (mi_RO + 14), .int x1, .int x2] (ks i a q r) (kPI (ks i a q r) (fun v => True)) := by
  have hG := kG_self kW0 hI hr
  refine km_ofPI (q := (mi_h229, mi_c229)) rfl (by decide) (Nat.le_of_ble_eq_true rfl) ?_
  intro P hP
  refine ko_steps mi_in229 1 _ (1, [(0, .ref (mi_RO + 14)), (1, .int x1), (2, .int x2)], [.ref (mi_RO + 14)], (0, 0), ks i a q r) (by rfl) ?_
  refine ko_callPI mi_in229 (pc := 1) (ls := [(0, .ref (mi_RO + 14)), (1, .int x1), (2, .int x2)]) (st := [.ref (mi_RO + 14)]) (h := ks i a q r) (i := (.invokevirtual 492, 3, 231, 0, 9, 0, 192)) (by rfl) (by rfl) (cy := mi_c231) rfl rfl (kc231_S14 hG.I hG.R ) (by decide) ?_
  intro vg1 hg1
  rcases hg1 with ⟨eg1, hg1⟩ | ⟨eg1, hg1⟩
  ·
    subst eg1
    refine ko_steps mi_in229 6 _ (14, [(0, .ref (mi_RO + 14)), (1, .int x1), (2, .int x2)], [.ref (mi_RO + 14), .int x2, .int x1, .ref (mi_RO + 24)], (0, 0), ks i a q r) (by rfl) ?_
    refine ko_callPI mi_in229 (pc := 14) (ls := [(0, .ref (mi_RO + 14)), (1, .int x1), (2, .int x2)]) (st := [.ref (mi_RO + 14), .int x2, .int x1, .ref (mi_RO + 24)]) (h := ks i a q r) (i := (.invokevirtual 505, 3, 227, 0, 9, 0, 193)) (by rfl) (by rfl) (cy := mi_c227) rfl rfl (kc227_S14 hG.I hG.R ) (by decide) ?_
    intro vg2 hg2
    refine ko_callPI mi_in229 (pc := 17) (ls := [(0, .ref (mi_RO + 14)), (1, .int x1), (2, .int x2)]) (st := [.int vg2, .int x2, .int x1, .ref (mi_RO + 24)]) (h := ks i a q r) (i := (.invokestatic 637, 3, 233, 0, 9, 0, 194)) (by rfl) (by rfl) (cy := mi_c233) rfl rfl (kc233_S24 hG.I hG.R x1 x2 vg2) (by decide) ?_
    intro vg3 hg3
    refine ko_steps mi_in229 1 _ (36, [(0, .ref (mi_RO + 14)), (1, .int x1), (2, .int x2)], [.int vg3], (0, 0), ks i a q r) (by rfl) ?_
    exact ko_ret mi_in229 (by rfl) (hP vg3 trivial)
  ·
    subst eg1
    have z4 : (2 : Int) ≤ 1 := hg1
    exact (oz755 z4).elim
set_option maxRecDepth 100000 in
theorem kc228_S14 {i : Nat → Int32} {a : Nat → List Int32} {q : Nat → List Int64} {r : Nat → Nat} (hI : kI i a q) (hr : kr r) (x1 : Int32) : km 7 228 [.ref (mi_RO + 14), .int x1] (ks i a q r) (kPI (ks i a q r) (fun v => True)) := by
  have hG := kG_self kW0 hI hr
  refine km_ofPI (q := (mi_h228, mi_c228)) rfl (by decide) (Nat.le_of_ble_eq_true rfl) ?_
  intro P hP
  refine ko_steps mi_in228 3 _ (3, [(0, .ref (mi_RO + 14)), (1, .int x1)], [.int 0, .int x1, .ref (mi_RO + 14)], (0, 0), ks i a q r) (by rfl) ?_
  refine ko_callPI mi_in228 (pc := 3) (ls := [(0, .ref (mi_RO + 14)), (1, .int x1)]) (st := [.int 0, .int x1, .ref (mi_RO + 14)]) (h := ks i a q r) (i := (.invokevirtual 633, 3, 229, 0, 9, 0, 191)) (by rfl) (by rfl) (cy := mi_c229) rfl rfl (kc229_S14 hG.I hG.R x1 0) (by decide) ?_
  intro vg1 hg1
  exact ko_ret mi_in228 (by rfl) (hP vg1 trivial)
def w47_98_S14 : kW := ([6274], [], [], [])
set_option maxRecDepth 100000 in
theorem kc47_98_S14 {i : Nat → Int32} {a : Nat → List Int32} {q : Nat → List Int64} {r : Nat → Nat} (hI : kI i a q) (hr : kr r)  : km 9 47 [.ref 98, .ref (mi_RO + 14)] (ks i a q r) (kVI w47_98_S14 i a q r (fun v i1 a1 q1 r1 => True)) := by
  have hG := kG_self w47_98_S14 hI hr
  refine km_ofI (q := (mi_h47, mi_c47)) rfl (by decide) (Nat.le_of_ble_eq_true rfl) ?_
  intro P hP
  refine ko_steps mi_in47 1 _ (1, [(0, .ref 98), (1, .ref (mi_RO + 14))], [.ref 98], (0, 0), ks i a q r) (by rfl) ?_
  refine ko_callPI mi_in47 (pc := 1) (ls := [(0, .ref 98), (1, .ref (mi_RO + 14))]) (st := [.ref 98]) (h := ks i a q r) (i := (.invokevirtual 46, 3, 45, 0, 9, 0, 184)) (by rfl) (by rfl) (cy := mi_c45) rfl rfl (kc45_98 hG.I hG.R ) (by decide) ?_
  intro vg1 hg1
  have fi_6274 : ((0 : Int) ≤ (i 6274).toInt) ∧ ((i 6274).toInt ≤ 120) := hG.I.1 6274
  have fi_6273 : ((0 : Int) ≤ (i 6273).toInt) ∧ ((i 6273).toInt ≤ 120) := hG.I.1 6273
  have z2 : (vg1.toInt = (-1)) ∨ ((i 6274).toInt < (i 6273).toInt) := hg1
  refine ko_steps mi_in47 3 _ (7, [(2, .int vg1), (0, .ref 98), (1, .ref (mi_RO + 14))], [.int (-1), .int vg1], (0, 0), ks i a q r) (by rfl) ?_
  refine ko_if mi_in47 (vg1 == (-1)) 19 10 ([(2, .int vg1), (0, .ref 98), (1, .ref (mi_RO + 14))], [], (0, 0), ks i a q r) (by rfl) (fun c => ?_) (fun c => ?_)
  ·
    have c3 : vg1.toInt = ((-1) : Int32).toInt := kd_eq c; clear c
    refine ko_steps mi_in47 1 _ (20, [(2, .int vg1), (0, .ref 98), (1, .ref (mi_RO + 14))], [.int (-1)], (0, 0), ks i a q r) (by rfl) ?_
    exact ko_ret mi_in47 (by rfl) (hP (-1) _ _ _ _ hG trivial)
  ·
    have c4 : vg1.toInt ≠ ((-1) : Int32).toInt := kd_eqF c; clear c
    refine ko_steps mi_in47 3 _ (13, [(2, .int vg1), (0, .ref 98), (1, .ref (mi_RO + 14))], [.int ((vg1.toUInt32 % 65536).toInt32), .ref (mi_RO + 14)], (0, 0), ks i a q r) (by rfl) ?_
    refine ko_callPI mi_in47 (pc := 13) (ls := [(2, .int vg1), (0, .ref 98), (1, .ref (mi_RO + 14))]) (st := [.int ((vg1.toUInt32 % 65536).toInt32), .ref (mi_RO + 14)]) (h := ks i a q r) (i := (.invokevirtual 50, 3, 228, 0, 9, 0, 190)) (by rfl) (by rfl) (cy := mi_c228) rfl rfl (kc228_S14 hG.I hG.R ((vg1.toUInt32 % 65536).toInt32)) (by decide) ?_
    intro vg5 hg5
    refine ko_if mi_in47 (decide (0 ≤ vg5)) 21 19 ([(2, .int vg1), (0, .ref 98), (1, .ref (mi_RO + 14))], [], (0, 0), ks i a q r) (by rfl) (fun c => ?_) (fun c => ?_)
    ·
      have c6 : (0 : Int32).toInt ≤ vg5.toInt := kd_le c; clear c
      have s7 : ((i 6274) + 1).toInt = (i 6274).toInt + (1 : Int32).toInt := kd_add (oz12 fi_6274.1 kn1) (oz192 fi_6274.2 kn1)
      have hJ8 := kG_i hG 6274 rfl (v := ((i 6274) + 1)) ⟨(oz14 fi_6274.1 s7 kn1), (oz921 c4 fi_6273.2 s7 z2 knm1 kn1)⟩
      refine ko_steps mi_in47 7 _ (32, [(2, .int vg1), (0, .ref 98), (1, .ref (mi_RO + 14))], [.int vg1], (0, 0), ks (ku i 6274 ((i 6274) + 1)) a q r) (by rfl) ?_
      exact ko_ret mi_in47 (by rfl) (hP vg1 _ _ _ _ hJ8 trivial)
    ·
      have c9 : vg5.toInt < (0 : Int32).toInt := kd_leF c; clear c
      refine ko_steps mi_in47 1 _ (20, [(2, .int vg1), (0, .ref 98), (1, .ref (mi_RO + 14))], [.int (-1)], (0, 0), ks i a q r) (by rfl) ?_
      exact ko_ret mi_in47 (by rfl) (hP (-1) _ _ _ _ hG trivial)
def wT : kW := ([643, 6274, 6275, 6403], [11, 12, 101, 102], [], [])
def kLT_54 (n : Nat) : Prop := ∀ (i : Nat → Int32) (a : Nat → List Int32) (q : Nat → List Int64) (r : Nat → Nat), kI i a q → kr r → ∀ (x1 : Int32), ((0 : Int) ≤ x1.toInt) ∧ ((x1.toInt + (n : Int)) = 6) → km (6 * n + 10) 54 [.ref 98, .int x1] (ks i a q r) (kVN wT i a q r (fun i1 a1 q1 r1 => True))
def w53_98_L14 : kW := ([643, 6274, 6275, 6403], [11, 12, 101, 102], [], [])
def kLT_53 (n : Nat) : Prop := ∀ (i : Nat → Int32) (a : Nat → List Int32) (q : Nat → List Int64) (r : Nat → Nat), kI i a q → kr r → ∀ (x1 : Int32), ((0 : Int) ≤ x1.toInt) ∧ ((x1.toInt + (n : Int)) = 6) → km (6 * n + 11) 53 [.ref 98, .int x1] (ks i a q r) (kVN wT i a q r (fun i1 a1 q1 r1 => True))
def w52_98_L14 : kW := ([643, 6274, 6275, 6403], [11, 12, 101, 102], [], [])
def kLT_52 (n : Nat) : Prop := ∀ (i : Nat → Int32) (a : Nat → List Int32) (q : Nat → List Int64) (r : Nat → Nat), kI i a q → kr r → ∀ (x1 : Int32), ((0 : Int) ≤ x1.toInt) ∧ ((x1.toInt + (n : Int)) = 6) → km (6 * n + 12) 52 [.ref 98, .int x1] (ks i a q r) (kVN wT i a q r (fun i1 a1 q1 r1 => True))
def kLT_51 (n : Nat) : Prop := ∀ (i : Nat → Int32) (a : Nat → List Int32) (q : Nat → List Int64) (r : Nat → Nat), kI i a q → kr r → ∀ (x1 : Int32), ((0 : Int) ≤ x1.toInt) ∧ ((x1.toInt + (n : Int)) = 6) → km (6 * n + 13) 51 [.ref 98, .int x1] (ks i a q r) (kVN wT i a q r (fun i1 a1 q1 r1 => True))
def w50_98_L7 : kW := ([643, 6274, 6275, 6403], [11, 12, 101, 102], [], [])
def kLT_50 (n : Nat) : Prop := ∀ (i : Nat → Int32) (a : Nat → List Int32) (q : Nat → List Int64) (r : Nat → Nat), kI i a q → kr r → ∀ (x1 : Int32), ((0 : Int) ≤ x1.toInt) ∧ ((x1.toInt + (n : Int)) = 6) → km (6 * n + 14) 50 [.ref 98, .int x1] (ks i a q r) (kVN wT i a q r (fun i1 a1 q1 r1 => True))
def w49_98_L7 : kW := ([643, 6274, 6275, 6403], [11, 12, 101, 102], [], [])
def kLT_49 (n : Nat) : Prop := ∀ (i : Nat → Int32) (a : Nat → List Int32) (q : Nat → List Int64) (r : Nat → Nat), kI i a q → kr r → ∀ (x1 : Int32), ((0 : Int) ≤ x1.toInt) ∧ ((x1.toInt + (n : Int)) = 6) → km (6 * n + 15) 49 [.ref 98, .int x1] (ks i a q r) (kVN wT i a q r (fun i1 a1 q1 r1 => True))
set_option maxRecDepth 100000 in
theorem kLsT_54 (n : Nat)  (ih : ∀ m, n = m + 1 → kLT_49 m ∧ kLT_54 m) : kLT_54 n := by
  intro i a q r hI hr x1 hp0
  have hG := kG_self wT hI hr
  refine km_ofN (q := (mi_h54, mi_c54)) rfl (by decide) (Nat.le_of_ble_eq_true rfl) ?_
  intro P hP
  have hn0 : (0 : Int) ≤ (n : Int) := Int.natCast_nonneg n
  refine ko_steps mi_in54 1 _ (1, [(0, .ref 98), (1, .int x1)], [.ref 98], (0, 0), ks i a q r) (by rfl) ?_
  refine ko_callPI mi_in54 (pc := 1) (ls := [(0, .ref 98), (1, .int x1)]) (st := [.ref 98]) (h := ks i a q r) (i := (.invokevirtual 46, 3, 45, 0, 9, 0, 184)) (by rfl) (by rfl) (cy := mi_c45) rfl rfl (kc45_98 hG.I hG.R ) (kj_d3 (by decide)) ?_
  intro vg1 hg1
  have fi_6274 : ((0 : Int) ≤ (i 6274).toInt) ∧ ((i 6274).toInt ≤ 120) := hG.I.1 6274
  have fi_6273 : ((0 : Int) ≤ (i 6273).toInt) ∧ ((i 6273).toInt ≤ 120) := hG.I.1 6273
  have z2 : (vg1.toInt = (-1)) ∨ ((i 6274).toInt < (i 6273).toInt) := hg1
  refine ko_steps mi_in54 2 _ (6, [(2, .int vg1), (0, .ref 98), (1, .int x1)], [.int vg1], (0, 0), ks i a q r) (by rfl) ?_
  refine ko_callPI mi_in54 (pc := 6) (ls := [(2, .int vg1), (0, .ref 98), (1, .int x1)]) (st := [.int vg1]) (h := ks i a q r) (i := (.invokestatic 92, 3, 56, 0, 9, 0, 185)) (by rfl) (by rfl) (cy := mi_c56) rfl rfl (kc56 hG.I hG.R vg1) (kj_d3 (by decide)) ?_
  intro vg3 hg3
  rcases hg3 with ⟨eg3, hg3⟩ | ⟨eg3, hg3⟩
  ·
    subst eg3
    have z4 : ((48 : Int) ≤ vg1.toInt) ∧ (vg1.toInt ≤ 57) := hg3
    refine ko_steps mi_in54 2 _ (13, [(2, .int vg1), (0, .ref 98), (1, .int x1)], [.ref 98], (0, 0), ks i a q r) (by rfl) ?_
    refine ko_callN mi_in54 (pc := 13) (ls := [(2, .int vg1), (0, .ref 98), (1, .int x1)]) (st := [.ref 98]) (h := ks i a q r) (i := (.invokevirtual 95, 3, 55, 0, 9, 0, 186)) (by rfl) (by rfl) (cy := mi_c55) rfl rfl (kc55_98 hG.I hG.R ) (kj_d3 (by decide)) ?_
    intro ig5 ag5 qg5 rg5 kg5 hg5
    have hGg5 := kG_call hG kg5 (by decide +kernel)
    exact ko_ret mi_in54 (by rfl) (hP  _ _ _ _ hGg5 trivial)
  ·
    subst eg3
    have z6 : ¬ (((48 : Int) ≤ vg1.toInt) ∧ (vg1.toInt ≤ 57)) := hg3
    refine ko_steps mi_in54 3 _ (20, [(2, .int vg1), (0, .ref 98), (1, .int x1)], [.ref (mi_RO + 10), .ref 98], (0, 0), ks i a q r) (by rfl) ?_
    refine ko_callI mi_in54 (pc := 20) (ls := [(2, .int vg1), (0, .ref 98), (1, .int x1)]) (st := [.ref (mi_RO + 10), .ref 98]) (h := ks i a q r) (i := (.invokevirtual 78, 3, 47, 0, 9, 0, 189)) (by rfl) (by rfl) (cy := mi_c47) rfl rfl (kc47_98_S10 hG.I hG.R ) (kj_d3 (by decide)) ?_
    intro vg7 ig7 ag7 qg7 rg7 kg7 hg7
    have hGg7 := kG_call hG kg7 (by decide +kernel)
    refine ko_steps mi_in54 3 _ (26, [(3, .int vg7), (2, .int vg1), (0, .ref 98), (1, .int x1)], [.int (-1), .int vg7], (0, 0), ks ig7 ag7 qg7 rg7) (by rfl) ?_
    refine ko_if mi_in54 (vg7 == (-1)) 46 29 ([(3, .int vg7), (2, .int vg1), (0, .ref 98), (1, .int x1)], [], (0, 0), ks ig7 ag7 qg7 rg7) (by rfl) (fun c => ?_) (fun c => ?_)
    ·
      have c8 : vg7.toInt = ((-1) : Int32).toInt := kd_eq c; clear c
      refine ko_steps mi_in54 2 _ (49, [(3, .int vg7), (2, .int vg1), (0, .ref 98), (1, .int x1)], [.int 6, .int x1], (0, 0), ks ig7 ag7 qg7 rg7) (by rfl) ?_
      refine ko_if mi_in54 (decide (6 ≤ x1)) 62 52 ([(3, .int vg7), (2, .int vg1), (0, .ref 98), (1, .int x1)], [], (0, 0), ks ig7 ag7 qg7 rg7) (by rfl) (fun c => ?_) (fun c => ?_)
      ·
        have c9 : (6 : Int32).toInt ≤ x1.toInt := kd_le c; clear c
        have hJ10 := kG_i hGg7 6275 rfl (v := 1) ⟨(oz246 kn1), (oz558 kn1)⟩
        refine ko_steps mi_in54 3 _ (67, [(3, .int vg7), (2, .int vg1), (0, .ref 98), (1, .int x1)], [], (0, 0), ks (ku ig7 6275 1) ag7 qg7 rg7) (by rfl) ?_
        exact ko_ret mi_in54 (by rfl) (hP  _ _ _ _ hJ10 trivial)
      ·
        have c11 : x1.toInt < (6 : Int32).toInt := kd_leF c; clear c
        refine ko_steps mi_in54 2 _ (55, [(3, .int vg7), (2, .int vg1), (0, .ref 98), (1, .int x1)], [.ref (mi_RO + 11), .ref 98], (0, 0), ks ig7 ag7 qg7 rg7) (by rfl) ?_
        refine ko_callI mi_in54 (pc := 55) (ls := [(3, .int vg7), (2, .int vg1), (0, .ref 98), (1, .int x1)]) (st := [.ref (mi_RO + 11), .ref 98]) (h := ks ig7 ag7 qg7 rg7) (i := (.invokevirtual 78, 3, 47, 0, 9, 0, 189)) (by rfl) (by rfl) (cy := mi_c47) rfl rfl (kc47_98_S11 hGg7.I hGg7.R ) (kj_d3 (by decide)) ?_
        intro vg12 ig12 ag12 qg12 rg12 kg12 hg12
        have hGg12 := kG_call hGg7 kg12 (by decide +kernel)
        refine ko_steps mi_in54 1 _ (59, [(3, .int vg7), (2, .int vg1), (0, .ref 98), (1, .int x1)], [.int (-1), .int vg12], (0, 0), ks ig12 ag12 qg12 rg12) (by rfl) ?_
        refine ko_if mi_in54 (vg12 != (-1)) 68 62 ([(3, .int vg7), (2, .int vg1), (0, .ref 98), (1, .int x1)], [], (0, 0), ks ig12 ag12 qg12 rg12) (by rfl) (fun c => ?_) (fun c => ?_)
        ·
          have c13 : vg12.toInt ≠ ((-1) : Int32).toInt := kd_ne c; clear c
          refine ko_steps mi_in54 2 _ (71, [(3, .int vg7), (2, .int vg1), (0, .ref 98), (1, .int x1)], [.int 40, .int vg1], (0, 0), ks ig12 ag12 qg12 rg12) (by rfl) ?_
          refine ko_if mi_in54 (vg1 != 40) 96 74 ([(3, .int vg7), (2, .int vg1), (0, .ref 98), (1, .int x1)], [], (0, 0), ks ig12 ag12 qg12 rg12) (by rfl) (fun c => ?_) (fun c => ?_)
          ·
            have c14 : vg1.toInt ≠ (40 : Int32).toInt := kd_ne c; clear c
            have s15 : (x1 + 1).toInt = x1.toInt + (1 : Int32).toInt := kd_add (oz12 hp0.1 kn1) (oz739 hn0 hp0.2 kn1)
            refine ko_steps mi_in54 4 _ (100, [(3, .int vg7), (2, .int vg1), (0, .ref 98), (1, .int x1)], [.int (x1 + 1), .ref 98], (0, 0), ks ig12 ag12 qg12 rg12) (by rfl) ?_
            obtain ⟨m, hm, hmI⟩ := kj_pred (oz925 c11 hp0.2 kn6)
            refine ko_callN mi_in54 (pc := 100) (ls := [(3, .int vg7), (2, .int vg1), (0, .ref 98), (1, .int x1)]) (st := [.int (x1 + 1), .ref 98]) (h := ks ig12 ag12 qg12 rg12) (i := (.invokevirtual 87, 3, 54, 0, 9, 0, 183)) (by rfl) (by rfl) (cy := mi_c54) rfl rfl ((ih m hm).2 _ _ _ _ hGg12.I hGg12.R (x1 + 1) (oz926 hmI hp0.1 hp0.2 s15 kn1)) (kj_d2 hm (by decide)) ?_
            intro ig16 ag16 qg16 rg16 kg16 hg16
            have hGg16 := kG_call hGg12 kg16 (by decide +kernel)
            refine ko_steps mi_in54 2 _ (107, [(3, .int vg7), (2, .int vg1), (0, .ref 98), (1, .int x1)], [.ref (rg16 2)], (0, 0), ks ig16 ag16 qg16 rg16) (by rfl) ?_
            rcases hGg16.R.1 with ⟨eRrg16_0, eRrg16_2⟩ | ⟨eRrg16_0, eRrg16_2⟩
            ·
              have eRrg16_0 : rg16 0 = 10 := eRrg16_0
              have eRrg16_2 : rg16 2 = 100 := eRrg16_2
              refine ko_eq (x1 := (107, [(3, .int vg7), (2, .int vg1), (0, .ref 98), (1, .int x1)], [.ref 100], (0, 0), ks ig16 ag16 qg16 rg16)) (by rw [eRrg16_2]) ?_
              refine ko_steps mi_in54 2 _ (110, [(3, .int vg7), (2, .int vg1), (0, .ref 98), (1, .int x1)], [.int 45, .int vg1, .ref 100], (0, 0), ks ig16 ag16 qg16 rg16) (by rfl) ?_
              refine ko_if mi_in54 (vg1 != 45) 118 113 ([(3, .int vg7), (2, .int vg1), (0, .ref 98), (1, .int x1)], [.ref 100], (0, 0), ks ig16 ag16 qg16 rg16) (by rfl) (fun c => ?_) (fun c => ?_)
              ·
                have c17 : vg1.toInt ≠ (45 : Int32).toInt := kd_ne c; clear c
                refine ko_steps mi_in54 2 _ (120, [(3, .int vg7), (2, .int vg1), (0, .ref 98), (1, .int x1)], [.int 0, .int vg1, .ref 100], (0, 0), ks ig16 ag16 qg16 rg16) (by rfl) ?_
                refine ko_callI mi_in54 (pc := 120) (ls := [(3, .int vg7), (2, .int vg1), (0, .ref 98), (1, .int x1)]) (st := [.int 0, .int vg1, .ref 100]) (h := ks ig16 ag16 qg16 rg16) (i := (.invokevirtual 60, 3, 17, 0, 9, 0, 187)) (by rfl) (by rfl) (cy := mi_c17) rfl rfl (kc17_100 hGg16.I hGg16.R vg1 0) (kj_d3 (by decide)) ?_
                intro vg18 ig18 ag18 qg18 rg18 kg18 hg18
                have hGg18 := kG_call hGg16 kg18 (by decide +kernel)
                have eRrg18_0 : rg18 0 = 10 := (kg18.fr 0 rfl).trans eRrg16_0
                have eRrg18_2 : rg18 2 = 100 := (kg18.fr 2 rfl).trans eRrg16_2
                refine ko_steps mi_in54 1 _ (124, [(3, .int vg7), (2, .int vg1), (0, .ref 98), (1, .int x1)], [], (0, 0), ks ig18 ag18 qg18 rg18) (by rfl) ?_
                exact ko_ret mi_in54 (by rfl) (hP  _ _ _ _ hGg18 trivial)
              ·
                have c19 : vg1.toInt = (45 : Int32).toInt := kd_neF c; clear c
                refine ko_steps mi_in54 3 _ (120, [(3, .int vg7), (2, .int vg1), (0, .ref 98), (1, .int x1)], [.int 0, .int 126, .ref 100], (0, 0), ks ig16 ag16 qg16 rg16) (by rfl) ?_
                refine ko_callI mi_in54 (pc := 120) (ls := [(3, .int vg7), (2, .int vg1), (0, .ref 98), (1, .int x1)]) (st := [.int 0, .int 126, .ref 100]) (h := ks ig16 ag16 qg16 rg16) (i := (.invokevirtual 60, 3, 17, 0, 9, 0, 187)) (by rfl) (by rfl) (cy := mi_c17) rfl rfl (kc17_100 hGg16.I hGg16.R 126 0) (kj_d3 (by decide)) ?_
                intro vg20 ig20 ag20 qg20 rg20 kg20 hg20
                have hGg20 := kG_call hGg16 kg20 (by decide +kernel)
                have eRrg20_0 : rg20 0 = 10 := (kg20.fr 0 rfl).trans eRrg16_0
                have eRrg20_2 : rg20 2 = 100 := (kg20.fr 2 rfl).trans eRrg16_2
                refine ko_steps mi_in54 1 _ (124, [(3, .int vg7), (2, .int vg1), (0, .ref 98), (1, .int x1)], [], (0, 0), ks ig20 ag20 qg20 rg20) (by rfl) ?_
                exact ko_ret mi_in54 (by rfl) (hP  _ _ _ _ hGg20 trivial)
            ·
              have eRrg16_0 : rg16 0 = 100 := eRrg16_0
              have eRrg16_2 : rg16 2 = 10 := eRrg16_2
              refine ko_eq (x1 := (107, [(3, .int vg7), (2, .int vg1), (0, .ref 98), (1, .int x1)], [.ref 10], (0, 0), ks ig16 ag16 qg16 rg16)) (by rw [eRrg16_2]) ?_
              refine ko_steps mi_in54 2 _ (110, [(3, .int vg7), (2, .int vg1), (0, .ref 98), (1, .int x1)], [.int 45, .int vg1, .ref 10], (0, 0), ks ig16 ag16 qg16 rg16) (by rfl) ?_
              refine ko_if mi_in54 (vg1 != 45) 118 113 ([(3, .int vg7), (2, .int vg1), (0, .ref 98), (1, .int x1)], [.ref 10], (0, 0), ks ig16 ag16 qg16 rg16) (by rfl) (fun c => ?_) (fun c => ?_)
              ·
                have c21 : vg1.toInt ≠ (45 : Int32).toInt := kd_ne c; clear c
                refine ko_steps mi_in54 2 _ (120, [(3, .int vg7), (2, .int vg1), (0, .ref 98), (1, .int x1)], [.int 0, .int vg1, .ref 10], (0, 0), ks ig16 ag16 qg16 rg16) (by rfl) ?_
                refine ko_callI mi_in54 (pc := 120) (ls := [(3, .int vg7), (2, .int vg1), (0, .ref 98), (1, .int x1)]) (st := [.int 0, .int vg1, .ref 10]) (h := ks ig16 ag16 qg16 rg16) (i := (.invokevirtual 60, 3, 17, 0, 9, 0, 187)) (by rfl) (by rfl) (cy := mi_c17) rfl rfl (kc17_10 hGg16.I hGg16.R vg1 0) (kj_d3 (by decide)) ?_
                intro vg22 ig22 ag22 qg22 rg22 kg22 hg22
                have hGg22 := kG_call hGg16 kg22 (by decide +kernel)
                have eRrg22_0 : rg22 0 = 100 := (kg22.fr 0 rfl).trans eRrg16_0
                have eRrg22_2 : rg22 2 = 10 := (kg22.fr 2 rfl).trans eRrg16_2
                refine ko_steps mi_in54 1 _ (124, [(3, .int vg7), (2, .int vg1), (0, .ref 98), (1, .int x1)], [], (0, 0), ks ig22 ag22 qg22 rg22) (by rfl) ?_
                exact ko_ret mi_in54 (by rfl) (hP  _ _ _ _ hGg22 trivial)
              ·
                have c23 : vg1.toInt = (45 : Int32).toInt := kd_neF c; clear c
                refine ko_steps mi_in54 3 _ (120, [(3, .int vg7), (2, .int vg1), (0, .ref 98), (1, .int x1)], [.int 0, .int 126, .ref 10], (0, 0), ks ig16 ag16 qg16 rg16) (by rfl) ?_
                refine ko_callI mi_in54 (pc := 120) (ls := [(3, .int vg7), (2, .int vg1), (0, .ref 98), (1, .int x1)]) (st := [.int 0, .int 126, .ref 10]) (h := ks ig16 ag16 qg16 rg16) (i := (.invokevirtual 60, 3, 17, 0, 9, 0, 187)) (by rfl) (by rfl) (cy := mi_c17) rfl rfl (kc17_10 hGg16.I hGg16.R 126 0) (kj_d3 (by decide)) ?_
                intro vg24 ig24 ag24 qg24 rg24 kg24 hg24
                have hGg24 := kG_call hGg16 kg24 (by decide +kernel)
                have eRrg24_0 : rg24 0 = 100 := (kg24.fr 0 rfl).trans eRrg16_0
                have eRrg24_2 : rg24 2 = 10 := (kg24.fr 2 rfl).trans eRrg16_2
                refine ko_steps mi_in54 1 _ (124, [(3, .int vg7), (2, .int vg1), (0, .ref 98), (1, .int x1)], [], (0, 0), ks ig24 ag24 qg24 rg24) (by rfl) ?_
                exact ko_ret mi_in54 (by rfl) (hP  _ _ _ _ hGg24 trivial)
          ·
            have c25 : vg1.toInt = (40 : Int32).toInt := kd_neF c; clear c
            have s26 : (x1 + 1).toInt = x1.toInt + (1 : Int32).toInt := kd_add (oz12 hp0.1 kn1) (oz739 hn0 hp0.2 kn1)
            refine ko_steps mi_in54 4 _ (78, [(3, .int vg7), (2, .int vg1), (0, .ref 98), (1, .int x1)], [.int (x1 + 1), .ref 98], (0, 0), ks ig12 ag12 qg12 rg12) (by rfl) ?_
            obtain ⟨m, hm, hmI⟩ := kj_pred (oz925 c11 hp0.2 kn6)
            refine ko_callN mi_in54 (pc := 78) (ls := [(3, .int vg7), (2, .int vg1), (0, .ref 98), (1, .int x1)]) (st := [.int (x1 + 1), .ref 98]) (h := ks ig12 ag12 qg12 rg12) (i := (.invokevirtual 56, 3, 49, 0, 9, 0, 178)) (by rfl) (by rfl) (cy := mi_c49) rfl rfl ((ih m hm).1 _ _ _ _ hGg12.I hGg12.R (x1 + 1) (oz926 hmI hp0.1 hp0.2 s26 kn1)) (kj_d2 hm (by decide)) ?_
            intro ig27 ag27 qg27 rg27 kg27 hg27
            have hGg27 := kG_call hGg12 kg27 (by decide +kernel)
            refine ko_steps mi_in54 2 _ (84, [(3, .int vg7), (2, .int vg1), (0, .ref 98), (1, .int x1)], [.int 41, .ref 98], (0, 0), ks ig27 ag27 qg27 rg27) (by rfl) ?_
            refine ko_callI mi_in54 (pc := 84) (ls := [(3, .int vg7), (2, .int vg1), (0, .ref 98), (1, .int x1)]) (st := [.int 41, .ref 98]) (h := ks ig27 ag27 qg27 rg27) (i := (.invokevirtual 39, 3, 46, 0, 9, 0, 200)) (by rfl) (by rfl) (cy := mi_c46) rfl rfl (kc46_98 hGg27.I hGg27.R 41 (oz774 kn41)) (kj_d3 (by decide)) ?_
            intro vg28 ig28 ag28 qg28 rg28 kg28 hg28
            have hGg28 := kG_call hGg27 kg28 (by decide +kernel)
            rcases hg28 with ⟨eg28, hg28⟩ | ⟨eg28, hg28⟩
            ·
              subst eg28
              refine ko_steps mi_in54 1 _ (95, [(3, .int vg7), (2, .int vg1), (0, .ref 98), (1, .int x1)], [], (0, 0), ks ig28 ag28 qg28 rg28) (by rfl) ?_
              exact ko_ret mi_in54 (by rfl) (hP  _ _ _ _ hGg28 trivial)
            ·
              subst eg28
              have hJ29 := kG_i hGg28 6275 rfl (v := 1) ⟨(oz246 kn1), (oz558 kn1)⟩
              refine ko_steps mi_in54 4 _ (95, [(3, .int vg7), (2, .int vg1), (0, .ref 98), (1, .int x1)], [], (0, 0), ks (ku ig28 6275 1) ag28 qg28 rg28) (by rfl) ?_
              exact ko_ret mi_in54 (by rfl) (hP  _ _ _ _ hJ29 trivial)
        ·
          have c30 : vg12.toInt = ((-1) : Int32).toInt := kd_neF c; clear c
          have hJ31 := kG_i hGg12 6275 rfl (v := 1) ⟨(oz246 kn1), (oz558 kn1)⟩
          refine ko_steps mi_in54 3 _ (67, [(3, .int vg7), (2, .int vg1), (0, .ref 98), (1, .int x1)], [], (0, 0), ks (ku ig12 6275 1) ag12 qg12 rg12) (by rfl) ?_
          exact ko_ret mi_in54 (by rfl) (hP  _ _ _ _ hJ31 trivial)
    ·
      have c32 : vg7.toInt ≠ ((-1) : Int32).toInt := kd_eqF c; clear c
      refine ko_steps mi_in54 2 _ (33, [(3, .int vg7), (2, .int vg1), (0, .ref 98), (1, .int x1)], [.ref (rg7 2)], (0, 0), ks ig7 ag7 qg7 rg7) (by rfl) ?_
      rcases hGg7.R.1 with ⟨eRrg7_0, eRrg7_2⟩ | ⟨eRrg7_0, eRrg7_2⟩
      ·
        have eRrg7_0 : rg7 0 = 10 := eRrg7_0
        have eRrg7_2 : rg7 2 = 100 := eRrg7_2
        refine ko_eq (x1 := (33, [(3, .int vg7), (2, .int vg1), (0, .ref 98), (1, .int x1)], [.ref 100], (0, 0), ks ig7 ag7 qg7 rg7)) (by rw [eRrg7_2]) ?_
        refine ko_steps mi_in54 4 _ (38, [(3, .int vg7), (2, .int vg1), (0, .ref 98), (1, .int x1)], [.int ((vg7.toUInt32 % 65536).toInt32), .ref (mi_RO + 10), .int 1, .ref 100], (0, 0), ks ig7 ag7 qg7 rg7) (by rfl) ?_
        refine ko_callPI mi_in54 (pc := 38) (ls := [(3, .int vg7), (2, .int vg1), (0, .ref 98), (1, .int x1)]) (st := [.int ((vg7.toUInt32 % 65536).toInt32), .ref (mi_RO + 10), .int 1, .ref 100]) (h := ks ig7 ag7 qg7 rg7) (i := (.invokevirtual 50, 3, 228, 0, 9, 0, 190)) (by rfl) (by rfl) (cy := mi_c228) rfl rfl (kc228_S10 hGg7.I hGg7.R ((vg7.toUInt32 % 65536).toInt32)) (kj_d3 (by decide)) ?_
        intro vg33 hg33
        refine ko_callI mi_in54 (pc := 41) (ls := [(3, .int vg7), (2, .int vg1), (0, .ref 98), (1, .int x1)]) (st := [.int vg33, .int 1, .ref 100]) (h := ks ig7 ag7 qg7 rg7) (i := (.invokevirtual 60, 3, 17, 0, 9, 0, 187)) (by rfl) (by rfl) (cy := mi_c17) rfl rfl (kc17_100 hGg7.I hGg7.R 1 vg33) (kj_d3 (by decide)) ?_
        intro vg34 ig34 ag34 qg34 rg34 kg34 hg34
        have hGg34 := kG_call hGg7 kg34 (by decide +kernel)
        have eRrg34_0 : rg34 0 = 10 := (kg34.fr 0 rfl).trans eRrg7_0
        have eRrg34_2 : rg34 2 = 100 := (kg34.fr 2 rfl).trans eRrg7_2
        refine ko_steps mi_in54 1 _ (45, [(3, .int vg7), (2, .int vg1), (0, .ref 98), (1, .int x1)], [], (0, 0), ks ig34 ag34 qg34 rg34) (by rfl) ?_
        exact ko_ret mi_in54 (by rfl) (hP  _ _ _ _ hGg34 trivial)
      ·
        have eRrg7_0 : rg7 0 = 100 := eRrg7_0
        have eRrg7_2 : rg7 2 = 10 := eRrg7_2
        refine ko_eq (x1 := (33, [(3, .int vg7), (2, .int vg1), (0, .ref 98), (1, .int x1)], [.ref 10], (0, 0), ks ig7 ag7 qg7 rg7)) (by rw [eRrg7_2]) ?_
        refine ko_steps mi_in54 4 _ (38, [(3, .int vg7), (2, .int vg1), (0, .ref 98), (1, .int x1)], [.int ((vg7.toUInt32 % 65536).toInt32), .ref (mi_RO + 10), .int 1, .ref 10], (0, 0), ks ig7 ag7 qg7 rg7) (by rfl) ?_
        refine ko_callPI mi_in54 (pc := 38) (ls := [(3, .int vg7), (2, .int vg1), (0, .ref 98), (1, .int x1)]) (st := [.int ((vg7.toUInt32 % 65536).toInt32), .ref (mi_RO + 10), .int 1, .ref 10]) (h := ks ig7 ag7 qg7 rg7) (i := (.invokevirtual 50, 3, 228, 0, 9, 0, 190)) (by rfl) (by rfl) (cy := mi_c228) rfl rfl (kc228_S10 hGg7.I hGg7.R ((vg7.toUInt32 % 65536).toInt32)) (kj_d3 (by decide)) ?_
        intro vg35 hg35
        refine ko_callI mi_in54 (pc := 41) (ls := [(3, .int vg7), (2, .int vg1), (0, .ref 98), (1, .int x1)]) (st := [.int vg35, .int 1, .ref 10]) (h := ks ig7 ag7 qg7 rg7) (i := (.invokevirtual 60, 3, 17, 0, 9, 0, 187)) (by rfl) (by rfl) (cy := mi_c17) rfl rfl (kc17_10 hGg7.I hGg7.R 1 vg35) (kj_d3 (by decide)) ?_
        intro vg36 ig36 ag36 qg36 rg36 kg36 hg36
        have hGg36 := kG_call hGg7 kg36 (by decide +kernel)
        have eRrg36_0 : rg36 0 = 100 := (kg36.fr 0 rfl).trans eRrg7_0
        have eRrg36_2 : rg36 2 = 10 := (kg36.fr 2 rfl).trans eRrg7_2
        refine ko_steps mi_in54 1 _ (45, [(3, .int vg7), (2, .int vg1), (0, .ref 98), (1, .int x1)], [], (0, 0), ks ig36 ag36 qg36 rg36) (by rfl) ?_
        exact ko_ret mi_in54 (by rfl) (hP  _ _ _ _ hGg36 trivial)
set_option maxRecDepth 100000 in
theorem kLsT_53 (n : Nat) (h54 : kLT_54 n) : kLT_53 n := by
  intro i a q r hI hr x1 hp0
  have hG := kG_self wT hI hr
  refine km_ofN (q := (mi_h53, mi_c53)) rfl (by decide) (Nat.le_of_ble_eq_true rfl) ?_
  intro P hP
  have hn0 : (0 : Int) ≤ (n : Int) := Int.natCast_nonneg n
  refine ko_steps mi_in53 2 _ (2, [(0, .ref 98), (1, .int x1)], [.int x1, .ref 98], (0, 0), ks i a q r) (by rfl) ?_
  refine ko_callN mi_in53 (pc := 2) (ls := [(0, .ref 98), (1, .int x1)]) (st := [.int x1, .ref 98]) (h := ks i a q r) (i := (.invokevirtual 87, 3, 54, 0, 9, 0, 183)) (by rfl) (by rfl) (cy := mi_c54) rfl rfl (h54 _ _ _ _ hG.I hG.R x1 (oz928 hp0.1 hp0.2)) (kj_d1 (by decide)) ?_
  intro ig1 ag1 qg1 rg1 kg1 hg1
  have hGg1 := kG_call hG kg1 (by decide +kernel)
  refine ko_steps mi_in53 2 _ (8, [(0, .ref 98), (1, .int x1)], [.ref (mi_RO + 12), .ref 98], (0, 0), ks ig1 ag1 qg1 rg1) (by rfl) ?_
  refine ko_callI mi_in53 (pc := 8) (ls := [(0, .ref 98), (1, .int x1)]) (st := [.ref (mi_RO + 12), .ref 98]) (h := ks ig1 ag1 qg1 rg1) (i := (.invokevirtual 78, 3, 47, 0, 9, 0, 189)) (by rfl) (by rfl) (cy := mi_c47) rfl rfl (kc47_98_S12 hGg1.I hGg1.R ) (kj_d3 (by decide)) ?_
  intro vg2 ig2 ag2 qg2 rg2 kg2 hg2
  have hGg2 := kG_call hGg1 kg2 (by decide +kernel)
  refine ko_steps mi_in53 3 _ (14, [(3, .int 0), (2, .int vg2), (0, .ref 98), (1, .int x1)], [], (0, 0), ks ig2 ag2 qg2 rg2) (by rfl) ?_
  have lp3 : ∀ (n : Nat) (i3 : Nat → Int32) (a3 : Nat → List Int32) (q3 : Nat → List Int64) (r3 : Nat → Nat) (l3_3 : Int32) (l2_3 : Int32), kG w53_98_L14 ig2 ag2 qg2 rg2 i3 a3 q3 r3 → (0 : Int) ≤ l3_3.toInt → (((i3 6273).toInt - l3_3.toInt)).toNat < n → ko (6 * n + 11) (mi_h53, mi_c53) P (14, [(3, .int l3_3), (2, .int l2_3), (0, .ref 98), (1, .int x1)], [], (0, 0), ks i3 a3 q3 r3) := by
    intro n
    induction n with
    | zero =>
      intro _ _ _ _ _ _ _ _ hm
      exact absurd hm (Nat.not_lt_zero _)
    | succ n ih3 =>
      intro i3 a3 q3 r3 l3_3 l2_3 hL3 p3_0 hm3
      have fi3_6273 : ((0 : Int) ≤ (i3 6273).toInt) ∧ ((i3 6273).toInt ≤ 120) := hL3.I.1 6273
      have fig2_6273 : ((0 : Int) ≤ (ig2 6273).toInt) ∧ ((ig2 6273).toInt ≤ 120) := hGg2.I.1 6273
      have fig1_6273 : ((0 : Int) ≤ (ig1 6273).toInt) ∧ ((ig1 6273).toInt ≤ 120) := hGg1.I.1 6273
      have fi_6273 : ((0 : Int) ≤ (i 6273).toInt) ∧ ((i 6273).toInt ≤ 120) := hG.I.1 6273
      have efig1_6273 : (ig1 6273).toInt = (i 6273).toInt := kg1.ti 6273 rfl
      have efig2_6273 : (ig2 6273).toInt = (ig1 6273).toInt := kg2.ti 6273 rfl
      have efi3_6273 : (i3 6273).toInt = (ig2 6273).toInt := hL3.ti 6273 rfl
      refine ko_steps mi_in53 3 _ (19, [(3, .int l3_3), (2, .int l2_3), (0, .ref 98), (1, .int x1)], [.int (i3 6273), .int l3_3], (0, 0), ks i3 a3 q3 r3) (by rfl) ?_
      refine ko_if mi_in53 (decide ((i3 6273) ≤ l3_3)) 55 22 ([(3, .int l3_3), (2, .int l2_3), (0, .ref 98), (1, .int x1)], [], (0, 0), ks i3 a3 q3 r3) (by rfl) (fun c => ?_) (fun c => ?_)
      ·
        have c4 : (i3 6273).toInt ≤ l3_3.toInt := kd_le c; clear c
        have hG5 := kG_call hGg2 hL3 (by decide +kernel)
        exact ko_ret mi_in53 (by rfl) (hP  _ _ _ _ hG5 trivial)
      ·
        have c6 : l3_3.toInt < (i3 6273).toInt := kd_leF c; clear c
        refine ko_steps mi_in53 2 _ (24, [(3, .int l3_3), (2, .int l2_3), (0, .ref 98), (1, .int x1)], [.int (-1), .int l2_3], (0, 0), ks i3 a3 q3 r3) (by rfl) ?_
        refine ko_if mi_in53 (l2_3 == (-1)) 55 27 ([(3, .int l3_3), (2, .int l2_3), (0, .ref 98), (1, .int x1)], [], (0, 0), ks i3 a3 q3 r3) (by rfl) (fun c => ?_) (fun c => ?_)
        ·
          have c7 : l2_3.toInt = ((-1) : Int32).toInt := kd_eq c; clear c
          have hG8 := kG_call hGg2 hL3 (by decide +kernel)
          exact ko_ret mi_in53 (by rfl) (hP  _ _ _ _ hG8 trivial)
        ·
          have c9 : l2_3.toInt ≠ ((-1) : Int32).toInt := kd_eqF c; clear c
          refine ko_steps mi_in53 2 _ (29, [(3, .int l3_3), (2, .int l2_3), (0, .ref 98), (1, .int x1)], [.int x1, .ref 98], (0, 0), ks i3 a3 q3 r3) (by rfl) ?_
          refine ko_callN mi_in53 (pc := 29) (ls := [(3, .int l3_3), (2, .int l2_3), (0, .ref 98), (1, .int x1)]) (st := [.int x1, .ref 98]) (h := ks i3 a3 q3 r3) (i := (.invokevirtual 87, 3, 54, 0, 9, 0, 183)) (by rfl) (by rfl) (cy := mi_c54) rfl rfl (h54 _ _ _ _ hL3.I hL3.R x1 (oz928 hp0.1 hp0.2)) (kj_d1 (by decide)) ?_
          intro ig10 ag10 qg10 rg10 kg10 hg10
          have hGg10 := kG_call hL3 kg10 (by decide +kernel)
          refine ko_steps mi_in53 2 _ (36, [(3, .int l3_3), (2, .int l2_3), (0, .ref 98), (1, .int x1)], [.ref (rg10 2)], (0, 0), ks ig10 ag10 qg10 rg10) (by rfl) ?_
          rcases hGg10.R.1 with ⟨eRrg10_0, eRrg10_2⟩ | ⟨eRrg10_0, eRrg10_2⟩
          ·
            have eRrg10_0 : rg10 0 = 10 := eRrg10_0
            have eRrg10_2 : rg10 2 = 100 := eRrg10_2
            refine ko_eq (x1 := (36, [(3, .int l3_3), (2, .int l2_3), (0, .ref 98), (1, .int x1)], [.ref 100], (0, 0), ks ig10 ag10 qg10 rg10)) (by rw [eRrg10_2]) ?_
            refine ko_steps mi_in53 2 _ (38, [(3, .int l3_3), (2, .int l2_3), (0, .ref 98), (1, .int x1)], [.int 0, .int l2_3, .ref 100], (0, 0), ks ig10 ag10 qg10 rg10) (by rfl) ?_
            refine ko_callI mi_in53 (pc := 38) (ls := [(3, .int l3_3), (2, .int l2_3), (0, .ref 98), (1, .int x1)]) (st := [.int 0, .int l2_3, .ref 100]) (h := ks ig10 ag10 qg10 rg10) (i := (.invokevirtual 60, 3, 17, 0, 9, 0, 187)) (by rfl) (by rfl) (cy := mi_c17) rfl rfl (kc17_100 hGg10.I hGg10.R l2_3 0) (kj_d3 (by decide)) ?_
            intro vg11 ig11 ag11 qg11 rg11 kg11 hg11
            have hGg11 := kG_call hGg10 kg11 (by decide +kernel)
            have eRrg11_0 : rg11 0 = 10 := (kg11.fr 0 rfl).trans eRrg10_0
            have eRrg11_2 : rg11 2 = 100 := (kg11.fr 2 rfl).trans eRrg10_2
            refine ko_steps mi_in53 3 _ (45, [(3, .int l3_3), (2, .int l2_3), (0, .ref 98), (1, .int x1)], [.ref (mi_RO + 12), .ref 98], (0, 0), ks ig11 ag11 qg11 rg11) (by rfl) ?_
            refine ko_callI mi_in53 (pc := 45) (ls := [(3, .int l3_3), (2, .int l2_3), (0, .ref 98), (1, .int x1)]) (st := [.ref (mi_RO + 12), .ref 98]) (h := ks ig11 ag11 qg11 rg11) (i := (.invokevirtual 78, 3, 47, 0, 9, 0, 189)) (by rfl) (by rfl) (cy := mi_c47) rfl rfl (kc47_98_S12 hGg11.I hGg11.R ) (kj_d3 (by decide)) ?_
            intro vg12 ig12 ag12 qg12 rg12 kg12 hg12
            have hGg12 := kG_call hGg11 kg12 (by decide +kernel)
            have eRrg12_0 : rg12 0 = 10 := (kg12.fr 0 rfl).trans eRrg11_0
            have eRrg12_2 : rg12 2 = 100 := (kg12.fr 2 rfl).trans eRrg11_2
            have s13 : (l3_3 + 1).toInt = l3_3.toInt + (1 : Int32).toInt := kd_add (oz12 p3_0 kn1) (oz929 c6 fi3_6273.2 kn1)
            refine ko_steps mi_in53 3 _ (14, [(3, .int (l3_3 + 1)), (2, .int vg12), (0, .ref 98), (1, .int x1)], [], (0, 0), ks ig12 ag12 qg12 rg12) (by rfl) ?_
            have fig12_6273 : ((0 : Int) ≤ (ig12 6273).toInt) ∧ ((ig12 6273).toInt ≤ 120) := hGg12.I.1 6273
            have fig11_6273 : ((0 : Int) ≤ (ig11 6273).toInt) ∧ ((ig11 6273).toInt ≤ 120) := hGg11.I.1 6273
            have fig10_6273 : ((0 : Int) ≤ (ig10 6273).toInt) ∧ ((ig10 6273).toInt ≤ 120) := hGg10.I.1 6273
            have efig10_6273 : (ig10 6273).toInt = (i3 6273).toInt := kg10.ti 6273 rfl
            have efig11_6273 : (ig11 6273).toInt = (ig10 6273).toInt := kg11.ti 6273 rfl
            have efig12_6273 : (ig12 6273).toInt = (ig11 6273).toInt := kg12.ti 6273 rfl
            exact ih3 _ _ _ _ _ _ hGg12 (oz14 p3_0 s13 kn1) (kj_meas (oz445 efig10_6273 efig11_6273 efig12_6273 s13 kn1) (oz45 c6) hm3)
          ·
            have eRrg10_0 : rg10 0 = 100 := eRrg10_0
            have eRrg10_2 : rg10 2 = 10 := eRrg10_2
            refine ko_eq (x1 := (36, [(3, .int l3_3), (2, .int l2_3), (0, .ref 98), (1, .int x1)], [.ref 10], (0, 0), ks ig10 ag10 qg10 rg10)) (by rw [eRrg10_2]) ?_
            refine ko_steps mi_in53 2 _ (38, [(3, .int l3_3), (2, .int l2_3), (0, .ref 98), (1, .int x1)], [.int 0, .int l2_3, .ref 10], (0, 0), ks ig10 ag10 qg10 rg10) (by rfl) ?_
            refine ko_callI mi_in53 (pc := 38) (ls := [(3, .int l3_3), (2, .int l2_3), (0, .ref 98), (1, .int x1)]) (st := [.int 0, .int l2_3, .ref 10]) (h := ks ig10 ag10 qg10 rg10) (i := (.invokevirtual 60, 3, 17, 0, 9, 0, 187)) (by rfl) (by rfl) (cy := mi_c17) rfl rfl (kc17_10 hGg10.I hGg10.R l2_3 0) (kj_d3 (by decide)) ?_
            intro vg14 ig14 ag14 qg14 rg14 kg14 hg14
            have hGg14 := kG_call hGg10 kg14 (by decide +kernel)
            have eRrg14_0 : rg14 0 = 100 := (kg14.fr 0 rfl).trans eRrg10_0
            have eRrg14_2 : rg14 2 = 10 := (kg14.fr 2 rfl).trans eRrg10_2
            refine ko_steps mi_in53 3 _ (45, [(3, .int l3_3), (2, .int l2_3), (0, .ref 98), (1, .int x1)], [.ref (mi_RO + 12), .ref 98], (0, 0), ks ig14 ag14 qg14 rg14) (by rfl) ?_
            refine ko_callI mi_in53 (pc := 45) (ls := [(3, .int l3_3), (2, .int l2_3), (0, .ref 98), (1, .int x1)]) (st := [.ref (mi_RO + 12), .ref 98]) (h := ks ig14 ag14 qg14 rg14) (i := (.invokevirtual 78, 3, 47, 0, 9, 0, 189)) (by rfl) (by rfl) (cy := mi_c47) rfl rfl (kc47_98_S12 hGg14.I hGg14.R ) (kj_d3 (by decide)) ?_
            intro vg15 ig15 ag15 qg15 rg15 kg15 hg15
            have hGg15 := kG_call hGg14 kg15 (by decide +kernel)
            have eRrg15_0 : rg15 0 = 100 := (kg15.fr 0 rfl).trans eRrg14_0
            have eRrg15_2 : rg15 2 = 10 := (kg15.fr 2 rfl).trans eRrg14_2
            have s16 : (l3_3 + 1).toInt = l3_3.toInt + (1 : Int32).toInt := kd_add (oz12 p3_0 kn1) (oz929 c6 fi3_6273.2 kn1)
            refine ko_steps mi_in53 3 _ (14, [(3, .int (l3_3 + 1)), (2, .int vg15), (0, .ref 98), (1, .int x1)], [], (0, 0), ks ig15 ag15 qg15 rg15) (by rfl) ?_
            have fig15_6273 : ((0 : Int) ≤ (ig15 6273).toInt) ∧ ((ig15 6273).toInt ≤ 120) := hGg15.I.1 6273
            have fig14_6273 : ((0 : Int) ≤ (ig14 6273).toInt) ∧ ((ig14 6273).toInt ≤ 120) := hGg14.I.1 6273
            have fig10_6273 : ((0 : Int) ≤ (ig10 6273).toInt) ∧ ((ig10 6273).toInt ≤ 120) := hGg10.I.1 6273
            have efig10_6273 : (ig10 6273).toInt = (i3 6273).toInt := kg10.ti 6273 rfl
            have efig14_6273 : (ig14 6273).toInt = (ig10 6273).toInt := kg14.ti 6273 rfl
            have efig15_6273 : (ig15 6273).toInt = (ig14 6273).toInt := kg15.ti 6273 rfl
            exact ih3 _ _ _ _ _ _ hGg15 (oz14 p3_0 s16 kn1) (kj_meas (oz445 efig10_6273 efig14_6273 efig15_6273 s16 kn1) (oz45 c6) hm3)
  exact lp3 _ _ _ _ _ _ _ (kG_self _ hGg2.I hGg2.R) (oz46 kn0) (Nat.lt_succ_self _)
set_option maxRecDepth 100000 in
theorem kLsT_52 (n : Nat) (h54 : kLT_54 n) (h53 : kLT_53 n) : kLT_52 n := by
  intro i a q r hI hr x1 hp0
  have hG := kG_self wT hI hr
  refine km_ofN (q := (mi_h52, mi_c52)) rfl (by decide) (Nat.le_of_ble_eq_true rfl) ?_
  intro P hP
  have hn0 : (0 : Int) ≤ (n : Int) := Int.natCast_nonneg n
  refine ko_steps mi_in52 2 _ (2, [(0, .ref 98), (1, .int x1)], [.int x1, .ref 98], (0, 0), ks i a q r) (by rfl) ?_
  refine ko_callN mi_in52 (pc := 2) (ls := [(0, .ref 98), (1, .int x1)]) (st := [.int x1, .ref 98]) (h := ks i a q r) (i := (.invokevirtual 82, 3, 53, 0, 9, 0, 182)) (by rfl) (by rfl) (cy := mi_c53) rfl rfl (h53 _ _ _ _ hG.I hG.R x1 (oz928 hp0.1 hp0.2)) (kj_d1 (by decide)) ?_
  intro ig1 ag1 qg1 rg1 kg1 hg1
  have hGg1 := kG_call hG kg1 (by decide +kernel)
  refine ko_steps mi_in52 2 _ (8, [(0, .ref 98), (1, .int x1)], [.ref (mi_RO + 13), .ref 98], (0, 0), ks ig1 ag1 qg1 rg1) (by rfl) ?_
  refine ko_callI mi_in52 (pc := 8) (ls := [(0, .ref 98), (1, .int x1)]) (st := [.ref (mi_RO + 13), .ref 98]) (h := ks ig1 ag1 qg1 rg1) (i := (.invokevirtual 78, 3, 47, 0, 9, 0, 189)) (by rfl) (by rfl) (cy := mi_c47) rfl rfl (kc47_98_S13 hGg1.I hGg1.R ) (kj_d3 (by decide)) ?_
  intro vg2 ig2 ag2 qg2 rg2 kg2 hg2
  have hGg2 := kG_call hGg1 kg2 (by decide +kernel)
  refine ko_steps mi_in52 3 _ (14, [(3, .int 0), (2, .int vg2), (0, .ref 98), (1, .int x1)], [], (0, 0), ks ig2 ag2 qg2 rg2) (by rfl) ?_
  have lp3 : ∀ (n : Nat) (i3 : Nat → Int32) (a3 : Nat → List Int32) (q3 : Nat → List Int64) (r3 : Nat → Nat) (l3_3 : Int32) (l2_3 : Int32), kG w52_98_L14 ig2 ag2 qg2 rg2 i3 a3 q3 r3 → (0 : Int) ≤ l3_3.toInt → (((i3 6273).toInt - l3_3.toInt)).toNat < n → ko (6 * n + 12) (mi_h52, mi_c52) P (14, [(3, .int l3_3), (2, .int l2_3), (0, .ref 98), (1, .int x1)], [], (0, 0), ks i3 a3 q3 r3) := by
    intro n
    induction n with
    | zero =>
      intro _ _ _ _ _ _ _ _ hm
      exact absurd hm (Nat.not_lt_zero _)
    | succ n ih3 =>
      intro i3 a3 q3 r3 l3_3 l2_3 hL3 p3_0 hm3
      have fi3_6273 : ((0 : Int) ≤ (i3 6273).toInt) ∧ ((i3 6273).toInt ≤ 120) := hL3.I.1 6273
      have fig2_6273 : ((0 : Int) ≤ (ig2 6273).toInt) ∧ ((ig2 6273).toInt ≤ 120) := hGg2.I.1 6273
      have fig1_6273 : ((0 : Int) ≤ (ig1 6273).toInt) ∧ ((ig1 6273).toInt ≤ 120) := hGg1.I.1 6273
      have fi_6273 : ((0 : Int) ≤ (i 6273).toInt) ∧ ((i 6273).toInt ≤ 120) := hG.I.1 6273
      have efig1_6273 : (ig1 6273).toInt = (i 6273).toInt := kg1.ti 6273 rfl
      have efig2_6273 : (ig2 6273).toInt = (ig1 6273).toInt := kg2.ti 6273 rfl
      have efi3_6273 : (i3 6273).toInt = (ig2 6273).toInt := hL3.ti 6273 rfl
      refine ko_steps mi_in52 3 _ (19, [(3, .int l3_3), (2, .int l2_3), (0, .ref 98), (1, .int x1)], [.int (i3 6273), .int l3_3], (0, 0), ks i3 a3 q3 r3) (by rfl) ?_
      refine ko_if mi_in52 (decide ((i3 6273) ≤ l3_3)) 55 22 ([(3, .int l3_3), (2, .int l2_3), (0, .ref 98), (1, .int x1)], [], (0, 0), ks i3 a3 q3 r3) (by rfl) (fun c => ?_) (fun c => ?_)
      ·
        have c4 : (i3 6273).toInt ≤ l3_3.toInt := kd_le c; clear c
        have hG5 := kG_call hGg2 hL3 (by decide +kernel)
        exact ko_ret mi_in52 (by rfl) (hP  _ _ _ _ hG5 trivial)
      ·
        have c6 : l3_3.toInt < (i3 6273).toInt := kd_leF c; clear c
        refine ko_steps mi_in52 2 _ (24, [(3, .int l3_3), (2, .int l2_3), (0, .ref 98), (1, .int x1)], [.int (-1), .int l2_3], (0, 0), ks i3 a3 q3 r3) (by rfl) ?_
        refine ko_if mi_in52 (l2_3 == (-1)) 55 27 ([(3, .int l3_3), (2, .int l2_3), (0, .ref 98), (1, .int x1)], [], (0, 0), ks i3 a3 q3 r3) (by rfl) (fun c => ?_) (fun c => ?_)
        ·
          have c7 : l2_3.toInt = ((-1) : Int32).toInt := kd_eq c; clear c
          have hG8 := kG_call hGg2 hL3 (by decide +kernel)
          exact ko_ret mi_in52 (by rfl) (hP  _ _ _ _ hG8 trivial)
        ·
          have c9 : l2_3.toInt ≠ ((-1) : Int32).toInt := kd_eqF c; clear c
          refine ko_steps mi_in52 2 _ (29, [(3, .int l3_3), (2, .int l2_3), (0, .ref 98), (1, .int x1)], [.int x1, .ref 98], (0, 0), ks i3 a3 q3 r3) (by rfl) ?_
          refine ko_callN mi_in52 (pc := 29) (ls := [(3, .int l3_3), (2, .int l2_3), (0, .ref 98), (1, .int x1)]) (st := [.int x1, .ref 98]) (h := ks i3 a3 q3 r3) (i := (.invokevirtual 82, 3, 53, 0, 9, 0, 182)) (by rfl) (by rfl) (cy := mi_c53) rfl rfl (h53 _ _ _ _ hL3.I hL3.R x1 (oz928 hp0.1 hp0.2)) (kj_d1 (by decide)) ?_
          intro ig10 ag10 qg10 rg10 kg10 hg10
          have hGg10 := kG_call hL3 kg10 (by decide +kernel)
          refine ko_steps mi_in52 2 _ (36, [(3, .int l3_3), (2, .int l2_3), (0, .ref 98), (1, .int x1)], [.ref (rg10 2)], (0, 0), ks ig10 ag10 qg10 rg10) (by rfl) ?_
          rcases hGg10.R.1 with ⟨eRrg10_0, eRrg10_2⟩ | ⟨eRrg10_0, eRrg10_2⟩
          ·
            have eRrg10_0 : rg10 0 = 10 := eRrg10_0
            have eRrg10_2 : rg10 2 = 100 := eRrg10_2
            refine ko_eq (x1 := (36, [(3, .int l3_3), (2, .int l2_3), (0, .ref 98), (1, .int x1)], [.ref 100], (0, 0), ks ig10 ag10 qg10 rg10)) (by rw [eRrg10_2]) ?_
            refine ko_steps mi_in52 2 _ (38, [(3, .int l3_3), (2, .int l2_3), (0, .ref 98), (1, .int x1)], [.int 0, .int l2_3, .ref 100], (0, 0), ks ig10 ag10 qg10 rg10) (by rfl) ?_
            refine ko_callI mi_in52 (pc := 38) (ls := [(3, .int l3_3), (2, .int l2_3), (0, .ref 98), (1, .int x1)]) (st := [.int 0, .int l2_3, .ref 100]) (h := ks ig10 ag10 qg10 rg10) (i := (.invokevirtual 60, 3, 17, 0, 9, 0, 187)) (by rfl) (by rfl) (cy := mi_c17) rfl rfl (kc17_100 hGg10.I hGg10.R l2_3 0) (kj_d3 (by decide)) ?_
            intro vg11 ig11 ag11 qg11 rg11 kg11 hg11
            have hGg11 := kG_call hGg10 kg11 (by decide +kernel)
            have eRrg11_0 : rg11 0 = 10 := (kg11.fr 0 rfl).trans eRrg10_0
            have eRrg11_2 : rg11 2 = 100 := (kg11.fr 2 rfl).trans eRrg10_2
            refine ko_steps mi_in52 3 _ (45, [(3, .int l3_3), (2, .int l2_3), (0, .ref 98), (1, .int x1)], [.ref (mi_RO + 13), .ref 98], (0, 0), ks ig11 ag11 qg11 rg11) (by rfl) ?_
            refine ko_callI mi_in52 (pc := 45) (ls := [(3, .int l3_3), (2, .int l2_3), (0, .ref 98), (1, .int x1)]) (st := [.ref (mi_RO + 13), .ref 98]) (h := ks ig11 ag11 qg11 rg11) (i := (.invokevirtual 78, 3, 47, 0, 9, 0, 189)) (by rfl) (by rfl) (cy := mi_c47) rfl rfl (kc47_98_S13 hGg11.I hGg11.R ) (kj_d3 (by decide)) ?_
            intro vg12 ig12 ag12 qg12 rg12 kg12 hg12
            have hGg12 := kG_call hGg11 kg12 (by decide +kernel)
            have eRrg12_0 : rg12 0 = 10 := (kg12.fr 0 rfl).trans eRrg11_0
            have eRrg12_2 : rg12 2 = 100 := (kg12.fr 2 rfl).trans eRrg11_2
            have s13 : (l3_3 + 1).toInt = l3_3.toInt + (1 : Int32).toInt := kd_add (oz12 p3_0 kn1) (oz929 c6 fi3_6273.2 kn1)
            refine ko_steps mi_in52 3 _ (14, [(3, .int (l3_3 + 1)), (2, .int vg12), (0, .ref 98), (1, .int x1)], [], (0, 0), ks ig12 ag12 qg12 rg12) (by rfl) ?_
            have fig12_6273 : ((0 : Int) ≤ (ig12 6273).toInt) ∧ ((ig12 6273).toInt ≤ 120) := hGg12.I.1 6273
            have fig11_6273 : ((0 : Int) ≤ (ig11 6273).toInt) ∧ ((ig11 6273).toInt ≤ 120) := hGg11.I.1 6273
            have fig10_6273 : ((0 : Int) ≤ (ig10 6273).toInt) ∧ ((ig10 6273).toInt ≤ 120) := hGg10.I.1 6273
            have efig10_6273 : (ig10 6273).toInt = (i3 6273).toInt := kg10.ti 6273 rfl
            have efig11_6273 : (ig11 6273).toInt = (ig10 6273).toInt := kg11.ti 6273 rfl
            have efig12_6273 : (ig12 6273).toInt = (ig11 6273).toInt := kg12.ti 6273 rfl
            exact ih3 _ _ _ _ _ _ hGg12 (oz14 p3_0 s13 kn1) (kj_meas (oz445 efig10_6273 efig11_6273 efig12_6273 s13 kn1) (oz45 c6) hm3)
          ·
            have eRrg10_0 : rg10 0 = 100 := eRrg10_0
            have eRrg10_2 : rg10 2 = 10 := eRrg10_2
            refine ko_eq (x1 := (36, [(3, .int l3_3), (2, .int l2_3), (0, .ref 98), (1, .int x1)], [.ref 10], (0, 0), ks ig10 ag10 qg10 rg10)) (by rw [eRrg10_2]) ?_
            refine ko_steps mi_in52 2 _ (38, [(3, .int l3_3), (2, .int l2_3), (0, .ref 98), (1, .int x1)], [.int 0, .int l2_3, .ref 10], (0, 0), ks ig10 ag10 qg10 rg10) (by rfl) ?_
            refine ko_callI mi_in52 (pc := 38) (ls := [(3, .int l3_3), (2, .int l2_3), (0, .ref 98), (1, .int x1)]) (st := [.int 0, .int l2_3, .ref 10]) (h := ks ig10 ag10 qg10 rg10) (i := (.invokevirtual 60, 3, 17, 0, 9, 0, 187)) (by rfl) (by rfl) (cy := mi_c17) rfl rfl (kc17_10 hGg10.I hGg10.R l2_3 0) (kj_d3 (by decide)) ?_
            intro vg14 ig14 ag14 qg14 rg14 kg14 hg14
            have hGg14 := kG_call hGg10 kg14 (by decide +kernel)
            have eRrg14_0 : rg14 0 = 100 := (kg14.fr 0 rfl).trans eRrg10_0
            have eRrg14_2 : rg14 2 = 10 := (kg14.fr 2 rfl).trans eRrg10_2
            refine ko_steps mi_in52 3 _ (45, [(3, .int l3_3), (2, .int l2_3), (0, .ref 98), (1, .int x1)], [.ref (mi_RO + 13), .ref 98], (0, 0), ks ig14 ag14 qg14 rg14) (by rfl) ?_
            refine ko_callI mi_in52 (pc := 45) (ls := [(3, .int l3_3), (2, .int l2_3), (0, .ref 98), (1, .int x1)]) (st := [.ref (mi_RO + 13), .ref 98]) (h := ks ig14 ag14 qg14 rg14) (i := (.invokevirtual 78, 3, 47, 0, 9, 0, 189)) (by rfl) (by rfl) (cy := mi_c47) rfl rfl (kc47_98_S13 hGg14.I hGg14.R ) (kj_d3 (by decide)) ?_
            intro vg15 ig15 ag15 qg15 rg15 kg15 hg15
            have hGg15 := kG_call hGg14 kg15 (by decide +kernel)
            have eRrg15_0 : rg15 0 = 100 := (kg15.fr 0 rfl).trans eRrg14_0
            have eRrg15_2 : rg15 2 = 10 := (kg15.fr 2 rfl).trans eRrg14_2
            have s16 : (l3_3 + 1).toInt = l3_3.toInt + (1 : Int32).toInt := kd_add (oz12 p3_0 kn1) (oz929 c6 fi3_6273.2 kn1)
            refine ko_steps mi_in52 3 _ (14, [(3, .int (l3_3 + 1)), (2, .int vg15), (0, .ref 98), (1, .int x1)], [], (0, 0), ks ig15 ag15 qg15 rg15) (by rfl) ?_
            have fig15_6273 : ((0 : Int) ≤ (ig15 6273).toInt) ∧ ((ig15 6273).toInt ≤ 120) := hGg15.I.1 6273
            have fig14_6273 : ((0 : Int) ≤ (ig14 6273).toInt) ∧ ((ig14 6273).toInt ≤ 120) := hGg14.I.1 6273
            have fig10_6273 : ((0 : Int) ≤ (ig10 6273).toInt) ∧ ((ig10 6273).toInt ≤ 120) := hGg10.I.1 6273
            have efig10_6273 : (ig10 6273).toInt = (i3 6273).toInt := kg10.ti 6273 rfl
            have efig14_6273 : (ig14 6273).toInt = (ig10 6273).toInt := kg14.ti 6273 rfl
            have efig15_6273 : (ig15 6273).toInt = (ig14 6273).toInt := kg15.ti 6273 rfl
            exact ih3 _ _ _ _ _ _ hGg15 (oz14 p3_0 s16 kn1) (kj_meas (oz445 efig10_6273 efig14_6273 efig15_6273 s16 kn1) (oz45 c6) hm3)
  exact lp3 _ _ _ _ _ _ _ (kG_self _ hGg2.I hGg2.R) (oz46 kn0) (Nat.lt_succ_self _)
set_option maxRecDepth 100000 in
theorem kLsT_51 (n : Nat) (h54 : kLT_54 n) (h53 : kLT_53 n) (h52 : kLT_52 n) : kLT_51 n := by
  intro i a q r hI hr x1 hp0
  have hG := kG_self wT hI hr
  refine km_ofN (q := (mi_h51, mi_c51)) rfl (by decide) (Nat.le_of_ble_eq_true rfl) ?_
  intro P hP
  have hn0 : (0 : Int) ≤ (n : Int) := Int.natCast_nonneg n
  refine ko_steps mi_in51 2 _ (2, [(0, .ref 98), (1, .int x1)], [.int x1, .ref 98], (0, 0), ks i a q r) (by rfl) ?_
  refine ko_callN mi_in51 (pc := 2) (ls := [(0, .ref 98), (1, .int x1)]) (st := [.int x1, .ref 98]) (h := ks i a q r) (i := (.invokevirtual 73, 3, 52, 0, 9, 0, 181)) (by rfl) (by rfl) (cy := mi_c52) rfl rfl (h52 _ _ _ _ hG.I hG.R x1 (oz928 hp0.1 hp0.2)) (kj_d1 (by decide)) ?_
  intro ig1 ag1 qg1 rg1 kg1 hg1
  have hGg1 := kG_call hG kg1 (by decide +kernel)
  refine ko_steps mi_in51 2 _ (8, [(0, .ref 98), (1, .int x1)], [.ref (mi_RO + 14), .ref 98], (0, 0), ks ig1 ag1 qg1 rg1) (by rfl) ?_
  refine ko_callI mi_in51 (pc := 8) (ls := [(0, .ref 98), (1, .int x1)]) (st := [.ref (mi_RO + 14), .ref 98]) (h := ks ig1 ag1 qg1 rg1) (i := (.invokevirtual 78, 3, 47, 0, 9, 0, 189)) (by rfl) (by rfl) (cy := mi_c47) rfl rfl (kc47_98_S14 hGg1.I hGg1.R ) (kj_d3 (by decide)) ?_
  intro vg2 ig2 ag2 qg2 rg2 kg2 hg2
  have hGg2 := kG_call hGg1 kg2 (by decide +kernel)
  refine ko_steps mi_in51 3 _ (14, [(2, .int vg2), (0, .ref 98), (1, .int x1)], [.int (-1), .int vg2], (0, 0), ks ig2 ag2 qg2 rg2) (by rfl) ?_
  refine ko_if mi_in51 (vg2 == (-1)) 32 17 ([(2, .int vg2), (0, .ref 98), (1, .int x1)], [], (0, 0), ks ig2 ag2 qg2 rg2) (by rfl) (fun c => ?_) (fun c => ?_)
  ·
    have c3 : vg2.toInt = ((-1) : Int32).toInt := kd_eq c; clear c
    exact ko_ret mi_in51 (by rfl) (hP  _ _ _ _ hGg2 trivial)
  ·
    have c4 : vg2.toInt ≠ ((-1) : Int32).toInt := kd_eqF c; clear c
    refine ko_steps mi_in51 2 _ (19, [(2, .int vg2), (0, .ref 98), (1, .int x1)], [.int x1, .ref 98], (0, 0), ks ig2 ag2 qg2 rg2) (by rfl) ?_
    refine ko_callN mi_in51 (pc := 19) (ls := [(2, .int vg2), (0, .ref 98), (1, .int x1)]) (st := [.int x1, .ref 98]) (h := ks ig2 ag2 qg2 rg2) (i := (.invokevirtual 73, 3, 52, 0, 9, 0, 181)) (by rfl) (by rfl) (cy := mi_c52) rfl rfl (h52 _ _ _ _ hGg2.I hGg2.R x1 (oz928 hp0.1 hp0.2)) (kj_d1 (by decide)) ?_
    intro ig5 ag5 qg5 rg5 kg5 hg5
    have hGg5 := kG_call hGg2 kg5 (by decide +kernel)
    refine ko_steps mi_in51 2 _ (26, [(2, .int vg2), (0, .ref 98), (1, .int x1)], [.ref (rg5 2)], (0, 0), ks ig5 ag5 qg5 rg5) (by rfl) ?_
    rcases hGg5.R.1 with ⟨eRrg5_0, eRrg5_2⟩ | ⟨eRrg5_0, eRrg5_2⟩
    ·
      have eRrg5_0 : rg5 0 = 10 := eRrg5_0
      have eRrg5_2 : rg5 2 = 100 := eRrg5_2
      refine ko_eq (x1 := (26, [(2, .int vg2), (0, .ref 98), (1, .int x1)], [.ref 100], (0, 0), ks ig5 ag5 qg5 rg5)) (by rw [eRrg5_2]) ?_
      refine ko_steps mi_in51 2 _ (28, [(2, .int vg2), (0, .ref 98), (1, .int x1)], [.int 0, .int vg2, .ref 100], (0, 0), ks ig5 ag5 qg5 rg5) (by rfl) ?_
      refine ko_callI mi_in51 (pc := 28) (ls := [(2, .int vg2), (0, .ref 98), (1, .int x1)]) (st := [.int 0, .int vg2, .ref 100]) (h := ks ig5 ag5 qg5 rg5) (i := (.invokevirtual 60, 3, 17, 0, 9, 0, 187)) (by rfl) (by rfl) (cy := mi_c17) rfl rfl (kc17_100 hGg5.I hGg5.R vg2 0) (kj_d3 (by decide)) ?_
      intro vg6 ig6 ag6 qg6 rg6 kg6 hg6
      have hGg6 := kG_call hGg5 kg6 (by decide +kernel)
      have eRrg6_0 : rg6 0 = 10 := (kg6.fr 0 rfl).trans eRrg5_0
      have eRrg6_2 : rg6 2 = 100 := (kg6.fr 2 rfl).trans eRrg5_2
      refine ko_steps mi_in51 1 _ (32, [(2, .int vg2), (0, .ref 98), (1, .int x1)], [], (0, 0), ks ig6 ag6 qg6 rg6) (by rfl) ?_
      exact ko_ret mi_in51 (by rfl) (hP  _ _ _ _ hGg6 trivial)
    ·
      have eRrg5_0 : rg5 0 = 100 := eRrg5_0
      have eRrg5_2 : rg5 2 = 10 := eRrg5_2
      refine ko_eq (x1 := (26, [(2, .int vg2), (0, .ref 98), (1, .int x1)], [.ref 10], (0, 0), ks ig5 ag5 qg5 rg5)) (by rw [eRrg5_2]) ?_
      refine ko_steps mi_in51 2 _ (28, [(2, .int vg2), (0, .ref 98), (1, .int x1)], [.int 0, .int vg2, .ref 10], (0, 0), ks ig5 ag5 qg5 rg5) (by rfl) ?_
      refine ko_callI mi_in51 (pc := 28) (ls := [(2, .int vg2), (0, .ref 98), (1, .int x1)]) (st := [.int 0, .int vg2, .ref 10]) (h := ks ig5 ag5 qg5 rg5) (i := (.invokevirtual 60, 3, 17, 0, 9, 0, 187)) (by rfl) (by rfl) (cy := mi_c17) rfl rfl (kc17_10 hGg5.I hGg5.R vg2 0) (kj_d3 (by decide)) ?_
      intro vg7 ig7 ag7 qg7 rg7 kg7 hg7
      have hGg7 := kG_call hGg5 kg7 (by decide +kernel)
      have eRrg7_0 : rg7 0 = 100 := (kg7.fr 0 rfl).trans eRrg5_0
      have eRrg7_2 : rg7 2 = 10 := (kg7.fr 2 rfl).trans eRrg5_2
      refine ko_steps mi_in51 1 _ (32, [(2, .int vg2), (0, .ref 98), (1, .int x1)], [], (0, 0), ks ig7 ag7 qg7 rg7) (by rfl) ?_
      exact ko_ret mi_in51 (by rfl) (hP  _ _ _ _ hGg7 trivial)
set_option maxRecDepth 100000 in
theorem kLsT_50 (n : Nat) (h54 : kLT_54 n) (h53 : kLT_53 n) (h52 : kLT_52 n) (h51 : kLT_51 n) : kLT_50 n := by
  intro i a q r hI hr x1 hp0
  have hG := kG_self wT hI hr
  refine km_ofN (q := (mi_h50, mi_c50)) rfl (by decide) (Nat.le_of_ble_eq_true rfl) ?_
  intro P hP
  have hn0 : (0 : Int) ≤ (n : Int) := Int.natCast_nonneg n
  refine ko_steps mi_in50 2 _ (2, [(0, .ref 98), (1, .int x1)], [.int x1, .ref 98], (0, 0), ks i a q r) (by rfl) ?_
  refine ko_callN mi_in50 (pc := 2) (ls := [(0, .ref 98), (1, .int x1)]) (st := [.int x1, .ref 98]) (h := ks i a q r) (i := (.invokevirtual 70, 3, 51, 0, 9, 0, 180)) (by rfl) (by rfl) (cy := mi_c51) rfl rfl (h51 _ _ _ _ hG.I hG.R x1 (oz928 hp0.1 hp0.2)) (kj_d1 (by decide)) ?_
  intro ig1 ag1 qg1 rg1 kg1 hg1
  have hGg1 := kG_call hG kg1 (by decide +kernel)
  refine ko_steps mi_in50 2 _ (7, [(2, .int 0), (0, .ref 98), (1, .int x1)], [], (0, 0), ks ig1 ag1 qg1 rg1) (by rfl) ?_
  have lp2 : ∀ (n : Nat) (i2 : Nat → Int32) (a2 : Nat → List Int32) (q2 : Nat → List Int64) (r2 : Nat → Nat) (l2_2 : Int32), kG w50_98_L7 ig1 ag1 qg1 rg1 i2 a2 q2 r2 → (0 : Int) ≤ l2_2.toInt → (((i2 6273).toInt - l2_2.toInt)).toNat < n → ko (6 * n + 14) (mi_h50, mi_c50) P (7, [(2, .int l2_2), (0, .ref 98), (1, .int x1)], [], (0, 0), ks i2 a2 q2 r2) := by
    intro n
    induction n with
    | zero =>
      intro _ _ _ _ _ _ _ hm
      exact absurd hm (Nat.not_lt_zero _)
    | succ n ih2 =>
      intro i2 a2 q2 r2 l2_2 hL2 p2_0 hm2
      have fi2_6273 : ((0 : Int) ≤ (i2 6273).toInt) ∧ ((i2 6273).toInt ≤ 120) := hL2.I.1 6273
      have fig1_6273 : ((0 : Int) ≤ (ig1 6273).toInt) ∧ ((ig1 6273).toInt ≤ 120) := hGg1.I.1 6273
      have fi_6273 : ((0 : Int) ≤ (i 6273).toInt) ∧ ((i 6273).toInt ≤ 120) := hG.I.1 6273
      have efig1_6273 : (ig1 6273).toInt = (i 6273).toInt := kg1.ti 6273 rfl
      have efi2_6273 : (i2 6273).toInt = (ig1 6273).toInt := hL2.ti 6273 rfl
      refine ko_steps mi_in50 3 _ (12, [(2, .int l2_2), (0, .ref 98), (1, .int x1)], [.int (i2 6273), .int l2_2], (0, 0), ks i2 a2 q2 r2) (by rfl) ?_
      refine ko_if mi_in50 (decide ((i2 6273) ≤ l2_2)) 46 15 ([(2, .int l2_2), (0, .ref 98), (1, .int x1)], [], (0, 0), ks i2 a2 q2 r2) (by rfl) (fun c => ?_) (fun c => ?_)
      ·
        have c3 : (i2 6273).toInt ≤ l2_2.toInt := kd_le c; clear c
        have hG4 := kG_call hGg1 hL2 (by decide +kernel)
        exact ko_ret mi_in50 (by rfl) (hP  _ _ _ _ hG4 trivial)
      ·
        have c5 : l2_2.toInt < (i2 6273).toInt := kd_leF c; clear c
        refine ko_steps mi_in50 2 _ (18, [(2, .int l2_2), (0, .ref 98), (1, .int x1)], [.int 38, .ref 98], (0, 0), ks i2 a2 q2 r2) (by rfl) ?_
        refine ko_callI mi_in50 (pc := 18) (ls := [(2, .int l2_2), (0, .ref 98), (1, .int x1)]) (st := [.int 38, .ref 98]) (h := ks i2 a2 q2 r2) (i := (.invokevirtual 39, 3, 46, 0, 9, 0, 200)) (by rfl) (by rfl) (cy := mi_c46) rfl rfl (kc46_98 hL2.I hL2.R 38 (oz879 kn38)) (kj_d3 (by decide)) ?_
        intro vg6 ig6 ag6 qg6 rg6 kg6 hg6
        have hGg6 := kG_call hL2 kg6 (by decide +kernel)
        rcases hg6 with ⟨eg6, hg6⟩ | ⟨eg6, hg6⟩
        ·
          subst eg6
          refine ko_steps mi_in50 3 _ (26, [(2, .int l2_2), (0, .ref 98), (1, .int x1)], [.int x1, .ref 98], (0, 0), ks ig6 ag6 qg6 rg6) (by rfl) ?_
          refine ko_callN mi_in50 (pc := 26) (ls := [(2, .int l2_2), (0, .ref 98), (1, .int x1)]) (st := [.int x1, .ref 98]) (h := ks ig6 ag6 qg6 rg6) (i := (.invokevirtual 70, 3, 51, 0, 9, 0, 180)) (by rfl) (by rfl) (cy := mi_c51) rfl rfl (h51 _ _ _ _ hGg6.I hGg6.R x1 (oz928 hp0.1 hp0.2)) (kj_d1 (by decide)) ?_
          intro ig7 ag7 qg7 rg7 kg7 hg7
          have hGg7 := kG_call hGg6 kg7 (by decide +kernel)
          refine ko_steps mi_in50 2 _ (33, [(2, .int l2_2), (0, .ref 98), (1, .int x1)], [.ref (rg7 2)], (0, 0), ks ig7 ag7 qg7 rg7) (by rfl) ?_
          rcases hGg7.R.1 with ⟨eRrg7_0, eRrg7_2⟩ | ⟨eRrg7_0, eRrg7_2⟩
          ·
            have eRrg7_0 : rg7 0 = 10 := eRrg7_0
            have eRrg7_2 : rg7 2 = 100 := eRrg7_2
            refine ko_eq (x1 := (33, [(2, .int l2_2), (0, .ref 98), (1, .int x1)], [.ref 100], (0, 0), ks ig7 ag7 qg7 rg7)) (by rw [eRrg7_2]) ?_
            refine ko_steps mi_in50 2 _ (36, [(2, .int l2_2), (0, .ref 98), (1, .int x1)], [.int 0, .int 38, .ref 100], (0, 0), ks ig7 ag7 qg7 rg7) (by rfl) ?_
            refine ko_callI mi_in50 (pc := 36) (ls := [(2, .int l2_2), (0, .ref 98), (1, .int x1)]) (st := [.int 0, .int 38, .ref 100]) (h := ks ig7 ag7 qg7 rg7) (i := (.invokevirtual 60, 3, 17, 0, 9, 0, 187)) (by rfl) (by rfl) (cy := mi_c17) rfl rfl (kc17_100 hGg7.I hGg7.R 38 0) (kj_d3 (by decide)) ?_
            intro vg8 ig8 ag8 qg8 rg8 kg8 hg8
            have hGg8 := kG_call hGg7 kg8 (by decide +kernel)
            have eRrg8_0 : rg8 0 = 10 := (kg8.fr 0 rfl).trans eRrg7_0
            have eRrg8_2 : rg8 2 = 100 := (kg8.fr 2 rfl).trans eRrg7_2
            have s9 : (l2_2 + 1).toInt = l2_2.toInt + (1 : Int32).toInt := kd_add (oz12 p2_0 kn1) (oz929 c5 fi2_6273.2 kn1)
            refine ko_steps mi_in50 3 _ (7, [(2, .int (l2_2 + 1)), (0, .ref 98), (1, .int x1)], [], (0, 0), ks ig8 ag8 qg8 rg8) (by rfl) ?_
            have fig8_6273 : ((0 : Int) ≤ (ig8 6273).toInt) ∧ ((ig8 6273).toInt ≤ 120) := hGg8.I.1 6273
            have fig7_6273 : ((0 : Int) ≤ (ig7 6273).toInt) ∧ ((ig7 6273).toInt ≤ 120) := hGg7.I.1 6273
            have fig6_6273 : ((0 : Int) ≤ (ig6 6273).toInt) ∧ ((ig6 6273).toInt ≤ 120) := hGg6.I.1 6273
            have efig6_6273 : (ig6 6273).toInt = (i2 6273).toInt := kg6.ti 6273 rfl
            have efig7_6273 : (ig7 6273).toInt = (ig6 6273).toInt := kg7.ti 6273 rfl
            have efig8_6273 : (ig8 6273).toInt = (ig7 6273).toInt := kg8.ti 6273 rfl
            exact ih2 _ _ _ _ _ hGg8 (oz14 p2_0 s9 kn1) (kj_meas (oz445 efig6_6273 efig7_6273 efig8_6273 s9 kn1) (oz45 c5) hm2)
          ·
            have eRrg7_0 : rg7 0 = 100 := eRrg7_0
            have eRrg7_2 : rg7 2 = 10 := eRrg7_2
            refine ko_eq (x1 := (33, [(2, .int l2_2), (0, .ref 98), (1, .int x1)], [.ref 10], (0, 0), ks ig7 ag7 qg7 rg7)) (by rw [eRrg7_2]) ?_
            refine ko_steps mi_in50 2 _ (36, [(2, .int l2_2), (0, .ref 98), (1, .int x1)], [.int 0, .int 38, .ref 10], (0, 0), ks ig7 ag7 qg7 rg7) (by rfl) ?_
            refine ko_callI mi_in50 (pc := 36) (ls := [(2, .int l2_2), (0, .ref 98), (1, .int x1)]) (st := [.int 0, .int 38, .ref 10]) (h := ks ig7 ag7 qg7 rg7) (i := (.invokevirtual 60, 3, 17, 0, 9, 0, 187)) (by rfl) (by rfl) (cy := mi_c17) rfl rfl (kc17_10 hGg7.I hGg7.R 38 0) (kj_d3 (by decide)) ?_
            intro vg10 ig10 ag10 qg10 rg10 kg10 hg10
            have hGg10 := kG_call hGg7 kg10 (by decide +kernel)
            have eRrg10_0 : rg10 0 = 100 := (kg10.fr 0 rfl).trans eRrg7_0
            have eRrg10_2 : rg10 2 = 10 := (kg10.fr 2 rfl).trans eRrg7_2
            have s11 : (l2_2 + 1).toInt = l2_2.toInt + (1 : Int32).toInt := kd_add (oz12 p2_0 kn1) (oz929 c5 fi2_6273.2 kn1)
            refine ko_steps mi_in50 3 _ (7, [(2, .int (l2_2 + 1)), (0, .ref 98), (1, .int x1)], [], (0, 0), ks ig10 ag10 qg10 rg10) (by rfl) ?_
            have fig10_6273 : ((0 : Int) ≤ (ig10 6273).toInt) ∧ ((ig10 6273).toInt ≤ 120) := hGg10.I.1 6273
            have fig7_6273 : ((0 : Int) ≤ (ig7 6273).toInt) ∧ ((ig7 6273).toInt ≤ 120) := hGg7.I.1 6273
            have fig6_6273 : ((0 : Int) ≤ (ig6 6273).toInt) ∧ ((ig6 6273).toInt ≤ 120) := hGg6.I.1 6273
            have efig6_6273 : (ig6 6273).toInt = (i2 6273).toInt := kg6.ti 6273 rfl
            have efig7_6273 : (ig7 6273).toInt = (ig6 6273).toInt := kg7.ti 6273 rfl
            have efig10_6273 : (ig10 6273).toInt = (ig7 6273).toInt := kg10.ti 6273 rfl
            exact ih2 _ _ _ _ _ hGg10 (oz14 p2_0 s11 kn1) (kj_meas (oz933 efig10_6273 efig6_6273 efig7_6273 s11 kn1) (oz45 c5) hm2)
        ·
          subst eg6
          refine ko_steps mi_in50 1 _ (46, [(2, .int l2_2), (0, .ref 98), (1, .int x1)], [], (0, 0), ks ig6 ag6 qg6 rg6) (by rfl) ?_
          have hG12 := kG_call hGg1 hGg6 (by decide +kernel)
          exact ko_ret mi_in50 (by rfl) (hP  _ _ _ _ hG12 trivial)
  exact lp2 _ _ _ _ _ _ (kG_self _ hGg1.I hGg1.R) (oz46 kn0) (Nat.lt_succ_self _)
set_option maxRecDepth 100000 in
theorem kLsT_49 (n : Nat) (h54 : kLT_54 n) (h53 : kLT_53 n) (h52 : kLT_52 n) (h51 : kLT_51 n) (h50 : kLT_50 n) : kLT_49 n := by
  intro i a q r hI hr x1 hp0
  have hG := kG_self wT hI hr
  refine km_ofN (q := (mi_h49, mi_c49)) rfl (by decide) (Nat.le_of_ble_eq_true rfl) ?_
  intro P hP
  have hn0 : (0 : Int) ≤ (n : Int) := Int.natCast_nonneg n
  refine ko_steps mi_in49 2 _ (2, [(0, .ref 98), (1, .int x1)], [.int x1, .ref 98], (0, 0), ks i a q r) (by rfl) ?_
  refine ko_callN mi_in49 (pc := 2) (ls := [(0, .ref 98), (1, .int x1)]) (st := [.int x1, .ref 98]) (h := ks i a q r) (i := (.invokevirtual 67, 3, 50, 0, 9, 0, 179)) (by rfl) (by rfl) (cy := mi_c50) rfl rfl (h50 _ _ _ _ hG.I hG.R x1 (oz928 hp0.1 hp0.2)) (kj_d1 (by decide)) ?_
  intro ig1 ag1 qg1 rg1 kg1 hg1
  have hGg1 := kG_call hG kg1 (by decide +kernel)
  refine ko_steps mi_in49 2 _ (7, [(2, .int 0), (0, .ref 98), (1, .int x1)], [], (0, 0), ks ig1 ag1 qg1 rg1) (by rfl) ?_
  have lp2 : ∀ (n : Nat) (i2 : Nat → Int32) (a2 : Nat → List Int32) (q2 : Nat → List Int64) (r2 : Nat → Nat) (l2_2 : Int32), kG w49_98_L7 ig1 ag1 qg1 rg1 i2 a2 q2 r2 → (0 : Int) ≤ l2_2.toInt → (((i2 6273).toInt - l2_2.toInt)).toNat < n → ko (6 * n + 15) (mi_h49, mi_c49) P (7, [(2, .int l2_2), (0, .ref 98), (1, .int x1)], [], (0, 0), ks i2 a2 q2 r2) := by
    intro n
    induction n with
    | zero =>
      intro _ _ _ _ _ _ _ hm
      exact absurd hm (Nat.not_lt_zero _)
    | succ n ih2 =>
      intro i2 a2 q2 r2 l2_2 hL2 p2_0 hm2
      have fi2_6273 : ((0 : Int) ≤ (i2 6273).toInt) ∧ ((i2 6273).toInt ≤ 120) := hL2.I.1 6273
      have fig1_6273 : ((0 : Int) ≤ (ig1 6273).toInt) ∧ ((ig1 6273).toInt ≤ 120) := hGg1.I.1 6273
      have fi_6273 : ((0 : Int) ≤ (i 6273).toInt) ∧ ((i 6273).toInt ≤ 120) := hG.I.1 6273
      have efig1_6273 : (ig1 6273).toInt = (i 6273).toInt := kg1.ti 6273 rfl
      have efi2_6273 : (i2 6273).toInt = (ig1 6273).toInt := hL2.ti 6273 rfl
      refine ko_steps mi_in49 3 _ (12, [(2, .int l2_2), (0, .ref 98), (1, .int x1)], [.int (i2 6273), .int l2_2], (0, 0), ks i2 a2 q2 r2) (by rfl) ?_
      refine ko_if mi_in49 (decide ((i2 6273) ≤ l2_2)) 46 15 ([(2, .int l2_2), (0, .ref 98), (1, .int x1)], [], (0, 0), ks i2 a2 q2 r2) (by rfl) (fun c => ?_) (fun c => ?_)
      ·
        have c3 : (i2 6273).toInt ≤ l2_2.toInt := kd_le c; clear c
        have hG4 := kG_call hGg1 hL2 (by decide +kernel)
        exact ko_ret mi_in49 (by rfl) (hP  _ _ _ _ hG4 trivial)
      ·
        have c5 : l2_2.toInt < (i2 6273).toInt := kd_leF c; clear c
        refine ko_steps mi_in49 2 _ (18, [(2, .int l2_2), (0, .ref 98), (1, .int x1)], [.int 124, .ref 98], (0, 0), ks i2 a2 q2 r2) (by rfl) ?_
        refine ko_callI mi_in49 (pc := 18) (ls := [(2, .int l2_2), (0, .ref 98), (1, .int x1)]) (st := [.int 124, .ref 98]) (h := ks i2 a2 q2 r2) (i := (.invokevirtual 39, 3, 46, 0, 9, 0, 200)) (by rfl) (by rfl) (cy := mi_c46) rfl rfl (kc46_98 hL2.I hL2.R 124 (oz901 kn124)) (kj_d3 (by decide)) ?_
        intro vg6 ig6 ag6 qg6 rg6 kg6 hg6
        have hGg6 := kG_call hL2 kg6 (by decide +kernel)
        rcases hg6 with ⟨eg6, hg6⟩ | ⟨eg6, hg6⟩
        ·
          subst eg6
          refine ko_steps mi_in49 3 _ (26, [(2, .int l2_2), (0, .ref 98), (1, .int x1)], [.int x1, .ref 98], (0, 0), ks ig6 ag6 qg6 rg6) (by rfl) ?_
          refine ko_callN mi_in49 (pc := 26) (ls := [(2, .int l2_2), (0, .ref 98), (1, .int x1)]) (st := [.int x1, .ref 98]) (h := ks ig6 ag6 qg6 rg6) (i := (.invokevirtual 67, 3, 50, 0, 9, 0, 179)) (by rfl) (by rfl) (cy := mi_c50) rfl rfl (h50 _ _ _ _ hGg6.I hGg6.R x1 (oz928 hp0.1 hp0.2)) (kj_d1 (by decide)) ?_
          intro ig7 ag7 qg7 rg7 kg7 hg7
          have hGg7 := kG_call hGg6 kg7 (by decide +kernel)
          refine ko_steps mi_in49 2 _ (33, [(2, .int l2_2), (0, .ref 98), (1, .int x1)], [.ref (rg7 2)], (0, 0), ks ig7 ag7 qg7 rg7) (by rfl) ?_
          rcases hGg7.R.1 with ⟨eRrg7_0, eRrg7_2⟩ | ⟨eRrg7_0, eRrg7_2⟩
          ·
            have eRrg7_0 : rg7 0 = 10 := eRrg7_0
            have eRrg7_2 : rg7 2 = 100 := eRrg7_2
            refine ko_eq (x1 := (33, [(2, .int l2_2), (0, .ref 98), (1, .int x1)], [.ref 100], (0, 0), ks ig7 ag7 qg7 rg7)) (by rw [eRrg7_2]) ?_
            refine ko_steps mi_in49 2 _ (36, [(2, .int l2_2), (0, .ref 98), (1, .int x1)], [.int 0, .int 124, .ref 100], (0, 0), ks ig7 ag7 qg7 rg7) (by rfl) ?_
            refine ko_callI mi_in49 (pc := 36) (ls := [(2, .int l2_2), (0, .ref 98), (1, .int x1)]) (st := [.int 0, .int 124, .ref 100]) (h := ks ig7 ag7 qg7 rg7) (i := (.invokevirtual 60, 3, 17, 0, 9, 0, 187)) (by rfl) (by rfl) (cy := mi_c17) rfl rfl (kc17_100 hGg7.I hGg7.R 124 0) (kj_d3 (by decide)) ?_
            intro vg8 ig8 ag8 qg8 rg8 kg8 hg8
            have hGg8 := kG_call hGg7 kg8 (by decide +kernel)
            have eRrg8_0 : rg8 0 = 10 := (kg8.fr 0 rfl).trans eRrg7_0
            have eRrg8_2 : rg8 2 = 100 := (kg8.fr 2 rfl).trans eRrg7_2
            have s9 : (l2_2 + 1).toInt = l2_2.toInt + (1 : Int32).toInt := kd_add (oz12 p2_0 kn1) (oz929 c5 fi2_6273.2 kn1)
            refine ko_steps mi_in49 3 _ (7, [(2, .int (l2_2 + 1)), (0, .ref 98), (1, .int x1)], [], (0, 0), ks ig8 ag8 qg8 rg8) (by rfl) ?_
            have fig8_6273 : ((0 : Int) ≤ (ig8 6273).toInt) ∧ ((ig8 6273).toInt ≤ 120) := hGg8.I.1 6273
            have fig7_6273 : ((0 : Int) ≤ (ig7 6273).toInt) ∧ ((ig7 6273).toInt ≤ 120) := hGg7.I.1 6273
            have fig6_6273 : ((0 : Int) ≤ (ig6 6273).toInt) ∧ ((ig6 6273).toInt ≤ 120) := hGg6.I.1 6273
            have efig6_6273 : (ig6 6273).toInt = (i2 6273).toInt := kg6.ti 6273 rfl
            have efig7_6273 : (ig7 6273).toInt = (ig6 6273).toInt := kg7.ti 6273 rfl
            have efig8_6273 : (ig8 6273).toInt = (ig7 6273).toInt := kg8.ti 6273 rfl
            exact ih2 _ _ _ _ _ hGg8 (oz14 p2_0 s9 kn1) (kj_meas (oz445 efig6_6273 efig7_6273 efig8_6273 s9 kn1) (oz45 c5) hm2)
          ·
            have eRrg7_0 : rg7 0 = 100 := eRrg7_0
            have eRrg7_2 : rg7 2 = 10 := eRrg7_2
            refine ko_eq (x1 := (33, [(2, .int l2_2), (0, .ref 98), (1, .int x1)], [.ref 10], (0, 0), ks ig7 ag7 qg7 rg7)) (by rw [eRrg7_2]) ?_
            refine ko_steps mi_in49 2 _ (36, [(2, .int l2_2), (0, .ref 98), (1, .int x1)], [.int 0, .int 124, .ref 10], (0, 0), ks ig7 ag7 qg7 rg7) (by rfl) ?_
            refine ko_callI mi_in49 (pc := 36) (ls := [(2, .int l2_2), (0, .ref 98), (1, .int x1)]) (st := [.int 0, .int 124, .ref 10]) (h := ks ig7 ag7 qg7 rg7) (i := (.invokevirtual 60, 3, 17, 0, 9, 0, 187)) (by rfl) (by rfl) (cy := mi_c17) rfl rfl (kc17_10 hGg7.I hGg7.R 124 0) (kj_d3 (by decide)) ?_
            intro vg10 ig10 ag10 qg10 rg10 kg10 hg10
            have hGg10 := kG_call hGg7 kg10 (by decide +kernel)
            have eRrg10_0 : rg10 0 = 100 := (kg10.fr 0 rfl).trans eRrg7_0
            have eRrg10_2 : rg10 2 = 10 := (kg10.fr 2 rfl).trans eRrg7_2
            have s11 : (l2_2 + 1).toInt = l2_2.toInt + (1 : Int32).toInt := kd_add (oz12 p2_0 kn1) (oz929 c5 fi2_6273.2 kn1)
            refine ko_steps mi_in49 3 _ (7, [(2, .int (l2_2 + 1)), (0, .ref 98), (1, .int x1)], [], (0, 0), ks ig10 ag10 qg10 rg10) (by rfl) ?_
            have fig10_6273 : ((0 : Int) ≤ (ig10 6273).toInt) ∧ ((ig10 6273).toInt ≤ 120) := hGg10.I.1 6273
            have fig7_6273 : ((0 : Int) ≤ (ig7 6273).toInt) ∧ ((ig7 6273).toInt ≤ 120) := hGg7.I.1 6273
            have fig6_6273 : ((0 : Int) ≤ (ig6 6273).toInt) ∧ ((ig6 6273).toInt ≤ 120) := hGg6.I.1 6273
            have efig6_6273 : (ig6 6273).toInt = (i2 6273).toInt := kg6.ti 6273 rfl
            have efig7_6273 : (ig7 6273).toInt = (ig6 6273).toInt := kg7.ti 6273 rfl
            have efig10_6273 : (ig10 6273).toInt = (ig7 6273).toInt := kg10.ti 6273 rfl
            exact ih2 _ _ _ _ _ hGg10 (oz14 p2_0 s11 kn1) (kj_meas (oz933 efig10_6273 efig6_6273 efig7_6273 s11 kn1) (oz45 c5) hm2)
        ·
          subst eg6
          refine ko_steps mi_in49 1 _ (46, [(2, .int l2_2), (0, .ref 98), (1, .int x1)], [], (0, 0), ks ig6 ag6 qg6 rg6) (by rfl) ?_
          have hG12 := kG_call hGg1 hGg6 (by decide +kernel)
          exact ko_ret mi_in49 (by rfl) (hP  _ _ _ _ hG12 trivial)
  exact lp2 _ _ _ _ _ _ (kG_self _ hGg1.I hGg1.R) (oz46 kn0) (Nat.lt_succ_self _)
theorem kLallT : ∀ n : Nat, kLT_49 n ∧ kLT_54 n
  | 0 => by
    have ih : ∀ m, 0 = m + 1 → kLT_49 m ∧ kLT_54 m := fun m h => by omega
    have h54 := kLsT_54 0  ih
    have h53 := kLsT_53 0 h54
    have h52 := kLsT_52 0 h54 h53
    have h51 := kLsT_51 0 h54 h53 h52
    have h50 := kLsT_50 0 h54 h53 h52 h51
    have h49 := kLsT_49 0 h54 h53 h52 h51 h50
    exact ⟨h49, h54⟩
  | n + 1 => by
    have ih : ∀ m, n + 1 = m + 1 → kLT_49 m ∧ kLT_54 m := fun m h => by
      have e : n = m := by omega
      subst e
      exact kLallT n
    have h54 := kLsT_54 (n + 1)  ih
    have h53 := kLsT_53 (n + 1) h54
    have h52 := kLsT_52 (n + 1) h54 h53
    have h51 := kLsT_51 (n + 1) h54 h53 h52
    have h50 := kLsT_50 (n + 1) h54 h53 h52 h51
    have h49 := kLsT_49 (n + 1) h54 h53 h52 h51 h50
    exact ⟨h49, h54⟩
