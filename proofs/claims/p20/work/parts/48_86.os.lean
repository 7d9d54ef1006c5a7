theorem kos0 : (0 : Int32).toInt = 0 := by decide
theorem kos1 : (1 : Int32).toInt = 1 := by decide
theorem kosm1 : ((-1) : Int32).toInt = (-1) := by decide
theorem kos31 : (31 : Int32).toInt = 31 := by decide
theorem kos5 : (5 : Int32).toInt = 5 := by decide
theorem kos10 : (10 : Int32).toInt = 10 := by decide
theorem kos9 : (9 : Int32).toInt = 9 := by decide
theorem os0 {a0 : Int} (h0 : (0 : Int) ≤ a0) : (0 : Int) ≤ a0 := oz3 h0
theorem os1 {a0 : Int} (h0 : a0 ≤ 255) : a0 ≤ 255 := oz661 h0
theorem os2 {a0 a1 : Int} (h0 : a0 ≠ a1) (h1 : (0 : Int) ≤ a0) (h2 : a1 = 0) : a0 ≠ 0 := oz662 h0 h1 h2
theorem os3 {a0 a1 : Int} (h0 : a0 < a1) (h1 : a1 ≤ 8) : a0 ≤ 7 := oz512 h0 h1
theorem os4 {a0 a1 : Int} (h0 : a0 ≠ a1) (h1 : a1 = 0) : a0 ≠ 0 := oz295 h0 h1
theorem os5 {a0 a1 : Int} (h0 : (a0 + a1) ≤ 5) (h1 : (1 : Int) ≤ a1) : a0 < 5 := oz663 h0 h1
theorem os6 {a0 a1 : Int} (h0 : (0 : Int) ≤ a0) (h1 : a1 = 1) : (-2147483648 : Int) ≤ a0 + a1 := oz12 h0 h1
theorem os7 {a0 a1 a2 : Int} (h0 : (a0 + a1) ≤ 5) (h1 : (1 : Int) ≤ a1) (h2 : a2 = 1) : a0 + a2 ≤ 2147483647 := oz664 h0 h1 h2
theorem os8 {a0 a1 : Int} (h0 : a0 < a1) (h1 : a1 ≤ 8) : a0 ≤ 8 := oz513 h0 h1
theorem os9 {a0 a1 : Int} (h0 : a0 = a1) (h1 : (1 : Int) ≤ a0) : (1 : Int) ≤ a1 := oz665 h0 h1
theorem os10 {a0 a1 a2 : Int} (h0 : (0 : Int) ≤ a0) (h1 : a1 = a0 + a2) (h2 : a2 = 1) : (0 : Int) ≤ a1 := oz14 h0 h1 h2
theorem os11 {a0 : Int} (h0 : (0 : Int) ≤ a0) (h1 : a0 ≤ 255) : ((0 : Int) ≤ a0) ∧ (a0 ≤ 255) := oz666 h0 h1
theorem os12 {a0 : Int} (h0 : (0 : Int) ≤ a0) (h1 : a0 ≤ 7) : ((0 : Int) ≤ a0) ∧ (a0 ≤ 7) := oz181 h0 h1
theorem os13 {a0 a1 a2 a3 a4 : Int} (h0 : (a0 + a1) ≤ 5) (h1 : a2 = a1 - 1) (h2 : a3 = a0 + a4) (h3 : a4 = 1) : (a3 + a2) ≤ 5 := oz667 h0 h1 h2 h3
theorem os14 {a0 a1 a2 a3 : Int} (h0 : a0 = a1 + 1) (h1 : a2 = a0) (h2 : a3 = a2 - 1) : a3 = a1 := oz668 h0 h1 h2
theorem os15 {a0 a1 a2 : Int} (h0 : a0 < a1) (h1 : a1 ≤ 8) (h2 : a2 = 1) : a0 + a2 ≤ 2147483647 := oz442 h0 h1 h2
theorem os16 {a0 a1 a2 a3 a4 : Int} (h0 : a0 = a1) (h1 : a2 = a3 + a4) (h2 : a4 = 1) : (a0 - a2) < (a1 - a3) := oz308 h0 h1 h2
theorem os17 {a0 a1 : Int} (h0 : a0 < a1) : (1 : Int) ≤ (a1 - a0) := oz45 h0
theorem os18 {a0 a1 a2 a3 : Int} (h0 : a0 = a1 + a2) (h1 : a2 = 1) : (a3 - a0) < (a3 - a1) := oz44 h0 h1
theorem os19 {a0 : Int} (h0 : a0 = 0) : (0 : Int) ≤ a0 := oz46 h0
theorem os20 {a0 a1 a2 : Int} (h0 : (0 : Int) ≤ a0) (h1 : (a1 + a2) ≤ 5) (h2 : a2 = a0) : a1 ≤ 21 := oz669 h0 h1 h2
theorem os21 {a0 a1 : Int} (h0 : a0 ≤ a1) (h1 : a0 = 31) : 31 ≤ a1 := of0 h0 h1
theorem os24 {a0 a1 : Int} (h0 : a0 < a1) (h1 : a1 = 31) : a0 < 31 := oz228 h0 h1
theorem os29 {a0 a1 a2 : Int} (h0 : a0 < a1) (h1 : a1 = 31) (h2 : a2 = 1) : a0 + a2 ≤ 2147483647 := oz233 h0 h1 h2
theorem os31 {a0 : Int}  : a0 = a0 := oz34
theorem os32 {a0 a1 a2 : Int} (h0 : a0 = a1 + a2) (h1 : a2 = 1) : a0 = a1 + 1 := oz169 h0 h1
theorem os33 {a0 a1 a2 : Int} (h0 : a0 = a1 + a2) (h1 : a2 = 1) : (31 - a0) < (31 - a1) := oz234 h0 h1
theorem os34 {a0 a1 : Int} (h0 : a0 < a1) (h1 : a1 = 31) : (1 : Int) ≤ (31 - a0) := oz235 h0 h1
theorem os50 {a0 : Int} (h0 : a0 ≤ 7) : a0 < 24 := oz248 h0
theorem os147 {a0 a1 : Int} (h0 : (1 : Int) ≤ a0) (h1 : a1 = 1) : (-2147483648 : Int) ≤ a0 - a1 := oz341 h0 h1
theorem os192 {a0 a1 a2 a3 : Int} (h0 : a0 < a1) (h1 : (0 : Int) ≤ a2) (h2 : (a1 + a3) ≤ 5) (h3 : a3 = a2) : a0 < 5 := oz670 h0 h1 h2 h3
theorem os193 {a0 a1 a2 a3 a4 : Int} (h0 : a0 < a1) (h1 : (0 : Int) ≤ a2) (h2 : (a1 + a3) ≤ 5) (h3 : a3 = a2) (h4 : a4 = 1) : a0 + a4 ≤ 2147483647 := oz671 h0 h1 h2 h3 h4
theorem os194 {a0 a1 a2 a3 : Int} (h0 : a0 < a1) (h1 : (0 : Int) ≤ a2) (h2 : (a1 + a3) ≤ 5) (h3 : a3 = a2) : a0 < 21 := oz672 h0 h1 h2 h3
theorem os195 {a0 : Int} (h0 : a0 ≤ 7) : a0 ≤ 7 := oz407 h0
theorem os198 {a0 a1 : Int} (h0 : (0 : Int) ≤ a0) (h1 : (0 : Int) ≤ a1) : (-2147483648 : Int) ≤ a0 + a1 := oz675 h0 h1
theorem os199 {a0 a1 a2 : Int} (h0 : a0 < a1) (h1 : a2 ≤ 124) (h2 : a1 = 31) : a2 + a0 ≤ 2147483647 := oz676 h0 h1 h2
theorem os200 {a0 a1 a2 : Int} (h0 : (0 : Int) ≤ a0) (h1 : (0 : Int) ≤ a1) (h2 : a2 = a0 + a1) : (0 : Int) ≤ a2 := oz677 h0 h1 h2
theorem os201 {a0 a1 a2 a3 : Int} (h0 : a0 < a1) (h1 : a2 ≤ 124) (h2 : a3 = a2 + a0) (h3 : a1 = 31) : a3 < 155 := oz678 h0 h1 h2 h3
theorem os202 {a0 a1 a2 : Int} (h0 : (0 : Int) ≤ a0) (h1 : a1 = a0 + a2) : a1 = ((a0.toNat : Nat) : Int) + a2 := by omega
theorem os203 {a0 a1 a2 : Int} (h0 : (0 : Int) ≤ a0) (h1 : (0 : Int) ≤ a1) (h2 : a2 = a0 + a1) : ((a0.toNat : Nat) : Int) ≤ a2 := by omega
theorem os237 {a0 a1 : Int} (h0 : a0 = a1) : a0 = a1 := oz719 h0
theorem os267 {a0 a1 : Int} (h0 : a0 = 31 * a1) : a0 = 31 * a1 := by omega
theorem os274 {a0 : Int} (h0 : a0 ≤ 8) : a0 ≤ 8 := oz559 h0
theorem os275 {a0 a1 : Int} (h0 : a0 ≤ 256) (h1 : a1 = 1) : a0 - a1 ≤ 2147483647 := oz690 h0 h1
theorem os282 {a0 a1 : Int} (h0 : a0 ≤ a1) (h1 : a0 = 0) : (0 : Int) ≤ a1 := oz389 h0 h1
theorem os283 {a0 a1 a2 a3 : Int} (h0 : a0 ≤ 256) (h1 : a1 = a0 - a2) (h2 : a3 ≤ a1) (h3 : a2 = 1) : a3 ≤ 255 := oz691 h0 h1 h2 h3
theorem os284 {a0 a1 a2 a3 a4 : Int} (h0 : a0 ≤ 256) (h1 : a1 = a0 - a2) (h2 : a3 ≤ a4) (h3 : a4 ≤ a1) (h4 : a2 = 1) (h5 : a3 = 0) : ((0 : Int) ≤ a4) ∧ (a4 ≤ 255) := oz692 h0 h1 h2 h3 h4 h5
theorem os285 {a0 a1 : Int} (h0 : a0 ≤ 8) (h1 : (0 : Int) ≤ a1) (h2 : a1 < a0) : ((0 : Int) ≤ a1) ∧ (a1 ≤ 7) := oz423 h0 h1 h2
theorem os286 {a0 a1 a2 a3 : Int} (h0 : a0 ≤ a1) (h1 : a0 = a2) (h2 : a1 = 5) (h3 : a3 = 0) : (a3 + a2) ≤ 5 := oz693 h0 h1 h2 h3
theorem os287 {a0 a1 : Int} (h0 : a0 ≠ a1) (h1 : a1 ≤ a0) (h2 : a1 = (-1)) : (0 : Int) ≤ a0 := oz694 h0 h1 h2
theorem os288 {a0 a1 a2 a3 a4 : Int} (h0 : a0 ≤ a1) (h1 : a2 < a3) (h2 : a0 = a4) (h3 : a3 = a4) (h4 : a1 = 5) : a2 < 5 := oz695 h0 h1 h2 h3 h4
theorem os306 {a0 : Int} (h0 : (0 : Int) ≤ a0) (h1 : a0 ≤ 5) : ((0 : Int) ≤ a0) ∧ (a0 ≤ 5) := oz35 h0 h1
theorem os310 {a0 a1 : Int} (h0 : ((-1) : Int) ≤ a0) (h1 : a1 = (-1)) : (-2147483648 : Int) ≤ a0 + a1 := oz516 h0 h1
theorem os311 {a0 a1 : Int} (h0 : a0 ≤ 2147483647) (h1 : a1 = (-1)) : a0 + a1 ≤ 2147483647 := oz517 h0 h1
theorem os312 {a0 a1 a2 a3 : Int} (h0 : a0 ≤ a1) (h1 : a2 = a1 + a3) (h2 : a0 = 0) (h3 : a3 = (-1)) : ((-1) : Int) ≤ a2 := oz518 h0 h1 h2 h3
theorem os313 {a0 a1 a2 : Int} (h0 : a0 = a1 + a2) (h1 : a2 = (-1)) : (a0 + 1) < (a1 + 1) := oz519 h0 h1
theorem os314 {a0 a1 : Int} (h0 : a0 ≤ a1) (h1 : a0 = 0) : (1 : Int) ≤ (a1 + 1) := oz520 h0 h1
theorem os315 {a0 : Int} (h0 : a0 = 9) : ((-1) : Int) ≤ a0 := oz521 h0
theorem os329 {a0 : Int} (h0 : (0 : Int) ≤ (a0 / 10)) (h1 : (a0 / 10) ≤ 5) : ((0 : Int) ≤ (a0 / 10)) ∧ ((a0 / 10) ≤ 5) := oz503 h0 h1
theorem os330 {a0 : Int} (h0 : (a0 % 10) ≤ 5) : (a0 % 10) ≤ 5 := oz504 h0
theorem os349 {a0 a1 : Int} (h0 : a0 = (a1 / 10)) (h1 : (0 : Int) ≤ a1) (h2 : (a1 / 10) ≤ 5) (h3 : (a1 % 10) ≤ 5) : ((0 : Int) ≤ a0) ∧ (a0 ≤ 5) := oz505 h0 h1 h2 h3
theorem os350 {a0 a1 a2 : Int} (h0 : a0 ≠ a1) (h1 : a0 ≠ a2) (h2 : a0 ≤ a1) (h3 : a2 ≤ a0) (h4 : a1 = 1) (h5 : a2 = 0) : False := oz510 h0 h1 h2 h3 h4 h5
theorem os351 {a0 a1 : Int} (h0 : a0 = a1) (h1 : a0 ≠ a1) (h2 : a0 ≤ a1) (h3 : a1 = 1) : False := oz511 h0 h1 h2 h3
theorem os352 {a0 a1 : Int} (h0 : a0 = (a1 % 10)) (h1 : (a1 % 10) ≤ 5) : ((0 : Int) ≤ a0) ∧ (a0 ≤ 5) := oz509 h0 h1
theorem os353 {a0 a1 a2 : Int} (h0 : a0 < a1) (h1 : a2 ≤ a0) (h2 : a1 ≤ 21) (h3 : a2 = 0) : ((0 : Int) ≤ a0) ∧ (a0 ≤ 20) := oz514 h0 h1 h2 h3
theorem os354 {a0 a1 a2 : Int} (h0 : a0 = a1) (h1 : a2 = a0) : a2 = a1 := oz762 h0 h1
theorem os355 {a0 a1 a2 : Int} (h0 : a0 = a1) (h1 : a0 = a2) (h2 : a1 = 1) (h3 : a2 = 0) : False := oz515 h0 h1 h2 h3
theorem os356 {a0 a1 a2 : Int} (h0 : a0 ≤ a1) (h1 : a2 ≤ 8) (h2 : a1 < a2) (h3 : a0 = 0) : ((0 : Int) ≤ a1) ∧ (a1 ≤ 7) := oz522 h0 h1 h2 h3
theorem os357 {a0 a1 : Int} (h0 : a0 < a1) (h1 : a1 = a0) (h2 : a0 = 1) : False := oz523 h0 h1 h2
theorem os358 {a0 a1 a2 : Int} (h0 : a0 < a1) (h1 : a1 = a2) (h2 : a0 = 1) (h3 : a2 = 0) : False := oz524 h0 h1 h2 h3
theorem os359 {a0 a1 : Int} (h0 : a0 = a1) (h1 : a0 ≠ a1) (h2 : a1 ≤ a0) (h3 : a1 = 0) : False := oz525 h0 h1 h2 h3
theorem os370 {a0 a1 a2 : Int} (h0 : a0 = a1) (h1 : a0 = a2) (h2 : a1 = 0) (h3 : a2 = 1) : False := oz533 h0 h1 h2 h3
theorem os371 {a0 a1 a2 : Int} (h0 : a0 = a1) (h1 : a2 < a0) (h2 : a1 = 0) (h3 : a2 = 1) : False := oz534 h0 h1 h2 h3
theorem kj_31 {a b x : Int} (h1 : a = 31 * x) (h2 : b = x + 1) (h0 : 0 ≤ x) : (31 * b).toNat = a.toNat + 31 := by omega
theorem kj_31b {a x : Int} (h1 : a = 31 * x) : (31 * x).toNat ≤ a.toNat := by omega
theorem kj_31c {b x : Int} (h2 : b = x + 1) : (31 * x).toNat ≤ (31 * b).toNat := by omega
def yw168_116_140 : kW := ([], [140], [], [])
def yw168_116_140_L2 : kW := ([], [140], [], [])
set_option maxRecDepth 100000 in
theorem ke168_116_140 {i : Nat → Int32} {a : Nat → List Int32} {q : Nat → List Int64} {r : Nat → Nat} (hI : kI i a q) (hr : kr r) (x2 : Int32) (hp0 : ((0 : Int) ≤ x2.toInt) ∧ (x2.toInt ≤ 124)) (hp1 : (x2.toInt % 31) = 0) : km 1 168 [.ref 116, .ref 140, .int x2] (ks i a q r) (kVN yw168_116_140 i a q r (fun i1 a1 q1 r1 => (True) ∧ (kCopd (a1 140) (a 118) x2.toInt.toNat 31 ∧ kLow x2.toInt.toNat (a1 140) (a 140)))) := by
  have hG := kG_self yw168_116_140 hI hr
  refine km_ofN (q := (mi_h168, mi_c168)) rfl (by decide) (Nat.le_of_ble_eq_true rfl) ?_
  intro P hP
  refine ft_go mi_k168 2 2 [(3, .int 0), (0, .ref 116), (1, .ref 140), (2, .int x2)] [] i a q r (by rfl) ?_
  have lp1 : ∀ (nz : Nat) (i1 : Nat → Int32) (a1 : Nat → List Int32) (q1 : Nat → List Int64) (r1 : Nat → Nat) (l3_1 : Int32), kG yw168_116_140_L2 i a q r i1 a1 q1 r1 → (0 : Int) ≤ l3_1.toInt → kCopd (a1 140) (a 118) x2.toInt.toNat l3_1.toInt → kLow x2.toInt.toNat (a1 140) (a 140) → ((31 - l3_1.toInt)).toNat < nz → ko 1 (mi_h168, mi_c168) P (2, [(3, .int l3_1), (0, .ref 116), (1, .ref 140), (2, .int x2)], [], (0, 0), ks i1 a1 q1 r1) := by
    intro nz
    induction nz with
    | zero =>
      intro _ _ _ _ _ _ _ _ _ hm
      exact absurd hm (Nat.not_lt_zero _)
    | succ nz ih1 =>
      intro i1 a1 q1 r1 l3_1 hL1 p1_0 O1_0 O1_1 hm1
      refine ft_go mi_k168 2 5 [(3, .int l3_1), (0, .ref 116), (1, .ref 140), (2, .int x2)] [.int 31, .int l3_1] i1 a1 q1 r1 (by rfl) ?_
      refine ft_if mi_k168 (decide (31 ≤ l3_1)) 25 8 [(3, .int l3_1), (0, .ref 116), (1, .ref 140), (2, .int x2)] [] (by rfl) (fun c => ?_) (fun c => ?_)
      ·
        have c2 : (31 : Int32).toInt ≤ l3_1.toInt := kd_le c; clear c
        have hG3 := kG_call hG hL1 (by decide +kernel)
        exact ft_ret mi_k168 (by rfl) (hP  _ _ _ _ hG3 ⟨trivial, ⟨kCopd_cast O1_0 rfl rfl (os21 c2 kos31), kLow_cast O1_1 rfl rfl (Nat.le_refl _)⟩⟩)
      ·
        have c4 : l3_1.toInt < (31 : Int32).toInt := kd_leF c; clear c
        have s5 : (x2 + l3_1).toInt = x2.toInt + l3_1.toInt := kd_add (os198 hp0.1 p1_0) (os199 c4 hp0.2 kos31)
        refine ft_go mi_k168 7 17 [(3, .int l3_1), (0, .ref 116), (1, .ref 140), (2, .int x2)] [.int l3_1, .ref 118, .int (x2 + l3_1), .ref 140] i1 a1 q1 r1 (by rfl) ?_
        refine ko_iald3 mi_k168.1 (n := 31) (c := 31) (ax := (0, 0, 0, 0, 0)) (mi_k168.2 _ _ (by rfl)) (by rfl) (ksG118 _ _ _ _) (hL1.I.2.1 118) rfl (os0 p1_0) (os24 c4 kos31) ?_
        have r6 : ((l3_1.toInt = 18 → (0 : Int) ≤ ((a1 118).getD l3_1.toNatClampNeg 0).toInt ∧ ((a1 118).getD l3_1.toNatClampNeg 0).toInt ≤ 5)) ∧ ((19 ≤ l3_1.toInt → l3_1.toInt ≤ 24 → (0 : Int) ≤ ((a1 118).getD l3_1.toNatClampNeg 0).toInt ∧ ((a1 118).getD l3_1.toNatClampNeg 0).toInt ≤ 7)) := kE_ncond (p := 118) hL1.I (by decide) (j := l3_1) (os0 p1_0)
        have u7 : ((a1 118).getD l3_1.toNatClampNeg 0).toInt = ((a 118).getD l3_1.toNatClampNeg 0).toInt := congrArg (fun z : List Int32 => (z.getD l3_1.toNatClampNeg 0).toInt) (hL1.fa 118 rfl)
        refine ko_iast3 mi_k168.1 (n := 155) (c := 155) (ax := (0, 0, 0, 0, 0)) (mi_k168.2 _ _ (by rfl)) (by rfl) (ksG140 _ _ _ _) (ksA140 _ _ _ _) (hL1.I.2.1 140) rfl (os200 hp0.1 p1_0 s5) (os201 c4 hp0.2 s5 kos31) ?_
        intro a8 ea8 fa8
        have hJ8 := kG_a3 hL1 140 rfl ea8 fa8 (kE_tset (os200 hp0.1 p1_0 s5) (by have := kos31; omega) (by have := kos31; omega))
        have s9 : (l3_1 + 1).toInt = l3_1.toInt + (1 : Int32).toInt := kd_add (os6 p1_0 kos1) (os29 c4 kos31 kos1)
        refine ft_go mi_k168 2 2 [(3, .int (l3_1 + 1)), (0, .ref 116), (1, .ref 140), (2, .int x2)] [] i1 a8 q1 r1 (by rfl) ?_
        exact ih1 _ _ _ _ _ hJ8 (os10 p1_0 s9 kos1) (kCopd_step O1_0 (hL1.I.2.1 140) (os0 p1_0) (os24 c4 kos31) (os202 hp0.1 s5) os31 (os201 c4 hp0.2 s5 kos31) (os32 s9 kos1) (hL1.fa 118 rfl) ea8 rfl) (kLow_step (y := (x2 + l3_1)) O1_1 (os203 hp0.1 p1_0 s5) ea8 rfl) (kj_meas (os33 s9 kos1) (os34 c4 kos31) hm1)
  exact lp1 _ _ _ _ _ _ (kG_self _ hG.I hG.R) (os19 kos0) (kCopd_zero kos0) (kLow_eq rfl) (Nat.lt_succ_self _)
def yw169_116_140 : kW := ([], [118], [], [])
def yw169_116_140_L2 : kW := ([], [118], [], [])
set_option maxRecDepth 100000 in
theorem ke169_116_140 {i : Nat → Int32} {a : Nat → List Int32} {q : Nat → List Int64} {r : Nat → Nat} (hI : kI i a q) (hr : kr r) (x2 : Int32) (hp0 : ((0 : Int) ≤ x2.toInt) ∧ (x2.toInt ≤ 124)) (hp1 : (x2.toInt % 31) = 0) : km 1 169 [.ref 116, .ref 140, .int x2] (ks i a q r) (kVN yw169_116_140 i a q r (fun i1 a1 q1 r1 => (True) ∧ kCopb (a1 118) (a 140) x2.toInt.toNat 31)) := by
  have hG := kG_self yw169_116_140 hI hr
  refine km_ofN (q := (mi_h169, mi_c169)) rfl (by decide) (Nat.le_of_ble_eq_true rfl) ?_
  intro P hP
  refine ft_go mi_k169 2 2 [(3, .int 0), (0, .ref 116), (1, .ref 140), (2, .int x2)] [] i a q r (by rfl) ?_
  have lp1 : ∀ (nz : Nat) (i1 : Nat → Int32) (a1 : Nat → List Int32) (q1 : Nat → List Int64) (r1 : Nat → Nat) (l3_1 : Int32), kG yw169_116_140_L2 i a q r i1 a1 q1 r1 → (0 : Int) ≤ l3_1.toInt → kCopb (a1 118) (a 140) x2.toInt.toNat l3_1.toInt → ((31 - l3_1.toInt)).toNat < nz → ko 1 (mi_h169, mi_c169) P (2, [(3, .int l3_1), (0, .ref 116), (1, .ref 140), (2, .int x2)], [], (0, 0), ks i1 a1 q1 r1) := by
    intro nz
    induction nz with
    | zero =>
      intro _ _ _ _ _ _ _ _ hm
      exact absurd hm (Nat.not_lt_zero _)
    | succ nz ih1 =>
      intro i1 a1 q1 r1 l3_1 hL1 p1_0 O1_0 hm1
      refine ft_go mi_k169 2 5 [(3, .int l3_1), (0, .ref 116), (1, .ref 140), (2, .int x2)] [.int 31, .int l3_1] i1 a1 q1 r1 (by rfl) ?_
      refine ft_if mi_k169 (decide (31 ≤ l3_1)) 25 8 [(3, .int l3_1), (0, .ref 116), (1, .ref 140), (2, .int x2)] [] (by rfl) (fun c => ?_) (fun c => ?_)
      ·
        have c2 : (31 : Int32).toInt ≤ l3_1.toInt := kd_le c; clear c
        have hG3 := kG_call hG hL1 (by decide +kernel)
        exact ft_ret mi_k169 (by rfl) (hP  _ _ _ _ hG3 ⟨trivial, (kCopb_cast O1_0 rfl rfl (os21 c2 kos31))⟩)
      ·
        have c4 : l3_1.toInt < (31 : Int32).toInt := kd_leF c; clear c
        have s5 : (x2 + l3_1).toInt = x2.toInt + l3_1.toInt := kd_add (os198 hp0.1 p1_0) (os199 c4 hp0.2 kos31)
        refine ft_go mi_k169 7 17 [(3, .int l3_1), (0, .ref 116), (1, .ref 140), (2, .int x2)] [.int (x2 + l3_1), .ref 140, .int l3_1, .ref 118] i1 a1 q1 r1 (by rfl) ?_
        refine ko_iald3 mi_k169.1 (n := 155) (c := 155) (ax := (0, 0, 0, 0, 0)) (mi_k169.2 _ _ (by rfl)) (by rfl) (ksG140 _ _ _ _) (hL1.I.2.1 140) rfl (os200 hp0.1 p1_0 s5) (os201 c4 hp0.2 s5 kos31) ?_
        have r6 : ((((x2 + l3_1).toInt % 31) = 18 → (0 : Int) ≤ ((a1 140).getD (x2 + l3_1).toNatClampNeg 0).toInt ∧ ((a1 140).getD (x2 + l3_1).toNatClampNeg 0).toInt ≤ 5)) ∧ ((19 ≤ ((x2 + l3_1).toInt % 31) → ((x2 + l3_1).toInt % 31) ≤ 24 → (0 : Int) ≤ ((a1 140).getD (x2 + l3_1).toNatClampNeg 0).toInt ∧ ((a1 140).getD (x2 + l3_1).toNatClampNeg 0).toInt ≤ 7)) := kE_tcond hL1.I (j := (x2 + l3_1)) (os200 hp0.1 p1_0 s5)
        refine ko_iast3 mi_k169.1 (n := 31) (c := 31) (ax := (0, 0, 0, 0, 0)) (mi_k169.2 _ _ (by rfl)) (by rfl) (ksG118 _ _ _ _) (ksA118 _ _ _ _) (hL1.I.2.1 118) rfl (os0 p1_0) (os24 c4 kos31) ?_
        intro a7 ea7 fa7
        have hJ7 := kG_a3 hL1 118 rfl ea7 fa7 (kE_nset (p := 118) (by decide) (os0 p1_0) (by have := kos31; omega) (by have := kos31; omega))
        have s8 : (l3_1 + 1).toInt = l3_1.toInt + (1 : Int32).toInt := kd_add (os6 p1_0 kos1) (os29 c4 kos31 kos1)
        refine ft_go mi_k169 2 2 [(3, .int (l3_1 + 1)), (0, .ref 116), (1, .ref 140), (2, .int x2)] [] i1 a7 q1 r1 (by rfl) ?_
        exact ih1 _ _ _ _ _ hJ7 (os10 p1_0 s8 kos1) (kCopb_step O1_0 (hL1.I.2.1 118) (os0 p1_0) (os24 c4 kos31) (os202 hp0.1 s5) os31 (os24 c4 kos31) (os32 s8 kos1) (hL1.fa 140 rfl) ea7 rfl) (kj_meas (os33 s8 kos1) (os34 c4 kos31) hm1)
  exact lp1 _ _ _ _ _ _ (kG_self _ hG.I hG.R) (os19 kos0) (kCopb_zero kos0) (Nat.lt_succ_self _)
def wOE : kW := ([7464, 7465, 7466, 7467, 7469, 7476], [118, 128, 129, 139, 141, 142, 143, 144, 145, 146, 147], [], [])
def yw184_116_L94 : kW := ([7464, 7465, 7466, 7467, 7469, 7476], [118, 128, 129, 139, 141, 142, 143, 144, 145, 146, 147], [], [])
def yw184_116_L12 : kW := ([], [142], [], [])
def yw184_116_L64 : kW := ([], [147], [], [])
def kLOE_184 (n : Nat) : Prop := ∀ (i : Nat → Int32) (a : Nat → List Int32) (q : Nat → List Int64) (r : Nat → Nat), kI i a q → kr r → ∀ (x1 : Int32) (x2 : Int32) (x3 : Int32), (0 : Int) ≤ x1.toInt → ((0 : Int) ≤ x2.toInt) ∧ (x2.toInt ≤ 255) → ((0 : Int) ≤ x3.toInt) ∧ (x3.toInt ≤ 7) → (x1.toInt + (kbc x2).toInt) ≤ 5 → (kbc x2).toInt = (n : Int) → kCode i a → km (6 * n + 30) 184 [.ref 116, .int x1, .int x2, .int x3] (ks i a q r) (kVN wOE i a q r (fun i1 a1 q1 r1 => (True) ∧ a1 118 = a 118))
set_option maxRecDepth 100000 in
theorem kLsOE_184 (n : Nat)  (ih : ∀ m, n = m + 1 → kLOE_184 m) : kLOE_184 n := by
  intro i a q r hI hr x1 x2 x3 hp0 hp1 hp2 hp3 hp4 hE_code
  have hG := kG_self wOE hI hr
  refine km_ofN (q := (mi_h184, mi_c184)) rfl (by decide) (Nat.le_of_ble_eq_true rfl) ?_
  intro P hP
  have hn0 : (0 : Int) ≤ (n : Int) := Int.natCast_nonneg n
  refine ft_go mi_k184 1 1 [(0, .ref 116), (1, .int x1), (2, .int x2), (3, .int x3)] [.int x2] i a q r (by rfl) ?_
  refine ft_if mi_k184 (x2 != 0) 91 4 [(0, .ref 116), (1, .int x1), (2, .int x2), (3, .int x3)] [] (by rfl) (fun c => ?_) (fun c => ?_)
  ·
    have c1 : x2.toInt ≠ (0 : Int32).toInt := kd_ne c; clear c
    have kb2 : (1 : Int) ≤ (kbc x2).toInt := kbc_pos (os0 hp1.1) (os1 hp1.2) (os2 c1 hp1.1 kos0)
    refine ft_go mi_k184 2 94 [(4, .int 0), (0, .ref 116), (1, .int x1), (2, .int x2), (3, .int x3)] [] i a q r (by rfl) ?_
    have lp3 : ∀ (nz : Nat) (i3 : Nat → Int32) (a3 : Nat → List Int32) (q3 : Nat → List Int64) (r3 : Nat → Nat) (l4_3 : Int32), kG yw184_116_L94 i a q r i3 a3 q3 r3 → (0 : Int) ≤ l4_3.toInt → a3 118 = a 118 → (((i3 7424).toInt - l4_3.toInt)).toNat < nz → ko (6 * n + 30) (mi_h184, mi_c184) P (94, [(4, .int l4_3), (0, .ref 116), (1, .int x1), (2, .int x2), (3, .int x3)], [], (0, 0), ks i3 a3 q3 r3) := by
      intro nz
      induction nz with
      | zero =>
        intro _ _ _ _ _ _ _ _ hm
        exact absurd hm (Nat.not_lt_zero _)
      | succ nz ih3 =>
        intro i3 a3 q3 r3 l4_3 hL3 p3_0 O3_0 hm3
        have fi3_7424 : ((0 : Int) ≤ (i3 7424).toInt) ∧ ((i3 7424).toInt ≤ 8) := hL3.I.1 7424
        refine ft_go mi_k184 3 100 [(4, .int l4_3), (0, .ref 116), (1, .int x1), (2, .int x2), (3, .int x3)] [.int (i3 7424), .int l4_3] i3 a3 q3 r3 (by rfl) ?_
        refine ft_if mi_k184 (decide ((i3 7424) ≤ l4_3)) 145 103 [(4, .int l4_3), (0, .ref 116), (1, .int x1), (2, .int x2), (3, .int x3)] [] (by rfl) (fun c => ?_) (fun c => ?_)
        ·
          have c4 : (i3 7424).toInt ≤ l4_3.toInt := kd_le c; clear c
          have hG5 := kG_call hG hL3 (by decide +kernel)
          exact ft_ret mi_k184 (by rfl) (hP  _ _ _ _ hG5 ⟨trivial, (show a3 118 = a 118 from (by first | rfl | (simp only [O3_0, sMn, sMx]; done) | (simp only [O3_0, sMn, sMx]; rfl)))⟩)
        ·
          have c6 : l4_3.toInt < (i3 7424).toInt := kd_leF c; clear c
          refine ft_go mi_k184 5 109 [(4, .int l4_3), (0, .ref 116), (1, .int x1), (2, .int x2), (3, .int x3)] [.int ((x2 >>> (l4_3 &&& 31)) &&& 1)] i3 a3 q3 r3 (by rfl) ?_
          refine ft_if mi_k184 (((x2 >>> (l4_3 &&& 31)) &&& 1) != 0) 115 112 [(4, .int l4_3), (0, .ref 116), (1, .int x1), (2, .int x2), (3, .int x3)] [] (by rfl) (fun c => ?_) (fun c => ?_)
          ·
            have c7 : ((x2 >>> (l4_3 &&& 31)) &&& 1).toInt ≠ (0 : Int32).toInt := kd_ne c; clear c
            have ks8 : ((kbc (x2 &&& ((1 <<< (l4_3 &&& 31)) ^^^ (-1)))).toInt = (kbc x2).toInt - 1) ∧ ((0 : Int) ≤ (x2 &&& ((1 <<< (l4_3 &&& 31)) ^^^ (-1))).toInt) ∧ ((x2 &&& ((1 <<< (l4_3 &&& 31)) ^^^ (-1))).toInt ≤ 255) := kbc_step (os0 hp1.1) (os1 hp1.2) (os0 p3_0) (os3 c6 fi3_7424.2) (os4 c7 kos0)
            refine ft_go mi_k184 4 122 [(4, .int l4_3), (0, .ref 116), (1, .int x1), (2, .int x2), (3, .int x3)] [.int l4_3, .int x1, .ref 146] i3 a3 q3 r3 (by rfl) ?_
            refine ko_iast3 mi_k184.1 (n := 5) (c := 5) (ax := (0, 0, 0, 0, 0)) (mi_k184.2 _ _ (by rfl)) (by rfl) (ksG146 _ _ _ _) (ksA146 _ _ _ _) (hL3.I.2.1 146) rfl (os0 hp0) (os5 hp3 kb2) ?_
            intro a9 ea9 fa9
            have hJ9 := kG_a3 hL3 146 rfl ea9 fa9 ⟨(os0 p3_0), (os3 c6 fi3_7424.2)⟩
            have s10 : (x1 + 1).toInt = x1.toInt + (1 : Int32).toInt := kd_add (os6 hp0 kos1) (os7 hp3 kb2 kos1)
            have s11 : ((1 : Int) ≤ (1 <<< (l4_3 &&& 31)).toInt) ∧ ((1 <<< (l4_3 &&& 31)).toInt ≤ 256) := kd_shl1 (os0 p3_0) (os8 c6 fi3_7424.2)
            refine ft_go mi_k184 12 136 [(4, .int l4_3), (0, .ref 116), (1, .int x1), (2, .int x2), (3, .int x3)] [.int x3, .int (x2 &&& ((1 <<< (l4_3 &&& 31)) ^^^ (-1))), .int (x1 + 1), .ref 116] i3 a9 q3 r3 (by rfl) ?_
            obtain ⟨m, hm, hmI⟩ := kj_pred (os9 hp4 kb2)
            have hG12 := kG_call hG hJ9 (by decide +kernel)
            refine ko_callN mi_k184.1 (pc := 136) (ls := [(4, .int l4_3), (0, .ref 116), (1, .int x1), (2, .int x2), (3, .int x3)]) (st := [.int x3, .int (x2 &&& ((1 <<< (l4_3 &&& 31)) ^^^ (-1))), .int (x1 + 1), .ref 116]) (h := ks i3 a9 q3 r3) (i := (.invokevirtual 300, 3, 184, 0, 9, 0, 436)) (mi_k184.2 _ _ (by rfl)) (ft_invS mi_pq184 (by rfl)) (cy := mi_c184) mi_pq184 rfl ((ih m hm) _ _ _ _ hJ9.I hJ9.R (x1 + 1) (x2 &&& ((1 <<< (l4_3 &&& 31)) ^^^ (-1))) x3 (os10 hp0 s10 kos1) (os11 ks8.2.1 ks8.2.2) (os12 hp2.1 hp2.2) (os13 hp3 ks8.1 s10 kos1) (os14 hmI hp4 ks8.1) (kCode_of (i1 := i3) hE_code (hG12.fi 7432 rfl) (hG12.fa 120 rfl) (hG12.fa 121 rfl) (hG12.fa 122 rfl) (hG12.fa 123 rfl))) (kj_d2 (n := n) (m := m) (o := 30) (o1 := 30) hm (by decide)) ?_
            intro ig13 ag13 qg13 rg13 kg13 hg13
            have hGg13 := kG_call hJ9 kg13 (by decide +kernel)
            obtain ⟨hg13, og13⟩ := hg13
            have s14 : (l4_3 + 1).toInt = l4_3.toInt + (1 : Int32).toInt := kd_add (os6 p3_0 kos1) (os15 c6 fi3_7424.2 kos1)
            refine ft_go mi_k184 2 94 [(4, .int (l4_3 + 1)), (0, .ref 116), (1, .int x1), (2, .int x2), (3, .int x3)] [] ig13 ag13 qg13 rg13 (by rfl) ?_
            have efig13_7424 : (ig13 7424).toInt = (i3 7424).toInt := kg13.ti 7424 rfl
            exact ih3 _ _ _ _ _ hGg13 (os10 p3_0 s14 kos1) (by first | rfl | (simp only [og13, fa9 118 (by decide), O3_0, sMn, sMx]; done) | (simp only [og13, fa9 118 (by decide), O3_0, sMn, sMx]; rfl)) (kj_meas (os16 efig13_7424 s14 kos1) (os17 c6) hm3)
          ·
            have c15 : ((x2 >>> (l4_3 &&& 31)) &&& 1).toInt = (0 : Int32).toInt := kd_neF c; clear c
            have s16 : (l4_3 + 1).toInt = l4_3.toInt + (1 : Int32).toInt := kd_add (os6 p3_0 kos1) (os15 c6 fi3_7424.2 kos1)
            refine ft_go mi_k184 3 94 [(4, .int (l4_3 + 1)), (0, .ref 116), (1, .int x1), (2, .int x2), (3, .int x3)] [] i3 a3 q3 r3 (by rfl) ?_
            exact ih3 _ _ _ _ _ hL3 (os10 p3_0 s16 kos1) (by first | rfl | (simp only [O3_0, sMn, sMx]; done) | (simp only [O3_0, sMn, sMx]; rfl)) (kj_meas (os18 s16 kos1) (os17 c6) hm3)
    exact lp3 _ _ _ _ _ _ (kG_self _ hG.I hG.R) (os19 kos0) rfl (Nat.lt_succ_self _)
  ·
    have c17 : x2.toInt = (0 : Int32).toInt := kd_neF c; clear c
    have hJ18 := kG_i hG 7469 rfl (v := x1) ⟨(os0 hp0), (os20 hn0 hp3 hp4)⟩
    refine ft_go mi_k184 5 12 [(4, .int 0), (0, .ref 116), (1, .int x1), (2, .int x2), (3, .int x3)] [] (ku i 7469 x1) a q r (by rfl) ?_
    have lp19 : ∀ (nz : Nat) (i19 : Nat → Int32) (a19 : Nat → List Int32) (q19 : Nat → List Int64) (r19 : Nat → Nat) (l4_19 : Int32), kG yw184_116_L12 (ku i 7469 x1) a q r i19 a19 q19 r19 → (0 : Int) ≤ l4_19.toInt → a19 118 = a 118 → ((x1.toInt - l4_19.toInt)).toNat < nz → ko (6 * n + 30) (mi_h184, mi_c184) P (12, [(4, .int l4_19), (0, .ref 116), (1, .int x1), (2, .int x2), (3, .int x3)], [], (0, 0), ks i19 a19 q19 r19) := by
      intro nz
      induction nz with
      | zero =>
        intro _ _ _ _ _ _ _ _ hm
        exact absurd hm (Nat.not_lt_zero _)
      | succ nz ih19 =>
        intro i19 a19 q19 r19 l4_19 hL19 p19_0 O19_0 hm19
        refine ft_go mi_k184 2 15 [(4, .int l4_19), (0, .ref 116), (1, .int x1), (2, .int x2), (3, .int x3)] [.int x1, .int l4_19] i19 a19 q19 r19 (by rfl) ?_
        refine ft_if mi_k184 (decide (x1 ≤ l4_19)) 38 18 [(4, .int l4_19), (0, .ref 116), (1, .int x1), (2, .int x2), (3, .int x3)] [] (by rfl) (fun c => ?_) (fun c => ?_)
        ·
          have c20 : x1.toInt ≤ l4_19.toInt := kd_le c; clear c
          have hG21 := kG_call hJ18 hL19 (by decide +kernel)
          refine ft_go mi_k184 2 40 [(4, .int l4_19), (0, .ref 116), (1, .int x1), (2, .int x2), (3, .int x3)] [.int x3, .ref 116] i19 a19 q19 r19 (by rfl) ?_
          refine ko_callI mi_k184.1 (pc := 40) (ls := [(4, .int l4_19), (0, .ref 116), (1, .int x1), (2, .int x2), (3, .int x3)]) (st := [.int x3, .ref 116]) (h := ks i19 a19 q19 r19) (i := (.invokevirtual 288, 3, 172, 0, 9, 0, 429)) (mi_k184.2 _ _ (by rfl)) (ft_invS mi_pq172 (by rfl)) (cy := mi_c172) mi_pq172 rfl (ke172_116 hG21.I hG21.R x3 (os12 hp2.1 hp2.2) (kCode_of (i1 := i19) hE_code (hG21.fi 7432 rfl) (hG21.fa 120 rfl) (hG21.fa 121 rfl) (hG21.fa 122 rfl) (hG21.fa 123 rfl))) (kj_d3 (n := n) (c := 13) (o1 := 30) (by decide)) ?_
          intro vg22 ig22 ag22 qg22 rg22 kg22 hg22
          have hGg22 := kG_call hG21 kg22 (by decide +kernel)
          obtain ⟨hg22, og22⟩ := hg22
          have q23 : ag22 118 = a19 118 := og22
          refine ft_go mi_k184 4 51 [(4, .int vg22), (0, .ref 116), (1, .int x1), (2, .int x2), (3, .int x3)] [.int (ig22 7476), .int vg22] ig22 ag22 qg22 rg22 (by rfl) ?_
          refine ft_if mi_k184 (decide ((ig22 7476) < vg22)) 55 54 [(4, .int vg22), (0, .ref 116), (1, .int x1), (2, .int x2), (3, .int x3)] [] (by rfl) (fun c => ?_) (fun c => ?_)
          ·
            have c24 : (ig22 7476).toInt < vg22.toInt := kd_lt c; clear c
            have hJ25 := kG_i hGg22 7476 rfl (v := vg22) (kd_bd _)
            refine ft_go mi_k184 5 64 [(5, .int 0), (4, .int vg22), (0, .ref 116), (1, .int x1), (2, .int x2), (3, .int x3)] [] (ku ig22 7476 vg22) ag22 qg22 rg22 (by rfl) ?_
            have lp26 : ∀ (nz : Nat) (i26 : Nat → Int32) (a26 : Nat → List Int32) (q26 : Nat → List Int64) (r26 : Nat → Nat) (l5_26 : Int32), kG yw184_116_L64 (ku ig22 7476 vg22) ag22 qg22 rg22 i26 a26 q26 r26 → (0 : Int) ≤ l5_26.toInt → a26 118 = a 118 → ((x1.toInt - l5_26.toInt)).toNat < nz → ko (6 * n + 30) (mi_h184, mi_c184) P (64, [(5, .int l5_26), (4, .int vg22), (0, .ref 116), (1, .int x1), (2, .int x2), (3, .int x3)], [], (0, 0), ks i26 a26 q26 r26) := by
              intro nz
              induction nz with
              | zero =>
                intro _ _ _ _ _ _ _ _ hm
                exact absurd hm (Nat.not_lt_zero _)
              | succ nz ih26 =>
                intro i26 a26 q26 r26 l5_26 hL26 p26_0 O26_0 hm26
                refine ft_go mi_k184 2 67 [(5, .int l5_26), (4, .int vg22), (0, .ref 116), (1, .int x1), (2, .int x2), (3, .int x3)] [.int x1, .int l5_26] i26 a26 q26 r26 (by rfl) ?_
                refine ft_if mi_k184 (decide (x1 ≤ l5_26)) 90 70 [(5, .int l5_26), (4, .int vg22), (0, .ref 116), (1, .int x1), (2, .int x2), (3, .int x3)] [] (by rfl) (fun c => ?_) (fun c => ?_)
                ·
                  have c27 : x1.toInt ≤ l5_26.toInt := kd_le c; clear c
                  have hG28 := kG_call hJ25 hL26 (by decide +kernel)
                  exact ft_ret mi_k184 (by rfl) (hP  _ _ _ _ hG28 ⟨trivial, (show a26 118 = a 118 from (by first | rfl | (simp only [O26_0, sMn, sMx]; done) | (simp only [O26_0, sMn, sMx]; rfl)))⟩)
                ·
                  have c29 : l5_26.toInt < x1.toInt := kd_leF c; clear c
                  refine ft_go mi_k184 6 82 [(5, .int l5_26), (4, .int vg22), (0, .ref 116), (1, .int x1), (2, .int x2), (3, .int x3)] [.int l5_26, .ref 146, .int l5_26, .ref 147] i26 a26 q26 r26 (by rfl) ?_
                  refine ko_iald3 mi_k184.1 (n := 5) (c := 5) (ax := (0, 0, 0, 0, 0)) (mi_k184.2 _ _ (by rfl)) (by rfl) (ksG146 _ _ _ _) (hL26.I.2.1 146) rfl (os0 p26_0) (os192 c29 hn0 hp3 hp4) ?_
                  have r30 : ((0 : Int) ≤ ((a26 146).getD l5_26.toNatClampNeg 0).toInt) ∧ (((a26 146).getD l5_26.toNatClampNeg 0).toInt ≤ 7) := hL26.I.2.2.1 146 (l5_26.toNatClampNeg)
                  refine ko_iast3 mi_k184.1 (n := 5) (c := 5) (ax := (0, 0, 0, 0, 0)) (mi_k184.2 _ _ (by rfl)) (by rfl) (ksG147 _ _ _ _) (ksA147 _ _ _ _) (hL26.I.2.1 147) rfl (os0 p26_0) (os192 c29 hn0 hp3 hp4) ?_
                  intro a31 ea31 fa31
                  have hJ31 := kG_a3 hL26 147 rfl ea31 fa31 (kd_bd _)
                  have s32 : (l5_26 + 1).toInt = l5_26.toInt + (1 : Int32).toInt := kd_add (os6 p26_0 kos1) (os193 c29 hn0 hp3 hp4 kos1)
                  refine ft_go mi_k184 2 64 [(5, .int (l5_26 + 1)), (4, .int vg22), (0, .ref 116), (1, .int x1), (2, .int x2), (3, .int x3)] [] i26 a31 q26 r26 (by rfl) ?_
                  exact ih26 _ _ _ _ _ hJ31 (os10 p26_0 s32 kos1) (by first | rfl | (simp only [fa31 118 (by decide), O26_0, sMn, sMx]; done) | (simp only [fa31 118 (by decide), O26_0, sMn, sMx]; rfl)) (kj_meas (os18 s32 kos1) (os17 c29) hm26)
            exact lp26 _ _ _ _ _ _ (kG_self _ hJ25.I hJ25.R) (os19 kos0) (by first | rfl | (simp only [q23, O19_0, sMn, sMx]; done) | (simp only [q23, O19_0, sMn, sMx]; rfl)) (Nat.lt_succ_self _)
          ·
            have c33 : vg22.toInt ≤ (ig22 7476).toInt := kd_ltF c; clear c
            exact ft_ret mi_k184 (by rfl) (hP  _ _ _ _ hGg22 ⟨trivial, (show ag22 118 = a 118 from (by first | rfl | (simp only [q23, O19_0, sMn, sMx]; done) | (simp only [q23, O19_0, sMn, sMx]; rfl)))⟩)
        ·
          have c34 : l4_19.toInt < x1.toInt := kd_leF c; clear c
          refine ft_go mi_k184 6 30 [(4, .int l4_19), (0, .ref 116), (1, .int x1), (2, .int x2), (3, .int x3)] [.int l4_19, .ref 146, .int l4_19, .ref 142] i19 a19 q19 r19 (by rfl) ?_
          refine ko_iald3 mi_k184.1 (n := 5) (c := 5) (ax := (0, 0, 0, 0, 0)) (mi_k184.2 _ _ (by rfl)) (by rfl) (ksG146 _ _ _ _) (hL19.I.2.1 146) rfl (os0 p19_0) (os192 c34 hn0 hp3 hp4) ?_
          have r35 : ((0 : Int) ≤ ((a19 146).getD l4_19.toNatClampNeg 0).toInt) ∧ (((a19 146).getD l4_19.toNatClampNeg 0).toInt ≤ 7) := hL19.I.2.2.1 146 (l4_19.toNatClampNeg)
          refine ko_iast3 mi_k184.1 (n := 21) (c := 21) (ax := (0, 0, 0, 0, 0)) (mi_k184.2 _ _ (by rfl)) (by rfl) (ksG142 _ _ _ _) (ksA142 _ _ _ _) (hL19.I.2.1 142) rfl (os0 p19_0) (os194 c34 hn0 hp3 hp4) ?_
          intro a36 ea36 fa36
          have hJ36 := kG_a3 hL19 142 rfl ea36 fa36 ⟨(os0 r35.1), (os195 r35.2)⟩
          have s37 : (l4_19 + 1).toInt = l4_19.toInt + (1 : Int32).toInt := kd_add (os6 p19_0 kos1) (os193 c34 hn0 hp3 hp4 kos1)
          refine ft_go mi_k184 2 12 [(4, .int (l4_19 + 1)), (0, .ref 116), (1, .int x1), (2, .int x2), (3, .int x3)] [] i19 a36 q19 r19 (by rfl) ?_
          exact ih19 _ _ _ _ _ hJ36 (os10 p19_0 s37 kos1) (by first | rfl | (simp only [fa36 118 (by decide), O19_0, sMn, sMx]; done) | (simp only [fa36 118 (by decide), O19_0, sMn, sMx]; rfl)) (kj_meas (os18 s37 kos1) (os17 c34) hm19)
    exact lp19 _ _ _ _ _ _ (kG_self _ hJ18.I hJ18.R) (os19 kos0) rfl (Nat.lt_succ_self _)
theorem kLallOE : ∀ n : Nat, kLOE_184 n
  | 0 => by
    have ih : ∀ m, 0 = m + 1 → kLOE_184 m := fun m h => by omega
    have h184 := kLsOE_184 0  ih
    exact h184
  | n + 1 => by
    have ih : ∀ m, n + 1 = m + 1 → kLOE_184 m := fun m h => by
      have e : n = m := by omega
      subst e
      exact kLallOE n
    have h184 := kLsOE_184 (n + 1)  ih
    exact h184
def yw185_116 : kW := ([7464, 7465, 7466, 7467, 7469, 7476], [118, 128, 129, 139, 141, 142, 143, 144, 145, 146, 147], [], [])
set_option maxRecDepth 100000 in
theorem ke185_116 {i : Nat → Int32} {a : Nat → List Int32} {q : Nat → List Int64} {r : Nat → Nat} (hI : kI i a q) (hr : kr r) (x1 : Int32) (x2 : Int32) (x3 : Int32) (hE_code : kCode i a) : km 63 185 [.ref 116, .int x1, .int x2, .int x3] (ks i a q r) (kVI yw185_116 i a q r (fun v i1 a1 q1 r1 => (True) ∧ a1 118 = a 118)) := by
  have hG := kG_self yw185_116 hI hr
  refine km_ofI (q := (mi_h185, mi_c185)) rfl (by decide) (Nat.le_of_ble_eq_true rfl) ?_
  intro P hP
  have fi_7424 : ((0 : Int) ≤ (i 7424).toInt) ∧ ((i 7424).toInt ≤ 8) := hG.I.1 7424
  have s1 : ((1 : Int) ≤ (1 <<< ((i 7424) &&& 31)).toInt) ∧ ((1 <<< ((i 7424) &&& 31)).toInt ≤ 256) := kd_shl1 (os0 fi_7424.1) (os274 fi_7424.2)
  have s2 : ((1 <<< ((i 7424) &&& 31)) - 1).toInt = (1 <<< ((i 7424) &&& 31)).toInt - (1 : Int32).toInt := kd_sub (os147 s1.1 kos1) (os275 s1.2 kos1)
  refine ft_go mi_k185 8 10 [(0, .ref 116), (1, .int x1), (2, .int x2), (3, .int x3)] [.int ((1 <<< ((i 7424) &&& 31)) - 1), .int 0, .int x1] i a q r (by rfl) ?_
  refine ko_callPI mi_k185.1 (pc := 10) (ls := [(0, .ref 116), (1, .int x1), (2, .int x2), (3, .int x3)]) (st := [.int ((1 <<< ((i 7424) &&& 31)) - 1), .int 0, .int x1]) (h := ks i a q r) (i := (.invokestatic 119, 3, 131, 0, 9, 0, 379)) (mi_k185.2 _ _ (by rfl)) (ft_invS mi_pq131 (by rfl)) (cy := mi_c131) mi_pq131 rfl (kc131 hG.I hG.R x1 0 ((1 <<< ((i 7424) &&& 31)) - 1)) (by decide) ?_
  intro vg3 hg3
  rcases hg3 with ⟨eg3, hg3⟩ | ⟨eg3, hg3⟩
  ·
    subst eg3
    have z4 : ((0 : Int32).toInt ≤ x1.toInt) ∧ (x1.toInt ≤ ((1 <<< ((i 7424) &&& 31)) - 1).toInt) := hg3
    refine ft_go mi_k185 3 18 [(0, .ref 116), (1, .int x1), (2, .int x2), (3, .int x3)] [.int x2, .ref 116] i a q r (by rfl) ?_
    refine ko_callPI mi_k185.1 (pc := 18) (ls := [(0, .ref 116), (1, .int x1), (2, .int x2), (3, .int x3)]) (st := [.int x2, .ref 116]) (h := ks i a q r) (i := (.invokevirtual 137, 3, 132, 0, 9, 0, 387)) (mi_k185.2 _ _ (by rfl)) (ft_invS mi_pq132 (by rfl)) (cy := mi_c132) mi_pq132 rfl (kc132_116 hG.I hG.R x2) (by decide) ?_
    intro vg5 hg5
    rcases hg5 with ⟨eg5, hg5⟩ | ⟨eg5, hg5⟩
    ·
      subst eg5
      have z6 : ((0 : Int) ≤ x2.toInt) ∧ (x2.toInt < (i 7424).toInt) := hg5
      refine ft_go mi_k185 3 26 [(0, .ref 116), (1, .int x1), (2, .int x2), (3, .int x3)] [.int (-1), .int x3] i a q r (by rfl) ?_
      refine ft_if mi_k185 (decide ((-1) ≤ x3)) 31 29 [(0, .ref 116), (1, .int x1), (2, .int x2), (3, .int x3)] [] (by rfl) (fun c => ?_) (fun c => ?_)
      ·
        have c7 : ((-1) : Int32).toInt ≤ x3.toInt := kd_le c; clear c
        have kb8 : (0 : Int) ≤ (kbc x1).toInt := kbc_nn (os282 z4.1 kos0) (os283 s1.2 s2 z4.2 kos1)
        refine ft_go mi_k185 1 32 [(0, .ref 116), (1, .int x1), (2, .int x2), (3, .int x3)] [.int x1] i a q r (by rfl) ?_
        refine ko_callPI mi_k185.1 (pc := 32) (ls := [(0, .ref 116), (1, .int x1), (2, .int x2), (3, .int x3)]) (st := [.int x1]) (h := ks i a q r) (i := (.invokestatic 303, 3, 226, 0, 9, 0, 435)) (mi_k185.2 _ _ (by rfl)) (ft_invS mi_pq226 (by rfl)) (cy := mi_c226) mi_pq226 rfl (kc226 hG.I hG.R x1) (by decide) ?_
        intro vg9 hg9
        have z10 : vg9.toInt = (kbc x1).toInt := hg9
        refine ft_go mi_k185 1 36 [(0, .ref 116), (1, .int x1), (2, .int x2), (3, .int x3)] [.int 5, .int vg9] i a q r (by rfl) ?_
        refine ft_if mi_k185 (decide (vg9 ≤ 5)) 42 39 [(0, .ref 116), (1, .int x1), (2, .int x2), (3, .int x3)] [] (by rfl) (fun c => ?_) (fun c => ?_)
        ·
          have c11 : vg9.toInt ≤ (5 : Int32).toInt := kd_le c; clear c
          refine ft_go mi_k185 2 44 [(0, .ref 116), (1, .int x1), (2, .int x2), (3, .int x3)] [.int x1, .int x3] i a q r (by rfl) ?_
          refine ko_callPI mi_k185.1 (pc := 44) (ls := [(0, .ref 116), (1, .int x1), (2, .int x2), (3, .int x3)]) (st := [.int x1, .int x3]) (h := ks i a q r) (i := (.invokestatic 303, 3, 226, 0, 9, 0, 435)) (mi_k185.2 _ _ (by rfl)) (ft_invS mi_pq226 (by rfl)) (cy := mi_c226) mi_pq226 rfl (kc226 hG.I hG.R x1) (by decide) ?_
          intro vg12 hg12
          have z13 : vg12.toInt = (kbc x1).toInt := hg12
          refine ft_if mi_k185 (decide (x3 < vg12)) 53 50 [(0, .ref 116), (1, .int x1), (2, .int x2), (3, .int x3)] [] (by rfl) (fun c => ?_) (fun c => ?_)
          ·
            have c14 : x3.toInt < vg12.toInt := kd_lt c; clear c
            have hJ15 := kG_i hG 7476 rfl (v := (-1)) (kd_bd _)
            refine ft_go mi_k185 7 62 [(0, .ref 116), (1, .int x1), (2, .int x2), (3, .int x3)] [.int x2, .int x1, .int 0, .ref 116] (ku i 7476 (-1)) a q r (by rfl) ?_
            have nn0 := kos0
            have nn0 := kos0
            refine ko_callN mi_k185.1 (pc := 62) (ls := [(0, .ref 116), (1, .int x1), (2, .int x2), (3, .int x3)]) (st := [.int x2, .int x1, .int 0, .ref 116]) (h := ks (ku i 7476 (-1)) a q r) (i := (.invokevirtual 300, 3, 184, 0, 9, 0, 436)) (mi_k185.2 _ _ (by rfl)) (ft_invS mi_pq184 (by rfl)) (cy := mi_c184) mi_pq184 rfl ((kLallOE ((kbc x1).toInt.toNat)) _ _ _ _ hJ15.I hJ15.R 0 x1 x2 (os19 kos0) (os284 s1.2 s2 z4.1 z4.2 kos1 kos0) (os285 fi_7424.2 z6.1 z6.2) (os286 c11 z10 kos5 kos0) (by have := kosm1; have := kos0; have := kos1; have := kos5; omega) (kCode_of (i1 := ku i 7476 (-1)) hE_code (hJ15.fi 7432 rfl) (hJ15.fa 120 rfl) (hJ15.fa 121 rfl) (hJ15.fa 122 rfl) (hJ15.fa 123 rfl))) (by have := kn0; have := kn1; have := kn5; omega) ?_
            intro ig16 ag16 qg16 rg16 kg16 hg16
            have hGg16 := kG_call hJ15 kg16 (by decide +kernel)
            obtain ⟨hg16, og16⟩ := hg16
            refine ft_go mi_k185 2 67 [(0, .ref 116), (1, .int x1), (2, .int x2), (3, .int x3)] [.int (-1), .int x3] ig16 ag16 qg16 rg16 (by rfl) ?_
            refine ft_if mi_k185 (x3 != (-1)) 77 70 [(0, .ref 116), (1, .int x1), (2, .int x2), (3, .int x3)] [] (by rfl) (fun c => ?_) (fun c => ?_)
            ·
              have c17 : x3.toInt ≠ ((-1) : Int32).toInt := kd_ne c; clear c
              refine ft_go mi_k185 3 82 [(0, .ref 116), (1, .int x1), (2, .int x2), (3, .int x3)] [.int x3, .ref 147] ig16 ag16 qg16 rg16 (by rfl) ?_
              refine ko_iald3 mi_k185.1 (n := 5) (c := 5) (ax := (0, 0, 0, 0, 0)) (mi_k185.2 _ _ (by rfl)) (by rfl) (ksG147 _ _ _ _) (hGg16.I.2.1 147) rfl (os287 c17 c7 kosm1) (os288 c11 c14 z10 z13 kos5) ?_
              exact ft_ret mi_k185 (by rfl) (hP ((ag16 147).getD x3.toNatClampNeg 0) _ _ _ _ hGg16 ⟨trivial, (show ag16 118 = a 118 from (by first | rfl | (simp only [og16, sMn, sMx]; done) | (simp only [og16, sMn, sMx]; rfl)))⟩)
            ·
              have c18 : x3.toInt = ((-1) : Int32).toInt := kd_neF c; clear c
              refine ft_go mi_k185 3 83 [(0, .ref 116), (1, .int x1), (2, .int x2), (3, .int x3)] [.int (ig16 7476)] ig16 ag16 qg16 rg16 (by rfl) ?_
              exact ft_ret mi_k185 (by rfl) (hP (ig16 7476) _ _ _ _ hGg16 ⟨trivial, (show ag16 118 = a 118 from (by first | rfl | (simp only [og16, sMn, sMx]; done) | (simp only [og16, sMn, sMx]; rfl)))⟩)
          ·
            have c19 : vg12.toInt ≤ x3.toInt := kd_ltF c; clear c
            refine ft_go mi_k185 1 52 [(0, .ref 116), (1, .int x1), (2, .int x2), (3, .int x3)] [.int (-2)] i a q r (by rfl) ?_
            exact ft_ret mi_k185 (by rfl) (hP (-2) _ _ _ _ hG ⟨trivial, (show a 118 = a 118 from rfl)⟩)
        ·
          have c20 : (5 : Int32).toInt < vg9.toInt := kd_leF c; clear c
          refine ft_go mi_k185 1 41 [(0, .ref 116), (1, .int x1), (2, .int x2), (3, .int x3)] [.int (-5)] i a q r (by rfl) ?_
          exact ft_ret mi_k185 (by rfl) (hP (-5) _ _ _ _ hG ⟨trivial, (show a 118 = a 118 from rfl)⟩)
      ·
        have c21 : x3.toInt < ((-1) : Int32).toInt := kd_leF c; clear c
        refine ft_go mi_k185 1 30 [(0, .ref 116), (1, .int x1), (2, .int x2), (3, .int x3)] [.int (-1)] i a q r (by rfl) ?_
        exact ft_ret mi_k185 (by rfl) (hP (-1) _ _ _ _ hG ⟨trivial, (show a 118 = a 118 from rfl)⟩)
    ·
      subst eg5
      refine ft_go mi_k185 2 30 [(0, .ref 116), (1, .int x1), (2, .int x2), (3, .int x3)] [.int (-1)] i a q r (by rfl) ?_
      exact ft_ret mi_k185 (by rfl) (hP (-1) _ _ _ _ hG ⟨trivial, (show a 118 = a 118 from rfl)⟩)
  ·
    subst eg3
    refine ft_go mi_k185 2 30 [(0, .ref 116), (1, .int x1), (2, .int x2), (3, .int x3)] [.int (-1)] i a q r (by rfl) ?_
    exact ft_ret mi_k185 (by rfl) (hP (-1) _ _ _ _ hG ⟨trivial, (show a 118 = a 118 from rfl)⟩)
def yw196_116 : kW := ([7464, 7465, 7466, 7467], [117, 118, 128, 129, 139, 141, 143, 144, 145], [], [])
def yw196_116_L19 : kW := ([7464, 7465, 7466, 7467], [117, 118, 128, 129, 139, 141, 143, 144, 145], [], [])
set_option maxRecDepth 100000 in
theorem ke196_116 {i : Nat → Int32} {a : Nat → List Int32} {q : Nat → List Int64} {r : Nat → Nat} (hI : kI i a q) (hr : kr r) (x1 : Int32) (x2 : Int32) (x3 : Int32) (hp0 : ((0 : Int) ≤ x1.toInt) ∧ (x1.toInt ≤ 5)) (hp1 : ((0 : Int) ≤ x2.toInt) ∧ (x2.toInt ≤ 7)) (hE_code : kCode i a) : km 15 196 [.ref 116, .int x1, .int x2, .int x3] (ks i a q r) (kVI yw196_116 i a q r (fun v i1 a1 q1 r1 => (True) ∧ (a1 118 = a 118 ∧ a1 117 = a 117))) := by
  have hG := kG_self yw196_116 hI hr
  refine km_ofI (q := (mi_h196, mi_c196)) rfl (by decide) (Nat.le_of_ble_eq_true rfl) ?_
  intro P hP
  refine ft_go mi_k196 3 5 [(0, .ref 116), (1, .int x1), (2, .int x2), (3, .int x3)] [.int x2, .ref 117] i a q r (by rfl) ?_
  refine ko_iald3 mi_k196.1 (n := 24) (c := 24) (ax := (0, 0, 0, 0, 0)) (mi_k196.2 _ _ (by rfl)) (by rfl) (ksG117 _ _ _ _) (hG.I.2.1 117) rfl (os0 hp1.1) (os50 hp1.2) ?_
  refine ft_go mi_k196 7 19 [(7, .int 9), (6, .int (-2)), (5, .int 0), (4, .int ((a 117).getD x2.toNatClampNeg 0)), (0, .ref 116), (1, .int x1), (2, .int x2), (3, .int x3)] [] i a q r (by rfl) ?_
  have lp1 : ∀ (nz : Nat) (i1 : Nat → Int32) (a1 : Nat → List Int32) (q1 : Nat → List Int64) (r1 : Nat → Nat) (l7_1 : Int32) (l6_1 : Int32) (l5_1 : Int32), kG yw196_116_L19 i a q r i1 a1 q1 r1 → ((-1) : Int) ≤ l7_1.toInt → kExc (a1 117) (a 117) x2.toNatClampNeg → a1 118 = a 118 → ((l7_1.toInt + 1)).toNat < nz → ko 15 (mi_h196, mi_c196) P (19, [(7, .int l7_1), (6, .int l6_1), (5, .int l5_1), (4, .int ((a 117).getD x2.toNatClampNeg 0)), (0, .ref 116), (1, .int x1), (2, .int x2), (3, .int x3)], [], (0, 0), ks i1 a1 q1 r1) := by
    intro nz
    induction nz with
    | zero =>
      intro _ _ _ _ _ _ _ _ _ _ _ hm
      exact absurd hm (Nat.not_lt_zero _)
    | succ nz ih1 =>
      intro i1 a1 q1 r1 l7_1 l6_1 l5_1 hL1 p1_0 O1_0 O1_1 hm1
      refine ft_go mi_k196 1 21 [(7, .int l7_1), (6, .int l6_1), (5, .int l5_1), (4, .int ((a 117).getD x2.toNatClampNeg 0)), (0, .ref 116), (1, .int x1), (2, .int x2), (3, .int x3)] [.int l7_1] i1 a1 q1 r1 (by rfl) ?_
      refine ft_if mi_k196 (decide (l7_1 < 0)) 58 24 [(7, .int l7_1), (6, .int l6_1), (5, .int l5_1), (4, .int ((a 117).getD x2.toNatClampNeg 0)), (0, .ref 116), (1, .int x1), (2, .int x2), (3, .int x3)] [] (by rfl) (fun c => ?_) (fun c => ?_)
      ·
        have c2 : l7_1.toInt < (0 : Int32).toInt := kd_lt c; clear c
        have hG3 := kG_call hG hL1 (by decide +kernel)
        refine ft_go mi_k196 4 65 [(7, .int l7_1), (6, .int l6_1), (5, .int l5_1), (4, .int ((a 117).getD x2.toNatClampNeg 0)), (0, .ref 116), (1, .int x1), (2, .int x2), (3, .int x3)] [.int ((a 117).getD x2.toNatClampNeg 0), .int x2, .ref 117] i1 a1 q1 r1 (by rfl) ?_
        refine ko_iast3 mi_k196.1 (n := 24) (c := 24) (ax := (0, 0, 0, 0, 0)) (mi_k196.2 _ _ (by rfl)) (by rfl) (ksG117 _ _ _ _) (ksA117 _ _ _ _) (hG3.I.2.1 117) rfl (os0 hp1.1) (os50 hp1.2) ?_
        intro a4 ea4 fa4
        have hJ4 := kG_a3 hG3 117 rfl ea4 fa4 (kd_bd _)
        refine ft_go mi_k196 1 67 [(7, .int l7_1), (6, .int l6_1), (5, .int l5_1), (4, .int ((a 117).getD x2.toNatClampNeg 0)), (0, .ref 116), (1, .int x1), (2, .int x2), (3, .int x3)] [.int x3] i1 a4 q1 r1 (by rfl) ?_
        refine ft_if mi_k196 (x3 == 0) 75 70 [(7, .int l7_1), (6, .int l6_1), (5, .int l5_1), (4, .int ((a 117).getD x2.toNatClampNeg 0)), (0, .ref 116), (1, .int x1), (2, .int x2), (3, .int x3)] [] (by rfl) (fun c => ?_) (fun c => ?_)
        ·
          have c5 : x3.toInt = (0 : Int32).toInt := kd_eq c; clear c
          refine ft_go mi_k196 1 77 [(7, .int l7_1), (6, .int l6_1), (5, .int l5_1), (4, .int ((a 117).getD x2.toNatClampNeg 0)), (0, .ref 116), (1, .int x1), (2, .int x2), (3, .int x3)] [.int l5_1] i1 a4 q1 r1 (by rfl) ?_
          exact ft_ret mi_k196 (by rfl) (hP l5_1 _ _ _ _ hJ4 ⟨trivial, ⟨(show a4 118 = a 118 from (by first | rfl | (simp only [fa4 118 (by decide), O1_1, sMn, sMx]; done) | (simp only [fa4 118 (by decide), O1_1, sMn, sMx]; rfl))), (show a4 117 = a 117 from (kExc_back O1_0 ea4 rfl (hG3.I.2.1 117) (hG.I.2.1 117)))⟩⟩)
        ·
          have c6 : x3.toInt ≠ (0 : Int32).toInt := kd_eqF c; clear c
          refine ft_go mi_k196 2 77 [(7, .int l7_1), (6, .int l6_1), (5, .int l5_1), (4, .int ((a 117).getD x2.toNatClampNeg 0)), (0, .ref 116), (1, .int x1), (2, .int x2), (3, .int x3)] [.int l6_1] i1 a4 q1 r1 (by rfl) ?_
          exact ft_ret mi_k196 (by rfl) (hP l6_1 _ _ _ _ hJ4 ⟨trivial, ⟨(show a4 118 = a 118 from (by first | rfl | (simp only [fa4 118 (by decide), O1_1, sMn, sMx]; done) | (simp only [fa4 118 (by decide), O1_1, sMn, sMx]; rfl))), (show a4 117 = a 117 from (kExc_back O1_0 ea4 rfl (hG3.I.2.1 117) (hG.I.2.1 117)))⟩⟩)
      ·
        have c7 : (0 : Int32).toInt ≤ l7_1.toInt := kd_ltF c; clear c
        refine ft_go mi_k196 4 31 [(7, .int l7_1), (6, .int l6_1), (5, .int l5_1), (4, .int ((a 117).getD x2.toNatClampNeg 0)), (0, .ref 116), (1, .int x1), (2, .int x2), (3, .int x3)] [.int l7_1, .int x2, .ref 117] i1 a1 q1 r1 (by rfl) ?_
        refine ko_iast3 mi_k196.1 (n := 24) (c := 24) (ax := (0, 0, 0, 0, 0)) (mi_k196.2 _ _ (by rfl)) (by rfl) (ksG117 _ _ _ _) (ksA117 _ _ _ _) (hL1.I.2.1 117) rfl (os0 hp1.1) (os50 hp1.2) ?_
        intro a8 ea8 fa8
        have hJ8 := kG_a3 hL1 117 rfl ea8 fa8 (kd_bd _)
        refine ft_go mi_k196 2 34 [(7, .int l7_1), (6, .int l6_1), (5, .int l5_1), (4, .int ((a 117).getD x2.toNatClampNeg 0)), (0, .ref 116), (1, .int x1), (2, .int x2), (3, .int x3)] [.int x1, .ref 116] i1 a8 q1 r1 (by rfl) ?_
        have hG9 := kG_call hG hJ8 (by decide +kernel)
        refine ko_callI mi_k196.1 (pc := 34) (ls := [(7, .int l7_1), (6, .int l6_1), (5, .int l5_1), (4, .int ((a 117).getD x2.toNatClampNeg 0)), (0, .ref 116), (1, .int x1), (2, .int x2), (3, .int x3)]) (st := [.int x1, .ref 116]) (h := ks i1 a8 q1 r1) (i := (.invokevirtual 320, 3, 192, 0, 9, 0, 444)) (mi_k196.2 _ _ (by rfl)) (ft_invS mi_pq192 (by rfl)) (cy := mi_c192) mi_pq192 rfl (ke192_116 hJ8.I hJ8.R x1 (os306 hp0.1 hp0.2) (kCode_of (i1 := i1) hE_code (hG9.fi 7432 rfl) (hG9.fa 120 rfl) (hG9.fa 121 rfl) (hG9.fa 122 rfl) (hG9.fa 123 rfl))) (by decide) ?_
        intro vg10 ig10 ag10 qg10 rg10 kg10 hg10
        have hGg10 := kG_call hJ8 kg10 (by decide +kernel)
        obtain ⟨hg10, og10⟩ := hg10
        have q11 : ag10 118 = a8 118 := og10
        refine ft_go mi_k196 1 39 [(7, .int l7_1), (6, .int l6_1), (5, .int l5_1), (4, .int ((a 117).getD x2.toNatClampNeg 0)), (0, .ref 116), (1, .int x1), (2, .int x2), (3, .int x3)] [.int (-2), .int vg10] ig10 ag10 qg10 rg10 (by rfl) ?_
        refine ft_if mi_k196 (vg10 == (-2)) 45 42 [(7, .int l7_1), (6, .int l6_1), (5, .int l5_1), (4, .int ((a 117).getD x2.toNatClampNeg 0)), (0, .ref 116), (1, .int x1), (2, .int x2), (3, .int x3)] [] (by rfl) (fun c => ?_) (fun c => ?_)
        ·
          have c12 : vg10.toInt = ((-2) : Int32).toInt := kd_eq c; clear c
          have b13 : ((-2147483648 : Int) ≤ l5_1.toInt) ∧ (l5_1.toInt ≤ 2147483647) := kd_bd l5_1
          have b14 : ((-2147483648 : Int) ≤ l7_1.toInt) ∧ (l7_1.toInt ≤ 2147483647) := kd_bd l7_1
          have s15 : (l7_1 + (-1)).toInt = l7_1.toInt + ((-1) : Int32).toInt := kd_add (os310 p1_0 kosm1) (os311 b14.2 kosm1)
          refine ft_go mi_k196 5 19 [(7, .int (l7_1 + (-1))), (6, .int l7_1), (5, .int (l5_1 + 1)), (4, .int ((a 117).getD x2.toNatClampNeg 0)), (0, .ref 116), (1, .int x1), (2, .int x2), (3, .int x3)] [] ig10 ag10 qg10 rg10 (by rfl) ?_
          exact ih1 _ _ _ _ _ _ _ hGg10 (os312 c7 s15 kos0 kosm1) (kExc_set O1_0 ea8 (kg10.fa 117 rfl)) (by first | rfl | (simp only [q11, fa8 118 (by decide), O1_1, sMn, sMx]; done) | (simp only [q11, fa8 118 (by decide), O1_1, sMn, sMx]; rfl)) (kj_meas (os313 s15 kosm1) (os314 c7 kos0) hm1)
        ·
          have c16 : vg10.toInt ≠ ((-2) : Int32).toInt := kd_eqF c; clear c
          have b17 : ((-2147483648 : Int) ≤ l7_1.toInt) ∧ (l7_1.toInt ≤ 2147483647) := kd_bd l7_1
          have s18 : (l7_1 + (-1)).toInt = l7_1.toInt + ((-1) : Int32).toInt := kd_add (os310 p1_0 kosm1) (os311 b17.2 kosm1)
          refine ft_go mi_k196 3 19 [(7, .int (l7_1 + (-1))), (6, .int l6_1), (5, .int l5_1), (4, .int ((a 117).getD x2.toNatClampNeg 0)), (0, .ref 116), (1, .int x1), (2, .int x2), (3, .int x3)] [] ig10 ag10 qg10 rg10 (by rfl) ?_
          exact ih1 _ _ _ _ _ _ _ hGg10 (os312 c7 s18 kos0 kosm1) (kExc_set O1_0 ea8 (kg10.fa 117 rfl)) (by first | rfl | (simp only [q11, fa8 118 (by decide), O1_1, sMn, sMx]; done) | (simp only [q11, fa8 118 (by decide), O1_1, sMn, sMx]; rfl)) (kj_meas (os313 s18 kosm1) (os314 c7 kos0) hm1)
  exact lp1 _ _ _ _ _ _ _ _ (kG_self _ hG.I hG.R) (os315 kos9) (kExc_eq rfl) rfl (Nat.lt_succ_self _)
def yw197_116 : kW := ([7426, 7464, 7465, 7466, 7467, 7469], [117, 118, 128, 129, 139, 141, 142, 143, 144, 145], [], [])
set_option maxRecDepth 100000 in
theorem ke197_116 {i : Nat → Int32} {a : Nat → List Int32} {q : Nat → List Int64} {r : Nat → Nat} (hI : kI i a q) (hr : kr r) (x1 : Int32) (x2 : Int32) (x3 : Int32) (hE_code : kCode i a) : km 17 197 [.ref 116, .int x1, .int x2, .int x3] (ks i a q r) (kVI yw197_116 i a q r (fun v i1 a1 q1 r1 => ((i1 7426).toInt = (i 7426).toInt) ∧ (a1 118 = a 118 ∧ a1 117 = a 117))) := by
  have hG := kG_self yw197_116 hI hr
  refine km_ofI (q := (mi_h197, mi_c197)) rfl (by decide) (Nat.le_of_ble_eq_true rfl) ?_
  intro P hP
  refine ft_go mi_k197 2 2 [(0, .ref 116), (1, .int x1), (2, .int x2), (3, .int x3)] [.int x1, .ref 116] i a q r (by rfl) ?_
  refine ko_callPI mi_k197.1 (pc := 2) (ls := [(0, .ref 116), (1, .int x1), (2, .int x2), (3, .int x3)]) (st := [.int x1, .ref 116]) (h := ks i a q r) (i := (.invokevirtual 314, 3, 190, 0, 9, 0, 442)) (mi_k197.2 _ _ (by rfl)) (ft_invS mi_pq190 (by rfl)) (cy := mi_c190) mi_pq190 rfl (kc190_116 hG.I hG.R x1) (by decide) ?_
  intro vg1 hg1
  rcases hg1 with ⟨eg1, hg1⟩ | ⟨eg1, hg1⟩
  ·
    subst eg1
    have z2 : ((0 : Int) ≤ x1.toInt) ∧ (((0 : Int) ≤ (x1.toInt / 10)) ∧ ((x1.toInt / 10) ≤ 5)) ∧ ((x1.toInt % 10) ≤ 5) := hg1
    refine ft_go mi_k197 4 11 [(0, .ref 116), (1, .int x1), (2, .int x2), (3, .int x3)] [.int 3, .int 0, .int x3] i a q r (by rfl) ?_
    refine ko_callPI mi_k197.1 (pc := 11) (ls := [(0, .ref 116), (1, .int x1), (2, .int x2), (3, .int x3)]) (st := [.int 3, .int 0, .int x3]) (h := ks i a q r) (i := (.invokestatic 119, 3, 131, 0, 9, 0, 379)) (mi_k197.2 _ _ (by rfl)) (ft_invS mi_pq131 (by rfl)) (cy := mi_c131) mi_pq131 rfl (kc131 hG.I hG.R x3 0 3) (by decide) ?_
    intro vg3 hg3
    rcases hg3 with ⟨eg3, hg3⟩ | ⟨eg3, hg3⟩
    ·
      subst eg3
      have z4 : ((0 : Int32).toInt ≤ x3.toInt) ∧ (x3.toInt ≤ (3 : Int32).toInt) := hg3
      refine ft_go mi_k197 2 18 [(0, .ref 116), (1, .int x1), (2, .int x2), (3, .int x3)] [.int x2] i a q r (by rfl) ?_
      refine ft_if mi_k197 (decide (x2 < 0)) 42 21 [(0, .ref 116), (1, .int x1), (2, .int x2), (3, .int x3)] [] (by rfl) (fun c => ?_) (fun c => ?_)
      ·
        have c5 : x2.toInt < (0 : Int32).toInt := kd_lt c; clear c
        refine ft_go mi_k197 1 43 [(0, .ref 116), (1, .int x1), (2, .int x2), (3, .int x3)] [.int (-1)] i a q r (by rfl) ?_
        exact ft_ret mi_k197 (by rfl) (hP (-1) _ _ _ _ hG ⟨os31, ⟨(show a 118 = a 118 from rfl), (show a 117 = a 117 from rfl)⟩⟩)
      ·
        have c6 : (0 : Int32).toInt ≤ x2.toInt := kd_ltF c; clear c
        refine ft_go mi_k197 1 22 [(0, .ref 116), (1, .int x1), (2, .int x2), (3, .int x3)] [.int x3] i a q r (by rfl) ?_
        refine ft_if mi_k197 (x3 != 0) 29 25 [(0, .ref 116), (1, .int x1), (2, .int x2), (3, .int x3)] [] (by rfl) (fun c => ?_) (fun c => ?_)
        ·
          have c7 : x3.toInt ≠ (0 : Int32).toInt := kd_ne c; clear c
          refine ft_go mi_k197 2 31 [(0, .ref 116), (1, .int x1), (2, .int x2), (3, .int x3)] [.int 1, .int x3] i a q r (by rfl) ?_
          refine ft_if mi_k197 (decide (x3 ≤ 1)) 44 34 [(0, .ref 116), (1, .int x1), (2, .int x2), (3, .int x3)] [] (by rfl) (fun c => ?_) (fun c => ?_)
          ·
            have c8 : x3.toInt ≤ (1 : Int32).toInt := kd_le c; clear c
            refine ft_go mi_k197 2 46 [(0, .ref 116), (1, .int x1), (2, .int x2), (3, .int x3)] [.int x1, .ref 116] i a q r (by rfl) ?_
            refine ko_callPI mi_k197.1 (pc := 46) (ls := [(0, .ref 116), (1, .int x1), (2, .int x2), (3, .int x3)]) (st := [.int x1, .ref 116]) (h := ks i a q r) (i := (.invokevirtual 317, 3, 191, 0, 9, 0, 443)) (mi_k197.2 _ _ (by rfl)) (ft_invS mi_pq191 (by rfl)) (cy := mi_c191) mi_pq191 rfl (kc191_116 hG.I hG.R x1 (os329 z2.2.1.1 z2.2.1.2) (os0 z2.1) (os330 z2.2.2)) (by decide) ?_
            intro vg9 hg9
            refine ft_go mi_k197 2 53 [(4, .int vg9), (0, .ref 116), (1, .int x1), (2, .int x2), (3, .int x3)] [.int vg9] i a q r (by rfl) ?_
            refine ft_if mi_k197 (decide (0 ≤ vg9)) 59 56 [(4, .int vg9), (0, .ref 116), (1, .int x1), (2, .int x2), (3, .int x3)] [] (by rfl) (fun c => ?_) (fun c => ?_)
            ·
              have c11 : (0 : Int32).toInt ≤ vg9.toInt := kd_le c; clear c
              have s12 : (x1 / 10).toInt = (x1.toInt / 10) := kd_div 10 kos10 (by decide) (os0 z2.1)
              refine ft_go mi_k197 4 64 [(4, .int vg9), (0, .ref 116), (1, .int x1), (2, .int x2), (3, .int x3)] [.int (x1 / 10), .ref 116] i a q r (by rfl) ?_
              refine ko_callN mi_k197.1 (pc := 64) (ls := [(4, .int vg9), (0, .ref 116), (1, .int x1), (2, .int x2), (3, .int x3)]) (st := [.int (x1 / 10), .ref 116]) (h := ks i a q r) (i := (.invokevirtual 279, 3, 174, 0, 9, 0, 411)) (mi_k197.2 _ _ (by rfl)) (ft_invS mi_pq174 (by rfl)) (cy := mi_c174) mi_pq174 rfl (kc174_116 hG.I hG.R (x1 / 10) (os349 s12 z2.1 z2.2.1.2 z2.2.2)) (by decide) ?_
              intro ig13 ag13 qg13 rg13 kg13 hg13
              have hGg13 := kG_call hG kg13 (by decide +kernel)
              have fig13_7469 : ((0 : Int) ≤ (ig13 7469).toInt) ∧ ((ig13 7469).toInt ≤ 21) := hGg13.I.1 7469
              refine ft_go mi_k197 2 69 [(4, .int vg9), (0, .ref 116), (1, .int x1), (2, .int x2), (3, .int x3)] [.int 1, .int x3] ig13 ag13 qg13 rg13 (by rfl) ?_
              refine ft_if mi_k197 (x3 != 1) 82 72 [(4, .int vg9), (0, .ref 116), (1, .int x1), (2, .int x2), (3, .int x3)] [] (by rfl) (fun c => ?_) (fun c => ?_)
              ·
                have c15 : x3.toInt ≠ (1 : Int32).toInt := kd_ne c; clear c
                exact (os350 c15 c7 c8 z4.1 kos1 kos0).elim
              ·
                have c16 : x3.toInt = (1 : Int32).toInt := kd_neF c; clear c
                refine ft_go mi_k197 3 77 [(4, .int vg9), (0, .ref 116), (1, .int x1), (2, .int x2), (3, .int x3)] [.int (ig13 7469), .int x2] ig13 ag13 qg13 rg13 (by rfl) ?_
                refine ft_if mi_k197 (decide (x2 < (ig13 7469))) 82 80 [(4, .int vg9), (0, .ref 116), (1, .int x1), (2, .int x2), (3, .int x3)] [] (by rfl) (fun c => ?_) (fun c => ?_)
                ·
                  have c17 : x2.toInt < (ig13 7469).toInt := kd_lt c; clear c
                  refine ft_go mi_k197 1 83 [(4, .int vg9), (0, .ref 116), (1, .int x1), (2, .int x2), (3, .int x3)] [.int x3] ig13 ag13 qg13 rg13 (by rfl) ?_
                  refine ft_if mi_k197 (x3 != 0) 97 86 [(4, .int vg9), (0, .ref 116), (1, .int x1), (2, .int x2), (3, .int x3)] [] (by rfl) (fun c => ?_) (fun c => ?_)
                  ·
                    have c18 : x3.toInt ≠ (0 : Int32).toInt := kd_ne c; clear c
                    refine ft_go mi_k197 2 99 [(4, .int vg9), (0, .ref 116), (1, .int x1), (2, .int x2), (3, .int x3)] [.int 1, .int x3] ig13 ag13 qg13 rg13 (by rfl) ?_
                    refine ft_if mi_k197 (x3 != 1) 114 102 [(4, .int vg9), (0, .ref 116), (1, .int x1), (2, .int x2), (3, .int x3)] [] (by rfl) (fun c => ?_) (fun c => ?_)
                    ·
                      have c19 : x3.toInt ≠ (1 : Int32).toInt := kd_ne c; clear c
                      exact (os351 c16 c19 c8 kos1).elim
                    ·
                      have c20 : x3.toInt = (1 : Int32).toInt := kd_neF c; clear c
                      have s21 : (x1 - x1 / 10 * 10).toInt = (x1.toInt % 10) := kd_rem 10 kos10 (by decide) (os0 z2.1)
                      refine ft_go mi_k197 5 108 [(4, .int vg9), (0, .ref 116), (1, .int x1), (2, .int x2), (3, .int x3)] [.int x2, .int (x1 - x1 / 10 * 10), .ref 116] ig13 ag13 qg13 rg13 (by rfl) ?_
                      refine ko_callI mi_k197.1 (pc := 108) (ls := [(4, .int vg9), (0, .ref 116), (1, .int x1), (2, .int x2), (3, .int x3)]) (st := [.int x2, .int (x1 - x1 / 10 * 10), .ref 116]) (h := ks ig13 ag13 qg13 rg13) (i := (.invokevirtual 326, 3, 195, 0, 9, 0, 447)) (mi_k197.2 _ _ (by rfl)) (ft_invS mi_pq195 (by rfl)) (cy := mi_c195) mi_pq195 rfl (ke195_116 hGg13.I hGg13.R (x1 - x1 / 10 * 10) x2 (os352 s21 z2.2.2) (os353 c17 c6 fig13_7469.2 kos0) (kCode_of (i1 := ig13) hE_code (hGg13.fi 7432 rfl) (hGg13.fa 120 rfl) (hGg13.fa 121 rfl) (hGg13.fa 122 rfl) (hGg13.fa 123 rfl))) (by decide) ?_
                      intro vg22 ig22 ag22 qg22 rg22 kg22 hg22
                      have hGg22 := kG_call hGg13 kg22 (by decide +kernel)
                      obtain ⟨hg22, og22⟩ := hg22
                      have q23 : ag22 118 = ag13 118 := og22
                      refine ft_go mi_k197 1 133 [(4, .int vg9), (0, .ref 116), (1, .int x1), (2, .int x2), (3, .int x3)] [.int vg22] ig22 ag22 qg22 rg22 (by rfl) ?_
                      have efig13_7426 : (ig13 7426).toInt = (i 7426).toInt := kg13.ti 7426 rfl
                      have efig22_7426 : (ig22 7426).toInt = (ig13 7426).toInt := kg22.ti 7426 rfl
                      exact ft_ret mi_k197 (by rfl) (hP vg22 _ _ _ _ hGg22 ⟨(os354 efig13_7426 efig22_7426), ⟨(show ag22 118 = a 118 from (by first | rfl | (simp only [q23, kg13.fa 118 rfl, sMn, sMx]; done) | (simp only [q23, kg13.fa 118 rfl, sMn, sMx]; rfl))), (show ag22 117 = a 117 from (by first | rfl | (simp only [kg22.fa 117 rfl, kg13.fa 117 rfl, sMn, sMx]; done) | (simp only [kg22.fa 117 rfl, kg13.fa 117 rfl, sMn, sMx]; rfl)))⟩⟩)
                  ·
                    have c24 : x3.toInt = (0 : Int32).toInt := kd_neF c; clear c
                    exact (os355 c16 c24 kos1 kos0).elim
                ·
                  have c25 : (ig13 7469).toInt ≤ x2.toInt := kd_ltF c; clear c
                  refine ft_go mi_k197 1 81 [(4, .int vg9), (0, .ref 116), (1, .int x1), (2, .int x2), (3, .int x3)] [.int (-1)] ig13 ag13 qg13 rg13 (by rfl) ?_
                  have efig13_7426 : (ig13 7426).toInt = (i 7426).toInt := kg13.ti 7426 rfl
                  exact ft_ret mi_k197 (by rfl) (hP (-1) _ _ _ _ hGg13 ⟨(os237 efig13_7426), ⟨(show ag13 118 = a 118 from (by first | rfl | (simp only [kg13.fa 118 rfl, sMn, sMx]; done) | (simp only [kg13.fa 118 rfl, sMn, sMx]; rfl))), (show ag13 117 = a 117 from (by first | rfl | (simp only [kg13.fa 117 rfl, sMn, sMx]; done) | (simp only [kg13.fa 117 rfl, sMn, sMx]; rfl)))⟩⟩)
            ·
              have c26 : vg9.toInt < (0 : Int32).toInt := kd_leF c; clear c
              refine ft_go mi_k197 1 58 [(4, .int vg9), (0, .ref 116), (1, .int x1), (2, .int x2), (3, .int x3)] [.int vg9] i a q r (by rfl) ?_
              exact ft_ret mi_k197 (by rfl) (hP vg9 _ _ _ _ hG ⟨os31, ⟨(show a 118 = a 118 from rfl), (show a 117 = a 117 from rfl)⟩⟩)
          ·
            have c27 : (1 : Int32).toInt < x3.toInt := kd_leF c; clear c
            refine ft_go mi_k197 2 36 [(0, .ref 116), (1, .int x1), (2, .int x2), (3, .int x3)] [.int x2, .ref 116] i a q r (by rfl) ?_
            refine ko_callPI mi_k197.1 (pc := 36) (ls := [(0, .ref 116), (1, .int x1), (2, .int x2), (3, .int x3)]) (st := [.int x2, .ref 116]) (h := ks i a q r) (i := (.invokevirtual 137, 3, 132, 0, 9, 0, 387)) (mi_k197.2 _ _ (by rfl)) (ft_invS mi_pq132 (by rfl)) (cy := mi_c132) mi_pq132 rfl (kc132_116 hG.I hG.R x2) (by decide) ?_
            intro vg28 hg28
            rcases hg28 with ⟨eg28, hg28⟩ | ⟨eg28, hg28⟩
            ·
              subst eg28
              have fi_7424 : ((0 : Int) ≤ (i 7424).toInt) ∧ ((i 7424).toInt ≤ 8) := hG.I.1 7424
              have z29 : ((0 : Int) ≤ x2.toInt) ∧ (x2.toInt < (i 7424).toInt) := hg28
              refine ft_go mi_k197 3 46 [(0, .ref 116), (1, .int x1), (2, .int x2), (3, .int x3)] [.int x1, .ref 116] i a q r (by rfl) ?_
              refine ko_callPI mi_k197.1 (pc := 46) (ls := [(0, .ref 116), (1, .int x1), (2, .int x2), (3, .int x3)]) (st := [.int x1, .ref 116]) (h := ks i a q r) (i := (.invokevirtual 317, 3, 191, 0, 9, 0, 443)) (mi_k197.2 _ _ (by rfl)) (ft_invS mi_pq191 (by rfl)) (cy := mi_c191) mi_pq191 rfl (kc191_116 hG.I hG.R x1 (os329 z2.2.1.1 z2.2.1.2) (os0 z2.1) (os330 z2.2.2)) (by decide) ?_
              intro vg30 hg30
              refine ft_go mi_k197 2 53 [(4, .int vg30), (0, .ref 116), (1, .int x1), (2, .int x2), (3, .int x3)] [.int vg30] i a q r (by rfl) ?_
              refine ft_if mi_k197 (decide (0 ≤ vg30)) 59 56 [(4, .int vg30), (0, .ref 116), (1, .int x1), (2, .int x2), (3, .int x3)] [] (by rfl) (fun c => ?_) (fun c => ?_)
              ·
                have c32 : (0 : Int32).toInt ≤ vg30.toInt := kd_le c; clear c
                have s33 : (x1 / 10).toInt = (x1.toInt / 10) := kd_div 10 kos10 (by decide) (os0 z2.1)
                refine ft_go mi_k197 4 64 [(4, .int vg30), (0, .ref 116), (1, .int x1), (2, .int x2), (3, .int x3)] [.int (x1 / 10), .ref 116] i a q r (by rfl) ?_
                refine ko_callN mi_k197.1 (pc := 64) (ls := [(4, .int vg30), (0, .ref 116), (1, .int x1), (2, .int x2), (3, .int x3)]) (st := [.int (x1 / 10), .ref 116]) (h := ks i a q r) (i := (.invokevirtual 279, 3, 174, 0, 9, 0, 411)) (mi_k197.2 _ _ (by rfl)) (ft_invS mi_pq174 (by rfl)) (cy := mi_c174) mi_pq174 rfl (kc174_116 hG.I hG.R (x1 / 10) (os349 s33 z2.1 z2.2.1.2 z2.2.2)) (by decide) ?_
                intro ig34 ag34 qg34 rg34 kg34 hg34
                have hGg34 := kG_call hG kg34 (by decide +kernel)
                refine ft_go mi_k197 2 69 [(4, .int vg30), (0, .ref 116), (1, .int x1), (2, .int x2), (3, .int x3)] [.int 1, .int x3] ig34 ag34 qg34 rg34 (by rfl) ?_
                refine ft_if mi_k197 (x3 != 1) 82 72 [(4, .int vg30), (0, .ref 116), (1, .int x1), (2, .int x2), (3, .int x3)] [] (by rfl) (fun c => ?_) (fun c => ?_)
                ·
                  have c36 : x3.toInt ≠ (1 : Int32).toInt := kd_ne c; clear c
                  refine ft_go mi_k197 1 83 [(4, .int vg30), (0, .ref 116), (1, .int x1), (2, .int x2), (3, .int x3)] [.int x3] ig34 ag34 qg34 rg34 (by rfl) ?_
                  refine ft_if mi_k197 (x3 != 0) 97 86 [(4, .int vg30), (0, .ref 116), (1, .int x1), (2, .int x2), (3, .int x3)] [] (by rfl) (fun c => ?_) (fun c => ?_)
                  ·
                    have c37 : x3.toInt ≠ (0 : Int32).toInt := kd_ne c; clear c
                    refine ft_go mi_k197 2 99 [(4, .int vg30), (0, .ref 116), (1, .int x1), (2, .int x2), (3, .int x3)] [.int 1, .int x3] ig34 ag34 qg34 rg34 (by rfl) ?_
                    refine ft_if mi_k197 (x3 != 1) 114 102 [(4, .int vg30), (0, .ref 116), (1, .int x1), (2, .int x2), (3, .int x3)] [] (by rfl) (fun c => ?_) (fun c => ?_)
                    ·
                      have c38 : x3.toInt ≠ (1 : Int32).toInt := kd_ne c; clear c
                      have s39 : (x1 - x1 / 10 * 10).toInt = (x1.toInt % 10) := kd_rem 10 kos10 (by decide) (os0 z2.1)
                      refine ft_go mi_k197 7 122 [(4, .int vg30), (0, .ref 116), (1, .int x1), (2, .int x2), (3, .int x3)] [.int 3, .int x3, .int x2, .int (x1 - x1 / 10 * 10), .ref 116] ig34 ag34 qg34 rg34 (by rfl) ?_
                      refine ft_if mi_k197 (x3 != 3) 129 125 [(4, .int vg30), (0, .ref 116), (1, .int x1), (2, .int x2), (3, .int x3)] [.int x2, .int (x1 - x1 / 10 * 10), .ref 116] (by rfl) (fun c => ?_) (fun c => ?_)
                      ·
                        have c40 : x3.toInt ≠ (3 : Int32).toInt := kd_ne c; clear c
                        refine ft_go mi_k197 1 130 [(4, .int vg30), (0, .ref 116), (1, .int x1), (2, .int x2), (3, .int x3)] [.int 0, .int x2, .int (x1 - x1 / 10 * 10), .ref 116] ig34 ag34 qg34 rg34 (by rfl) ?_
                        refine ko_callI mi_k197.1 (pc := 130) (ls := [(4, .int vg30), (0, .ref 116), (1, .int x1), (2, .int x2), (3, .int x3)]) (st := [.int 0, .int x2, .int (x1 - x1 / 10 * 10), .ref 116]) (h := ks ig34 ag34 qg34 rg34) (i := (.invokevirtual 329, 3, 196, 0, 9, 0, 448)) (mi_k197.2 _ _ (by rfl)) (ft_invS mi_pq196 (by rfl)) (cy := mi_c196) mi_pq196 rfl (ke196_116 hGg34.I hGg34.R (x1 - x1 / 10 * 10) x2 0 (os352 s39 z2.2.2) (os356 c6 fi_7424.2 z29.2 kos0) (kCode_of (i1 := ig34) hE_code (hGg34.fi 7432 rfl) (hGg34.fa 120 rfl) (hGg34.fa 121 rfl) (hGg34.fa 122 rfl) (hGg34.fa 123 rfl))) (by decide) ?_
                        intro vg41 ig41 ag41 qg41 rg41 kg41 hg41
                        have hGg41 := kG_call hGg34 kg41 (by decide +kernel)
                        obtain ⟨hg41, og41⟩ := hg41
                        have q42 : ag41 118 = ag34 118 := og41.1
                        have q43 : ag41 117 = ag34 117 := og41.2
                        have efig34_7426 : (ig34 7426).toInt = (i 7426).toInt := kg34.ti 7426 rfl
                        have efig41_7426 : (ig41 7426).toInt = (ig34 7426).toInt := kg41.ti 7426 rfl
                        exact ft_ret mi_k197 (by rfl) (hP vg41 _ _ _ _ hGg41 ⟨(os354 efig34_7426 efig41_7426), ⟨(show ag41 118 = a 118 from (by first | rfl | (simp only [q42, kg34.fa 118 rfl, sMn, sMx]; done) | (simp only [q42, kg34.fa 118 rfl, sMn, sMx]; rfl))), (show ag41 117 = a 117 from (by first | rfl | (simp only [q43, kg34.fa 117 rfl, sMn, sMx]; done) | (simp only [q43, kg34.fa 117 rfl, sMn, sMx]; rfl)))⟩⟩)
                      ·
                        have c44 : x3.toInt = (3 : Int32).toInt := kd_neF c; clear c
                        refine ft_go mi_k197 2 130 [(4, .int vg30), (0, .ref 116), (1, .int x1), (2, .int x2), (3, .int x3)] [.int 1, .int x2, .int (x1 - x1 / 10 * 10), .ref 116] ig34 ag34 qg34 rg34 (by rfl) ?_
                        refine ko_callI mi_k197.1 (pc := 130) (ls := [(4, .int vg30), (0, .ref 116), (1, .int x1), (2, .int x2), (3, .int x3)]) (st := [.int 1, .int x2, .int (x1 - x1 / 10 * 10), .ref 116]) (h := ks ig34 ag34 qg34 rg34) (i := (.invokevirtual 329, 3, 196, 0, 9, 0, 448)) (mi_k197.2 _ _ (by rfl)) (ft_invS mi_pq196 (by rfl)) (cy := mi_c196) mi_pq196 rfl (ke196_116 hGg34.I hGg34.R (x1 - x1 / 10 * 10) x2 1 (os352 s39 z2.2.2) (os356 c6 fi_7424.2 z29.2 kos0) (kCode_of (i1 := ig34) hE_code (hGg34.fi 7432 rfl) (hGg34.fa 120 rfl) (hGg34.fa 121 rfl) (hGg34.fa 122 rfl) (hGg34.fa 123 rfl))) (by decide) ?_
                        intro vg45 ig45 ag45 qg45 rg45 kg45 hg45
                        have hGg45 := kG_call hGg34 kg45 (by decide +kernel)
                        obtain ⟨hg45, og45⟩ := hg45
                        have q46 : ag45 118 = ag34 118 := og45.1
                        have q47 : ag45 117 = ag34 117 := og45.2
                        have efig34_7426 : (ig34 7426).toInt = (i 7426).toInt := kg34.ti 7426 rfl
                        have efig45_7426 : (ig45 7426).toInt = (ig34 7426).toInt := kg45.ti 7426 rfl
                        exact ft_ret mi_k197 (by rfl) (hP vg45 _ _ _ _ hGg45 ⟨(os354 efig34_7426 efig45_7426), ⟨(show ag45 118 = a 118 from (by first | rfl | (simp only [q46, kg34.fa 118 rfl, sMn, sMx]; done) | (simp only [q46, kg34.fa 118 rfl, sMn, sMx]; rfl))), (show ag45 117 = a 117 from (by first | rfl | (simp only [q47, kg34.fa 117 rfl, sMn, sMx]; done) | (simp only [q47, kg34.fa 117 rfl, sMn, sMx]; rfl)))⟩⟩)
                    ·
                      have c48 : x3.toInt = (1 : Int32).toInt := kd_neF c; clear c
                      exact (os357 c27 c48 kos1).elim
                  ·
                    have c49 : x3.toInt = (0 : Int32).toInt := kd_neF c; clear c
                    exact (os358 c27 c49 kos1 kos0).elim
                ·
                  have c50 : x3.toInt = (1 : Int32).toInt := kd_neF c; clear c
                  exact (os357 c27 c50 kos1).elim
              ·
                have c51 : vg30.toInt < (0 : Int32).toInt := kd_leF c; clear c
                refine ft_go mi_k197 1 58 [(4, .int vg30), (0, .ref 116), (1, .int x1), (2, .int x2), (3, .int x3)] [.int vg30] i a q r (by rfl) ?_
                exact ft_ret mi_k197 (by rfl) (hP vg30 _ _ _ _ hG ⟨os31, ⟨(show a 118 = a 118 from rfl), (show a 117 = a 117 from rfl)⟩⟩)
            ·
              subst eg28
              refine ft_go mi_k197 2 43 [(0, .ref 116), (1, .int x1), (2, .int x2), (3, .int x3)] [.int (-1)] i a q r (by rfl) ?_
              exact ft_ret mi_k197 (by rfl) (hP (-1) _ _ _ _ hG ⟨os31, ⟨(show a 118 = a 118 from rfl), (show a 117 = a 117 from rfl)⟩⟩)
        ·
          have c53 : x3.toInt = (0 : Int32).toInt := kd_neF c; clear c
          refine ft_go mi_k197 1 26 [(0, .ref 116), (1, .int x1), (2, .int x2), (3, .int x3)] [.int x2] i a q r (by rfl) ?_
          refine ft_if mi_k197 (x2 != 0) 42 29 [(0, .ref 116), (1, .int x1), (2, .int x2), (3, .int x3)] [] (by rfl) (fun c => ?_) (fun c => ?_)
          ·
            have c54 : x2.toInt ≠ (0 : Int32).toInt := kd_ne c; clear c
            refine ft_go mi_k197 1 43 [(0, .ref 116), (1, .int x1), (2, .int x2), (3, .int x3)] [.int (-1)] i a q r (by rfl) ?_
            exact ft_ret mi_k197 (by rfl) (hP (-1) _ _ _ _ hG ⟨os31, ⟨(show a 118 = a 118 from rfl), (show a 117 = a 117 from rfl)⟩⟩)
          ·
            have c55 : x2.toInt = (0 : Int32).toInt := kd_neF c; clear c
            refine ft_go mi_k197 2 31 [(0, .ref 116), (1, .int x1), (2, .int x2), (3, .int x3)] [.int 1, .int x3] i a q r (by rfl) ?_
            refine ft_if mi_k197 (decide (x3 ≤ 1)) 44 34 [(0, .ref 116), (1, .int x1), (2, .int x2), (3, .int x3)] [] (by rfl) (fun c => ?_) (fun c => ?_)
            ·
              have c56 : x3.toInt ≤ (1 : Int32).toInt := kd_le c; clear c
              refine ft_go mi_k197 2 46 [(0, .ref 116), (1, .int x1), (2, .int x2), (3, .int x3)] [.int x1, .ref 116] i a q r (by rfl) ?_
              refine ko_callPI mi_k197.1 (pc := 46) (ls := [(0, .ref 116), (1, .int x1), (2, .int x2), (3, .int x3)]) (st := [.int x1, .ref 116]) (h := ks i a q r) (i := (.invokevirtual 317, 3, 191, 0, 9, 0, 443)) (mi_k197.2 _ _ (by rfl)) (ft_invS mi_pq191 (by rfl)) (cy := mi_c191) mi_pq191 rfl (kc191_116 hG.I hG.R x1 (os329 z2.2.1.1 z2.2.1.2) (os0 z2.1) (os330 z2.2.2)) (by decide) ?_
              intro vg57 hg57
              refine ft_go mi_k197 2 53 [(4, .int vg57), (0, .ref 116), (1, .int x1), (2, .int x2), (3, .int x3)] [.int vg57] i a q r (by rfl) ?_
              refine ft_if mi_k197 (decide (0 ≤ vg57)) 59 56 [(4, .int vg57), (0, .ref 116), (1, .int x1), (2, .int x2), (3, .int x3)] [] (by rfl) (fun c => ?_) (fun c => ?_)
              ·
                have c59 : (0 : Int32).toInt ≤ vg57.toInt := kd_le c; clear c
                have s60 : (x1 / 10).toInt = (x1.toInt / 10) := kd_div 10 kos10 (by decide) (os0 z2.1)
                refine ft_go mi_k197 4 64 [(4, .int vg57), (0, .ref 116), (1, .int x1), (2, .int x2), (3, .int x3)] [.int (x1 / 10), .ref 116] i a q r (by rfl) ?_
                refine ko_callN mi_k197.1 (pc := 64) (ls := [(4, .int vg57), (0, .ref 116), (1, .int x1), (2, .int x2), (3, .int x3)]) (st := [.int (x1 / 10), .ref 116]) (h := ks i a q r) (i := (.invokevirtual 279, 3, 174, 0, 9, 0, 411)) (mi_k197.2 _ _ (by rfl)) (ft_invS mi_pq174 (by rfl)) (cy := mi_c174) mi_pq174 rfl (kc174_116 hG.I hG.R (x1 / 10) (os349 s60 z2.1 z2.2.1.2 z2.2.2)) (by decide) ?_
                intro ig61 ag61 qg61 rg61 kg61 hg61
                have hGg61 := kG_call hG kg61 (by decide +kernel)
                refine ft_go mi_k197 2 69 [(4, .int vg57), (0, .ref 116), (1, .int x1), (2, .int x2), (3, .int x3)] [.int 1, .int x3] ig61 ag61 qg61 rg61 (by rfl) ?_
                refine ft_if mi_k197 (x3 != 1) 82 72 [(4, .int vg57), (0, .ref 116), (1, .int x1), (2, .int x2), (3, .int x3)] [] (by rfl) (fun c => ?_) (fun c => ?_)
                ·
                  have c63 : x3.toInt ≠ (1 : Int32).toInt := kd_ne c; clear c
                  refine ft_go mi_k197 1 83 [(4, .int vg57), (0, .ref 116), (1, .int x1), (2, .int x2), (3, .int x3)] [.int x3] ig61 ag61 qg61 rg61 (by rfl) ?_
                  refine ft_if mi_k197 (x3 != 0) 97 86 [(4, .int vg57), (0, .ref 116), (1, .int x1), (2, .int x2), (3, .int x3)] [] (by rfl) (fun c => ?_) (fun c => ?_)
                  ·
                    have c64 : x3.toInt ≠ (0 : Int32).toInt := kd_ne c; clear c
                    exact (os359 c53 c64 z4.1 kos0).elim
                  ·
                    have c65 : x3.toInt = (0 : Int32).toInt := kd_neF c; clear c
                    have s66 : (x1 - x1 / 10 * 10).toInt = (x1.toInt % 10) := kd_rem 10 kos10 (by decide) (os0 z2.1)
                    refine ft_go mi_k197 4 91 [(4, .int vg57), (0, .ref 116), (1, .int x1), (2, .int x2), (3, .int x3)] [.int (x1 - x1 / 10 * 10), .ref 116] ig61 ag61 qg61 rg61 (by rfl) ?_
                    refine ko_callI mi_k197.1 (pc := 91) (ls := [(4, .int vg57), (0, .ref 116), (1, .int x1), (2, .int x2), (3, .int x3)]) (st := [.int (x1 - x1 / 10 * 10), .ref 116]) (h := ks ig61 ag61 qg61 rg61) (i := (.invokevirtual 323, 3, 194, 0, 9, 0, 446)) (mi_k197.2 _ _ (by rfl)) (ft_invS mi_pq194 (by rfl)) (cy := mi_c194) mi_pq194 rfl (ke194_116 hGg61.I hGg61.R (x1 - x1 / 10 * 10) (os352 s66 z2.2.2) (kCode_of (i1 := ig61) hE_code (hGg61.fi 7432 rfl) (hGg61.fa 120 rfl) (hGg61.fa 121 rfl) (hGg61.fa 122 rfl) (hGg61.fa 123 rfl))) (by decide) ?_
                    intro vg67 ig67 ag67 qg67 rg67 kg67 hg67
                    have hGg67 := kG_call hGg61 kg67 (by decide +kernel)
                    obtain ⟨hg67, og67⟩ := hg67
                    have efig61_7426 : (ig61 7426).toInt = (i 7426).toInt := kg61.ti 7426 rfl
                    have z68 : (ig67 7426).toInt = (ig61 7426).toInt := hg67
                    have q69 : ag67 118 = ag61 118 := og67
                    refine ft_go mi_k197 1 133 [(4, .int vg57), (0, .ref 116), (1, .int x1), (2, .int x2), (3, .int x3)] [.int vg67] ig67 ag67 qg67 rg67 (by rfl) ?_
                    exact ft_ret mi_k197 (by rfl) (hP vg67 _ _ _ _ hGg67 ⟨(os354 efig61_7426 z68), ⟨(show ag67 118 = a 118 from (by first | rfl | (simp only [q69, kg61.fa 118 rfl, sMn, sMx]; done) | (simp only [q69, kg61.fa 118 rfl, sMn, sMx]; rfl))), (show ag67 117 = a 117 from (by first | rfl | (simp only [kg67.fa 117 rfl, kg61.fa 117 rfl, sMn, sMx]; done) | (simp only [kg67.fa 117 rfl, kg61.fa 117 rfl, sMn, sMx]; rfl)))⟩⟩)
                ·
                  have c70 : x3.toInt = (1 : Int32).toInt := kd_neF c; clear c
                  exact (os370 c53 c70 kos0 kos1).elim
              ·
                have c71 : vg57.toInt < (0 : Int32).toInt := kd_leF c; clear c
                refine ft_go mi_k197 1 58 [(4, .int vg57), (0, .ref 116), (1, .int x1), (2, .int x2), (3, .int x3)] [.int vg57] i a q r (by rfl) ?_
                exact ft_ret mi_k197 (by rfl) (hP vg57 _ _ _ _ hG ⟨os31, ⟨(show a 118 = a 118 from rfl), (show a 117 = a 117 from rfl)⟩⟩)
            ·
              have c72 : (1 : Int32).toInt < x3.toInt := kd_leF c; clear c
              exact (os371 c53 c72 kos0 kos1).elim
    ·
      subst eg3
      refine ft_go mi_k197 2 43 [(0, .ref 116), (1, .int x1), (2, .int x2), (3, .int x3)] [.int (-1)] i a q r (by rfl) ?_
      exact ft_ret mi_k197 (by rfl) (hP (-1) _ _ _ _ hG ⟨os31, ⟨(show a 118 = a 118 from rfl), (show a 117 = a 117 from rfl)⟩⟩)
  ·
    subst eg1
    refine ft_go mi_k197 2 43 [(0, .ref 116), (1, .int x1), (2, .int x2), (3, .int x3)] [.int (-1)] i a q r (by rfl) ?_
    exact ft_ret mi_k197 (by rfl) (hP (-1) _ _ _ _ hG ⟨os31, ⟨(show a 118 = a 118 from rfl), (show a 117 = a 117 from rfl)⟩⟩)

